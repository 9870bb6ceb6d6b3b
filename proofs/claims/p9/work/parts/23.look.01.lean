theorem dgX5_meetGlass_0 : ∀ r ∈ ([(0, (.aload_n 0, 1)), (1, (.iconst 1, 1)), (2, (.putfield 56, 3)), (5, (.aload_n 0, 1)), (6, (.getfield 22, 3)), (9, (.getfield 128, 3)), (12, (.iconst 0, 1)), (13, (.aload_n 0, 1)), (14, (.getfield 26, 3)), (17, (.invokevirtual 131, 3)), (20, (.istore_n 1, 1)), (21, (.iload_n 1, 1)), (22, (.iconst (-1), 1)), (23, (.if_icmp .ne 13, 3)), (26, (.aload_n 0, 1)), (27, (.getfield 22, 3)), (30, (.getfield 98, 3)), (33, (.goto 10, 3)), (36, (.aload_n 0, 1)), (37, (.getfield 22, 3)), (40, (.getfield 128, 3)), (43, (.astore_n 2, 1)), (44, (.iload_n 1, 1)), (45, (.iconst (-1), 1)), (46, (.if_icmp .ne 21, 3)), (49, (.aload_n 0, 1)), (50, (.getfield 22, 3)), (53, (.getfield 98, 3)), (56, (.iconst 0, 1)), (57, (.aload_n 0, 1)), (58, (.getfield 26, 3)), (61, (.invokevirtual 131, 3)), (64, (.goto 4, 3)), (67, (.iload_n 1, 1)), (68, (.istore_n 3, 1)), (69, (.iload_n 1, 1)), (70, (.iconst (-1), 1)), (71, (.if_icmp .ne 10, 3)), (74, (.bipush 6, 2)), (76, (.iload_n 3, 1))] : List (Nat × (Instr × Nat))), decode cX5_meetGlass r.1 = .ok r.2 := by decide +kernel
theorem dX5_meetGlass_0 : decode cX5_meetGlass 0 = .ok (.aload_n 0, 1) := dgX5_meetGlass_0 (0, (.aload_n 0, 1)) (List.mem_of_getElem? (i := 0) rfl)
theorem dX5_meetGlass_1 : decode cX5_meetGlass 1 = .ok (.iconst 1, 1) := dgX5_meetGlass_0 (1, (.iconst 1, 1)) (List.mem_of_getElem? (i := 1) rfl)
theorem dX5_meetGlass_2 : decode cX5_meetGlass 2 = .ok (.putfield 56, 3) := dgX5_meetGlass_0 (2, (.putfield 56, 3)) (List.mem_of_getElem? (i := 2) rfl)
theorem dX5_meetGlass_5 : decode cX5_meetGlass 5 = .ok (.aload_n 0, 1) := dgX5_meetGlass_0 (5, (.aload_n 0, 1)) (List.mem_of_getElem? (i := 3) rfl)
theorem dX5_meetGlass_6 : decode cX5_meetGlass 6 = .ok (.getfield 22, 3) := dgX5_meetGlass_0 (6, (.getfield 22, 3)) (List.mem_of_getElem? (i := 4) rfl)
theorem dX5_meetGlass_9 : decode cX5_meetGlass 9 = .ok (.getfield 128, 3) := dgX5_meetGlass_0 (9, (.getfield 128, 3)) (List.mem_of_getElem? (i := 5) rfl)
theorem dX5_meetGlass_12 : decode cX5_meetGlass 12 = .ok (.iconst 0, 1) := dgX5_meetGlass_0 (12, (.iconst 0, 1)) (List.mem_of_getElem? (i := 6) rfl)
theorem dX5_meetGlass_13 : decode cX5_meetGlass 13 = .ok (.aload_n 0, 1) := dgX5_meetGlass_0 (13, (.aload_n 0, 1)) (List.mem_of_getElem? (i := 7) rfl)
theorem dX5_meetGlass_14 : decode cX5_meetGlass 14 = .ok (.getfield 26, 3) := dgX5_meetGlass_0 (14, (.getfield 26, 3)) (List.mem_of_getElem? (i := 8) rfl)
theorem dX5_meetGlass_17 : decode cX5_meetGlass 17 = .ok (.invokevirtual 131, 3) := dgX5_meetGlass_0 (17, (.invokevirtual 131, 3)) (List.mem_of_getElem? (i := 9) rfl)
theorem dX5_meetGlass_20 : decode cX5_meetGlass 20 = .ok (.istore_n 1, 1) := dgX5_meetGlass_0 (20, (.istore_n 1, 1)) (List.mem_of_getElem? (i := 10) rfl)
theorem dX5_meetGlass_21 : decode cX5_meetGlass 21 = .ok (.iload_n 1, 1) := dgX5_meetGlass_0 (21, (.iload_n 1, 1)) (List.mem_of_getElem? (i := 11) rfl)
theorem dX5_meetGlass_22 : decode cX5_meetGlass 22 = .ok (.iconst (-1), 1) := dgX5_meetGlass_0 (22, (.iconst (-1), 1)) (List.mem_of_getElem? (i := 12) rfl)
theorem dX5_meetGlass_23 : decode cX5_meetGlass 23 = .ok (.if_icmp .ne 13, 3) := dgX5_meetGlass_0 (23, (.if_icmp .ne 13, 3)) (List.mem_of_getElem? (i := 13) rfl)
theorem dX5_meetGlass_26 : decode cX5_meetGlass 26 = .ok (.aload_n 0, 1) := dgX5_meetGlass_0 (26, (.aload_n 0, 1)) (List.mem_of_getElem? (i := 14) rfl)
theorem dX5_meetGlass_27 : decode cX5_meetGlass 27 = .ok (.getfield 22, 3) := dgX5_meetGlass_0 (27, (.getfield 22, 3)) (List.mem_of_getElem? (i := 15) rfl)
theorem dX5_meetGlass_30 : decode cX5_meetGlass 30 = .ok (.getfield 98, 3) := dgX5_meetGlass_0 (30, (.getfield 98, 3)) (List.mem_of_getElem? (i := 16) rfl)
theorem dX5_meetGlass_33 : decode cX5_meetGlass 33 = .ok (.goto 10, 3) := dgX5_meetGlass_0 (33, (.goto 10, 3)) (List.mem_of_getElem? (i := 17) rfl)
theorem dX5_meetGlass_36 : decode cX5_meetGlass 36 = .ok (.aload_n 0, 1) := dgX5_meetGlass_0 (36, (.aload_n 0, 1)) (List.mem_of_getElem? (i := 18) rfl)
theorem dX5_meetGlass_37 : decode cX5_meetGlass 37 = .ok (.getfield 22, 3) := dgX5_meetGlass_0 (37, (.getfield 22, 3)) (List.mem_of_getElem? (i := 19) rfl)
theorem dX5_meetGlass_40 : decode cX5_meetGlass 40 = .ok (.getfield 128, 3) := dgX5_meetGlass_0 (40, (.getfield 128, 3)) (List.mem_of_getElem? (i := 20) rfl)
theorem dX5_meetGlass_43 : decode cX5_meetGlass 43 = .ok (.astore_n 2, 1) := dgX5_meetGlass_0 (43, (.astore_n 2, 1)) (List.mem_of_getElem? (i := 21) rfl)
theorem dX5_meetGlass_44 : decode cX5_meetGlass 44 = .ok (.iload_n 1, 1) := dgX5_meetGlass_0 (44, (.iload_n 1, 1)) (List.mem_of_getElem? (i := 22) rfl)
theorem dX5_meetGlass_45 : decode cX5_meetGlass 45 = .ok (.iconst (-1), 1) := dgX5_meetGlass_0 (45, (.iconst (-1), 1)) (List.mem_of_getElem? (i := 23) rfl)
theorem dX5_meetGlass_46 : decode cX5_meetGlass 46 = .ok (.if_icmp .ne 21, 3) := dgX5_meetGlass_0 (46, (.if_icmp .ne 21, 3)) (List.mem_of_getElem? (i := 24) rfl)
theorem dX5_meetGlass_49 : decode cX5_meetGlass 49 = .ok (.aload_n 0, 1) := dgX5_meetGlass_0 (49, (.aload_n 0, 1)) (List.mem_of_getElem? (i := 25) rfl)
theorem dX5_meetGlass_50 : decode cX5_meetGlass 50 = .ok (.getfield 22, 3) := dgX5_meetGlass_0 (50, (.getfield 22, 3)) (List.mem_of_getElem? (i := 26) rfl)
theorem dX5_meetGlass_53 : decode cX5_meetGlass 53 = .ok (.getfield 98, 3) := dgX5_meetGlass_0 (53, (.getfield 98, 3)) (List.mem_of_getElem? (i := 27) rfl)
theorem dX5_meetGlass_56 : decode cX5_meetGlass 56 = .ok (.iconst 0, 1) := dgX5_meetGlass_0 (56, (.iconst 0, 1)) (List.mem_of_getElem? (i := 28) rfl)
theorem dX5_meetGlass_57 : decode cX5_meetGlass 57 = .ok (.aload_n 0, 1) := dgX5_meetGlass_0 (57, (.aload_n 0, 1)) (List.mem_of_getElem? (i := 29) rfl)
theorem dX5_meetGlass_58 : decode cX5_meetGlass 58 = .ok (.getfield 26, 3) := dgX5_meetGlass_0 (58, (.getfield 26, 3)) (List.mem_of_getElem? (i := 30) rfl)
theorem dX5_meetGlass_61 : decode cX5_meetGlass 61 = .ok (.invokevirtual 131, 3) := dgX5_meetGlass_0 (61, (.invokevirtual 131, 3)) (List.mem_of_getElem? (i := 31) rfl)
theorem dX5_meetGlass_64 : decode cX5_meetGlass 64 = .ok (.goto 4, 3) := dgX5_meetGlass_0 (64, (.goto 4, 3)) (List.mem_of_getElem? (i := 32) rfl)
theorem dX5_meetGlass_67 : decode cX5_meetGlass 67 = .ok (.iload_n 1, 1) := dgX5_meetGlass_0 (67, (.iload_n 1, 1)) (List.mem_of_getElem? (i := 33) rfl)
theorem dX5_meetGlass_68 : decode cX5_meetGlass 68 = .ok (.istore_n 3, 1) := dgX5_meetGlass_0 (68, (.istore_n 3, 1)) (List.mem_of_getElem? (i := 34) rfl)
theorem dX5_meetGlass_69 : decode cX5_meetGlass 69 = .ok (.iload_n 1, 1) := dgX5_meetGlass_0 (69, (.iload_n 1, 1)) (List.mem_of_getElem? (i := 35) rfl)
theorem dX5_meetGlass_70 : decode cX5_meetGlass 70 = .ok (.iconst (-1), 1) := dgX5_meetGlass_0 (70, (.iconst (-1), 1)) (List.mem_of_getElem? (i := 36) rfl)
theorem dX5_meetGlass_71 : decode cX5_meetGlass 71 = .ok (.if_icmp .ne 10, 3) := dgX5_meetGlass_0 (71, (.if_icmp .ne 10, 3)) (List.mem_of_getElem? (i := 37) rfl)
theorem dX5_meetGlass_74 : decode cX5_meetGlass 74 = .ok (.bipush 6, 2) := dgX5_meetGlass_0 (74, (.bipush 6, 2)) (List.mem_of_getElem? (i := 38) rfl)
theorem dX5_meetGlass_76 : decode cX5_meetGlass 76 = .ok (.iload_n 3, 1) := dgX5_meetGlass_0 (76, (.iload_n 3, 1)) (List.mem_of_getElem? (i := 39) rfl)
theorem dgX5_meetGlass_1 : ∀ r ∈ ([(77, (.iadd, 1)), (78, (.goto 4, 3)), (81, (.iload_n 1, 1)), (82, (.istore 4, 2)), (84, (.aload_n 2, 1)), (85, (.iload_n 3, 1)), (86, (.iconst 1, 1)), (87, (.invokevirtual 107, 3)), (90, (.istore 5, 2)), (92, (.aload_n 0, 1)), (93, (.dup, 1)), (94, (.getfield 95, 3)), (97, (.iconst 1, 1)), (98, (.iload 4, 2)), (100, (.ishl, 1)), (101, (.ior, 1)), (102, (.putfield 95, 3)), (105, (.aload_n 0, 1)), (106, (.getfield 22, 3)), (109, (.invokevirtual 113, 3)), (112, (.astore 6, 2)), (114, (.aload_n 0, 1)), (115, (.iload 4, 2)), (117, (.iconst (-1), 1)), (118, (.invokevirtual 120, 3)), (121, (.aload_n 2, 1)), (122, (.iload_n 3, 1)), (123, (.iconst 4, 1)), (124, (.invokevirtual 107, 3)), (127, (.aload_n 0, 1)), (128, (.getfield 33, 3)), (131, (.ishr, 1)), (132, (.iconst 1, 1)), (133, (.iand, 1)), (134, (.ifCond .ne 35, 3)), (137, (.aload_n 0, 1)), (138, (.getfield 12, 3)), (141, (.aload 6, 2)), (143, (.iconst 2, 1)), (144, (.invokevirtual 124, 3))] : List (Nat × (Instr × Nat))), decode cX5_meetGlass r.1 = .ok r.2 := by decide +kernel
theorem dX5_meetGlass_77 : decode cX5_meetGlass 77 = .ok (.iadd, 1) := dgX5_meetGlass_1 (77, (.iadd, 1)) (List.mem_of_getElem? (i := 0) rfl)
theorem dX5_meetGlass_78 : decode cX5_meetGlass 78 = .ok (.goto 4, 3) := dgX5_meetGlass_1 (78, (.goto 4, 3)) (List.mem_of_getElem? (i := 1) rfl)
theorem dX5_meetGlass_81 : decode cX5_meetGlass 81 = .ok (.iload_n 1, 1) := dgX5_meetGlass_1 (81, (.iload_n 1, 1)) (List.mem_of_getElem? (i := 2) rfl)
theorem dX5_meetGlass_82 : decode cX5_meetGlass 82 = .ok (.istore 4, 2) := dgX5_meetGlass_1 (82, (.istore 4, 2)) (List.mem_of_getElem? (i := 3) rfl)
theorem dX5_meetGlass_84 : decode cX5_meetGlass 84 = .ok (.aload_n 2, 1) := dgX5_meetGlass_1 (84, (.aload_n 2, 1)) (List.mem_of_getElem? (i := 4) rfl)
theorem dX5_meetGlass_85 : decode cX5_meetGlass 85 = .ok (.iload_n 3, 1) := dgX5_meetGlass_1 (85, (.iload_n 3, 1)) (List.mem_of_getElem? (i := 5) rfl)
theorem dX5_meetGlass_86 : decode cX5_meetGlass 86 = .ok (.iconst 1, 1) := dgX5_meetGlass_1 (86, (.iconst 1, 1)) (List.mem_of_getElem? (i := 6) rfl)
theorem dX5_meetGlass_87 : decode cX5_meetGlass 87 = .ok (.invokevirtual 107, 3) := dgX5_meetGlass_1 (87, (.invokevirtual 107, 3)) (List.mem_of_getElem? (i := 7) rfl)
theorem dX5_meetGlass_90 : decode cX5_meetGlass 90 = .ok (.istore 5, 2) := dgX5_meetGlass_1 (90, (.istore 5, 2)) (List.mem_of_getElem? (i := 8) rfl)
theorem dX5_meetGlass_92 : decode cX5_meetGlass 92 = .ok (.aload_n 0, 1) := dgX5_meetGlass_1 (92, (.aload_n 0, 1)) (List.mem_of_getElem? (i := 9) rfl)
theorem dX5_meetGlass_93 : decode cX5_meetGlass 93 = .ok (.dup, 1) := dgX5_meetGlass_1 (93, (.dup, 1)) (List.mem_of_getElem? (i := 10) rfl)
theorem dX5_meetGlass_94 : decode cX5_meetGlass 94 = .ok (.getfield 95, 3) := dgX5_meetGlass_1 (94, (.getfield 95, 3)) (List.mem_of_getElem? (i := 11) rfl)
theorem dX5_meetGlass_97 : decode cX5_meetGlass 97 = .ok (.iconst 1, 1) := dgX5_meetGlass_1 (97, (.iconst 1, 1)) (List.mem_of_getElem? (i := 12) rfl)
theorem dX5_meetGlass_98 : decode cX5_meetGlass 98 = .ok (.iload 4, 2) := dgX5_meetGlass_1 (98, (.iload 4, 2)) (List.mem_of_getElem? (i := 13) rfl)
theorem dX5_meetGlass_100 : decode cX5_meetGlass 100 = .ok (.ishl, 1) := dgX5_meetGlass_1 (100, (.ishl, 1)) (List.mem_of_getElem? (i := 14) rfl)
theorem dX5_meetGlass_101 : decode cX5_meetGlass 101 = .ok (.ior, 1) := dgX5_meetGlass_1 (101, (.ior, 1)) (List.mem_of_getElem? (i := 15) rfl)
theorem dX5_meetGlass_102 : decode cX5_meetGlass 102 = .ok (.putfield 95, 3) := dgX5_meetGlass_1 (102, (.putfield 95, 3)) (List.mem_of_getElem? (i := 16) rfl)
theorem dX5_meetGlass_105 : decode cX5_meetGlass 105 = .ok (.aload_n 0, 1) := dgX5_meetGlass_1 (105, (.aload_n 0, 1)) (List.mem_of_getElem? (i := 17) rfl)
theorem dX5_meetGlass_106 : decode cX5_meetGlass 106 = .ok (.getfield 22, 3) := dgX5_meetGlass_1 (106, (.getfield 22, 3)) (List.mem_of_getElem? (i := 18) rfl)
theorem dX5_meetGlass_109 : decode cX5_meetGlass 109 = .ok (.invokevirtual 113, 3) := dgX5_meetGlass_1 (109, (.invokevirtual 113, 3)) (List.mem_of_getElem? (i := 19) rfl)
theorem dX5_meetGlass_112 : decode cX5_meetGlass 112 = .ok (.astore 6, 2) := dgX5_meetGlass_1 (112, (.astore 6, 2)) (List.mem_of_getElem? (i := 20) rfl)
theorem dX5_meetGlass_114 : decode cX5_meetGlass 114 = .ok (.aload_n 0, 1) := dgX5_meetGlass_1 (114, (.aload_n 0, 1)) (List.mem_of_getElem? (i := 21) rfl)
theorem dX5_meetGlass_115 : decode cX5_meetGlass 115 = .ok (.iload 4, 2) := dgX5_meetGlass_1 (115, (.iload 4, 2)) (List.mem_of_getElem? (i := 22) rfl)
theorem dX5_meetGlass_117 : decode cX5_meetGlass 117 = .ok (.iconst (-1), 1) := dgX5_meetGlass_1 (117, (.iconst (-1), 1)) (List.mem_of_getElem? (i := 23) rfl)
theorem dX5_meetGlass_118 : decode cX5_meetGlass 118 = .ok (.invokevirtual 120, 3) := dgX5_meetGlass_1 (118, (.invokevirtual 120, 3)) (List.mem_of_getElem? (i := 24) rfl)
theorem dX5_meetGlass_121 : decode cX5_meetGlass 121 = .ok (.aload_n 2, 1) := dgX5_meetGlass_1 (121, (.aload_n 2, 1)) (List.mem_of_getElem? (i := 25) rfl)
theorem dX5_meetGlass_122 : decode cX5_meetGlass 122 = .ok (.iload_n 3, 1) := dgX5_meetGlass_1 (122, (.iload_n 3, 1)) (List.mem_of_getElem? (i := 26) rfl)
theorem dX5_meetGlass_123 : decode cX5_meetGlass 123 = .ok (.iconst 4, 1) := dgX5_meetGlass_1 (123, (.iconst 4, 1)) (List.mem_of_getElem? (i := 27) rfl)
theorem dX5_meetGlass_124 : decode cX5_meetGlass 124 = .ok (.invokevirtual 107, 3) := dgX5_meetGlass_1 (124, (.invokevirtual 107, 3)) (List.mem_of_getElem? (i := 28) rfl)
theorem dX5_meetGlass_127 : decode cX5_meetGlass 127 = .ok (.aload_n 0, 1) := dgX5_meetGlass_1 (127, (.aload_n 0, 1)) (List.mem_of_getElem? (i := 29) rfl)
theorem dX5_meetGlass_128 : decode cX5_meetGlass 128 = .ok (.getfield 33, 3) := dgX5_meetGlass_1 (128, (.getfield 33, 3)) (List.mem_of_getElem? (i := 30) rfl)
theorem dX5_meetGlass_131 : decode cX5_meetGlass 131 = .ok (.ishr, 1) := dgX5_meetGlass_1 (131, (.ishr, 1)) (List.mem_of_getElem? (i := 31) rfl)
theorem dX5_meetGlass_132 : decode cX5_meetGlass 132 = .ok (.iconst 1, 1) := dgX5_meetGlass_1 (132, (.iconst 1, 1)) (List.mem_of_getElem? (i := 32) rfl)
theorem dX5_meetGlass_133 : decode cX5_meetGlass 133 = .ok (.iand, 1) := dgX5_meetGlass_1 (133, (.iand, 1)) (List.mem_of_getElem? (i := 33) rfl)
theorem dX5_meetGlass_134 : decode cX5_meetGlass 134 = .ok (.ifCond .ne 35, 3) := dgX5_meetGlass_1 (134, (.ifCond .ne 35, 3)) (List.mem_of_getElem? (i := 34) rfl)
theorem dX5_meetGlass_137 : decode cX5_meetGlass 137 = .ok (.aload_n 0, 1) := dgX5_meetGlass_1 (137, (.aload_n 0, 1)) (List.mem_of_getElem? (i := 35) rfl)
theorem dX5_meetGlass_138 : decode cX5_meetGlass 138 = .ok (.getfield 12, 3) := dgX5_meetGlass_1 (138, (.getfield 12, 3)) (List.mem_of_getElem? (i := 36) rfl)
theorem dX5_meetGlass_141 : decode cX5_meetGlass 141 = .ok (.aload 6, 2) := dgX5_meetGlass_1 (141, (.aload 6, 2)) (List.mem_of_getElem? (i := 37) rfl)
theorem dX5_meetGlass_143 : decode cX5_meetGlass 143 = .ok (.iconst 2, 1) := dgX5_meetGlass_1 (143, (.iconst 2, 1)) (List.mem_of_getElem? (i := 38) rfl)
theorem dX5_meetGlass_144 : decode cX5_meetGlass 144 = .ok (.invokevirtual 124, 3) := dgX5_meetGlass_1 (144, (.invokevirtual 124, 3)) (List.mem_of_getElem? (i := 39) rfl)
theorem dgX5_meetGlass_2 : ∀ r ∈ ([(147, (.ifCond .ne 22, 3)), (150, (.iload 5, 2)), (152, (.iconst 2, 1)), (153, (.if_icmp .lt 17, 3)), (156, (.iload 5, 2)), (158, (.iconst 2, 1)), (159, (.isub, 1)), (160, (.aload_n 0, 1)), (161, (.getfield 30, 3)), (164, (.iconst 2, 1)), (165, (.ixor, 1)), (166, (.if_icmp .eq 4, 3)), (169, (.return_, 1)), (170, (.aload_n 0, 1)), (171, (.getfield 12, 3)), (174, (.aload 6, 2)), (176, (.iconst 0, 1)), (177, (.invokevirtual 124, 3)), (180, (.ifCond .eq 15, 3)), (183, (.aload_n 0, 1)), (184, (.getfield 12, 3)), (187, (.bipush 23, 2)), (189, (.invokevirtual 134, 3)), (192, (.goto 9, 3)), (195, (.aload_n 2, 1)), (196, (.iload_n 3, 1)), (197, (.iconst 2, 1)), (198, (.invokevirtual 107, 3)), (201, (.istore 7, 2)), (203, (.iload 7, 2)), (205, (.aload_n 0, 1)), (206, (.getfield 33, 3)), (209, (.if_icmp .le 4, 3)), (212, (.return_, 1)), (213, (.aload_n 0, 1)), (214, (.getfield 12, 3)), (217, (.aload 6, 2)), (219, (.iconst 1, 1)), (220, (.invokevirtual 124, 3)), (223, (.ifCond .eq 15, 3))] : List (Nat × (Instr × Nat))), decode cX5_meetGlass r.1 = .ok r.2 := by decide +kernel
theorem dX5_meetGlass_147 : decode cX5_meetGlass 147 = .ok (.ifCond .ne 22, 3) := dgX5_meetGlass_2 (147, (.ifCond .ne 22, 3)) (List.mem_of_getElem? (i := 0) rfl)
theorem dX5_meetGlass_150 : decode cX5_meetGlass 150 = .ok (.iload 5, 2) := dgX5_meetGlass_2 (150, (.iload 5, 2)) (List.mem_of_getElem? (i := 1) rfl)
theorem dX5_meetGlass_152 : decode cX5_meetGlass 152 = .ok (.iconst 2, 1) := dgX5_meetGlass_2 (152, (.iconst 2, 1)) (List.mem_of_getElem? (i := 2) rfl)
theorem dX5_meetGlass_153 : decode cX5_meetGlass 153 = .ok (.if_icmp .lt 17, 3) := dgX5_meetGlass_2 (153, (.if_icmp .lt 17, 3)) (List.mem_of_getElem? (i := 3) rfl)
theorem dX5_meetGlass_156 : decode cX5_meetGlass 156 = .ok (.iload 5, 2) := dgX5_meetGlass_2 (156, (.iload 5, 2)) (List.mem_of_getElem? (i := 4) rfl)
theorem dX5_meetGlass_158 : decode cX5_meetGlass 158 = .ok (.iconst 2, 1) := dgX5_meetGlass_2 (158, (.iconst 2, 1)) (List.mem_of_getElem? (i := 5) rfl)
theorem dX5_meetGlass_159 : decode cX5_meetGlass 159 = .ok (.isub, 1) := dgX5_meetGlass_2 (159, (.isub, 1)) (List.mem_of_getElem? (i := 6) rfl)
theorem dX5_meetGlass_160 : decode cX5_meetGlass 160 = .ok (.aload_n 0, 1) := dgX5_meetGlass_2 (160, (.aload_n 0, 1)) (List.mem_of_getElem? (i := 7) rfl)
theorem dX5_meetGlass_161 : decode cX5_meetGlass 161 = .ok (.getfield 30, 3) := dgX5_meetGlass_2 (161, (.getfield 30, 3)) (List.mem_of_getElem? (i := 8) rfl)
theorem dX5_meetGlass_164 : decode cX5_meetGlass 164 = .ok (.iconst 2, 1) := dgX5_meetGlass_2 (164, (.iconst 2, 1)) (List.mem_of_getElem? (i := 9) rfl)
theorem dX5_meetGlass_165 : decode cX5_meetGlass 165 = .ok (.ixor, 1) := dgX5_meetGlass_2 (165, (.ixor, 1)) (List.mem_of_getElem? (i := 10) rfl)
theorem dX5_meetGlass_166 : decode cX5_meetGlass 166 = .ok (.if_icmp .eq 4, 3) := dgX5_meetGlass_2 (166, (.if_icmp .eq 4, 3)) (List.mem_of_getElem? (i := 11) rfl)
theorem dX5_meetGlass_169 : decode cX5_meetGlass 169 = .ok (.return_, 1) := dgX5_meetGlass_2 (169, (.return_, 1)) (List.mem_of_getElem? (i := 12) rfl)
theorem dX5_meetGlass_170 : decode cX5_meetGlass 170 = .ok (.aload_n 0, 1) := dgX5_meetGlass_2 (170, (.aload_n 0, 1)) (List.mem_of_getElem? (i := 13) rfl)
theorem dX5_meetGlass_171 : decode cX5_meetGlass 171 = .ok (.getfield 12, 3) := dgX5_meetGlass_2 (171, (.getfield 12, 3)) (List.mem_of_getElem? (i := 14) rfl)
theorem dX5_meetGlass_174 : decode cX5_meetGlass 174 = .ok (.aload 6, 2) := dgX5_meetGlass_2 (174, (.aload 6, 2)) (List.mem_of_getElem? (i := 15) rfl)
theorem dX5_meetGlass_176 : decode cX5_meetGlass 176 = .ok (.iconst 0, 1) := dgX5_meetGlass_2 (176, (.iconst 0, 1)) (List.mem_of_getElem? (i := 16) rfl)
theorem dX5_meetGlass_177 : decode cX5_meetGlass 177 = .ok (.invokevirtual 124, 3) := dgX5_meetGlass_2 (177, (.invokevirtual 124, 3)) (List.mem_of_getElem? (i := 17) rfl)
theorem dX5_meetGlass_180 : decode cX5_meetGlass 180 = .ok (.ifCond .eq 15, 3) := dgX5_meetGlass_2 (180, (.ifCond .eq 15, 3)) (List.mem_of_getElem? (i := 18) rfl)
theorem dX5_meetGlass_183 : decode cX5_meetGlass 183 = .ok (.aload_n 0, 1) := dgX5_meetGlass_2 (183, (.aload_n 0, 1)) (List.mem_of_getElem? (i := 19) rfl)
theorem dX5_meetGlass_184 : decode cX5_meetGlass 184 = .ok (.getfield 12, 3) := dgX5_meetGlass_2 (184, (.getfield 12, 3)) (List.mem_of_getElem? (i := 20) rfl)
theorem dX5_meetGlass_187 : decode cX5_meetGlass 187 = .ok (.bipush 23, 2) := dgX5_meetGlass_2 (187, (.bipush 23, 2)) (List.mem_of_getElem? (i := 21) rfl)
theorem dX5_meetGlass_189 : decode cX5_meetGlass 189 = .ok (.invokevirtual 134, 3) := dgX5_meetGlass_2 (189, (.invokevirtual 134, 3)) (List.mem_of_getElem? (i := 22) rfl)
theorem dX5_meetGlass_192 : decode cX5_meetGlass 192 = .ok (.goto 9, 3) := dgX5_meetGlass_2 (192, (.goto 9, 3)) (List.mem_of_getElem? (i := 23) rfl)
theorem dX5_meetGlass_195 : decode cX5_meetGlass 195 = .ok (.aload_n 2, 1) := dgX5_meetGlass_2 (195, (.aload_n 2, 1)) (List.mem_of_getElem? (i := 24) rfl)
theorem dX5_meetGlass_196 : decode cX5_meetGlass 196 = .ok (.iload_n 3, 1) := dgX5_meetGlass_2 (196, (.iload_n 3, 1)) (List.mem_of_getElem? (i := 25) rfl)
theorem dX5_meetGlass_197 : decode cX5_meetGlass 197 = .ok (.iconst 2, 1) := dgX5_meetGlass_2 (197, (.iconst 2, 1)) (List.mem_of_getElem? (i := 26) rfl)
theorem dX5_meetGlass_198 : decode cX5_meetGlass 198 = .ok (.invokevirtual 107, 3) := dgX5_meetGlass_2 (198, (.invokevirtual 107, 3)) (List.mem_of_getElem? (i := 27) rfl)
theorem dX5_meetGlass_201 : decode cX5_meetGlass 201 = .ok (.istore 7, 2) := dgX5_meetGlass_2 (201, (.istore 7, 2)) (List.mem_of_getElem? (i := 28) rfl)
theorem dX5_meetGlass_203 : decode cX5_meetGlass 203 = .ok (.iload 7, 2) := dgX5_meetGlass_2 (203, (.iload 7, 2)) (List.mem_of_getElem? (i := 29) rfl)
theorem dX5_meetGlass_205 : decode cX5_meetGlass 205 = .ok (.aload_n 0, 1) := dgX5_meetGlass_2 (205, (.aload_n 0, 1)) (List.mem_of_getElem? (i := 30) rfl)
theorem dX5_meetGlass_206 : decode cX5_meetGlass 206 = .ok (.getfield 33, 3) := dgX5_meetGlass_2 (206, (.getfield 33, 3)) (List.mem_of_getElem? (i := 31) rfl)
theorem dX5_meetGlass_209 : decode cX5_meetGlass 209 = .ok (.if_icmp .le 4, 3) := dgX5_meetGlass_2 (209, (.if_icmp .le 4, 3)) (List.mem_of_getElem? (i := 32) rfl)
theorem dX5_meetGlass_212 : decode cX5_meetGlass 212 = .ok (.return_, 1) := dgX5_meetGlass_2 (212, (.return_, 1)) (List.mem_of_getElem? (i := 33) rfl)
theorem dX5_meetGlass_213 : decode cX5_meetGlass 213 = .ok (.aload_n 0, 1) := dgX5_meetGlass_2 (213, (.aload_n 0, 1)) (List.mem_of_getElem? (i := 34) rfl)
theorem dX5_meetGlass_214 : decode cX5_meetGlass 214 = .ok (.getfield 12, 3) := dgX5_meetGlass_2 (214, (.getfield 12, 3)) (List.mem_of_getElem? (i := 35) rfl)
theorem dX5_meetGlass_217 : decode cX5_meetGlass 217 = .ok (.aload 6, 2) := dgX5_meetGlass_2 (217, (.aload 6, 2)) (List.mem_of_getElem? (i := 36) rfl)
theorem dX5_meetGlass_219 : decode cX5_meetGlass 219 = .ok (.iconst 1, 1) := dgX5_meetGlass_2 (219, (.iconst 1, 1)) (List.mem_of_getElem? (i := 37) rfl)
theorem dX5_meetGlass_220 : decode cX5_meetGlass 220 = .ok (.invokevirtual 124, 3) := dgX5_meetGlass_2 (220, (.invokevirtual 124, 3)) (List.mem_of_getElem? (i := 38) rfl)
theorem dX5_meetGlass_223 : decode cX5_meetGlass 223 = .ok (.ifCond .eq 15, 3) := dgX5_meetGlass_2 (223, (.ifCond .eq 15, 3)) (List.mem_of_getElem? (i := 39) rfl)
theorem dgX5_meetGlass_3 : ∀ r ∈ ([(226, (.aload_n 0, 1)), (227, (.getfield 12, 3)), (230, (.bipush 10, 2)), (232, (.invokevirtual 134, 3)), (235, (.goto 9, 3)), (238, (.aload_n 2, 1)), (239, (.iload_n 3, 1)), (240, (.iconst 3, 1)), (241, (.invokevirtual 107, 3)), (244, (.istore 8, 2)), (246, (.aload_n 0, 1)), (247, (.aload_n 0, 1)), (248, (.getfield 46, 3)), (251, (.bipush 10, 2)), (253, (.iload 8, 2)), (255, (.isub, 1)), (256, (.imul, 1)), (257, (.bipush 10, 2)), (259, (.idiv, 1)), (260, (.putfield 46, 3)), (263, (.aload_n 0, 1)), (264, (.getfield 46, 3)), (267, (.aload_n 0, 1)), (268, (.getfield 22, 3)), (271, (.getfield 138, 3)), (274, (.if_icmp .ge 4, 3)), (277, (.return_, 1)), (278, (.aload_n 0, 1)), (279, (.dup, 1)), (280, (.getfield 33, 3)), (283, (.iload 7, 2)), (285, (.isub, 1)), (286, (.putfield 33, 3)), (289, (.aload_n 0, 1)), (290, (.iload 5, 2)), (292, (.ifCond .ne 12, 3)), (295, (.aload_n 0, 1)), (296, (.getfield 30, 3)), (299, (.iconst 1, 1)), (300, (.ixor, 1))] : List (Nat × (Instr × Nat))), decode cX5_meetGlass r.1 = .ok r.2 := by decide +kernel
theorem dX5_meetGlass_226 : decode cX5_meetGlass 226 = .ok (.aload_n 0, 1) := dgX5_meetGlass_3 (226, (.aload_n 0, 1)) (List.mem_of_getElem? (i := 0) rfl)
theorem dX5_meetGlass_227 : decode cX5_meetGlass 227 = .ok (.getfield 12, 3) := dgX5_meetGlass_3 (227, (.getfield 12, 3)) (List.mem_of_getElem? (i := 1) rfl)
theorem dX5_meetGlass_230 : decode cX5_meetGlass 230 = .ok (.bipush 10, 2) := dgX5_meetGlass_3 (230, (.bipush 10, 2)) (List.mem_of_getElem? (i := 2) rfl)
theorem dX5_meetGlass_232 : decode cX5_meetGlass 232 = .ok (.invokevirtual 134, 3) := dgX5_meetGlass_3 (232, (.invokevirtual 134, 3)) (List.mem_of_getElem? (i := 3) rfl)
theorem dX5_meetGlass_235 : decode cX5_meetGlass 235 = .ok (.goto 9, 3) := dgX5_meetGlass_3 (235, (.goto 9, 3)) (List.mem_of_getElem? (i := 4) rfl)
theorem dX5_meetGlass_238 : decode cX5_meetGlass 238 = .ok (.aload_n 2, 1) := dgX5_meetGlass_3 (238, (.aload_n 2, 1)) (List.mem_of_getElem? (i := 5) rfl)
theorem dX5_meetGlass_239 : decode cX5_meetGlass 239 = .ok (.iload_n 3, 1) := dgX5_meetGlass_3 (239, (.iload_n 3, 1)) (List.mem_of_getElem? (i := 6) rfl)
theorem dX5_meetGlass_240 : decode cX5_meetGlass 240 = .ok (.iconst 3, 1) := dgX5_meetGlass_3 (240, (.iconst 3, 1)) (List.mem_of_getElem? (i := 7) rfl)
theorem dX5_meetGlass_241 : decode cX5_meetGlass 241 = .ok (.invokevirtual 107, 3) := dgX5_meetGlass_3 (241, (.invokevirtual 107, 3)) (List.mem_of_getElem? (i := 8) rfl)
theorem dX5_meetGlass_244 : decode cX5_meetGlass 244 = .ok (.istore 8, 2) := dgX5_meetGlass_3 (244, (.istore 8, 2)) (List.mem_of_getElem? (i := 9) rfl)
theorem dX5_meetGlass_246 : decode cX5_meetGlass 246 = .ok (.aload_n 0, 1) := dgX5_meetGlass_3 (246, (.aload_n 0, 1)) (List.mem_of_getElem? (i := 10) rfl)
theorem dX5_meetGlass_247 : decode cX5_meetGlass 247 = .ok (.aload_n 0, 1) := dgX5_meetGlass_3 (247, (.aload_n 0, 1)) (List.mem_of_getElem? (i := 11) rfl)
theorem dX5_meetGlass_248 : decode cX5_meetGlass 248 = .ok (.getfield 46, 3) := dgX5_meetGlass_3 (248, (.getfield 46, 3)) (List.mem_of_getElem? (i := 12) rfl)
theorem dX5_meetGlass_251 : decode cX5_meetGlass 251 = .ok (.bipush 10, 2) := dgX5_meetGlass_3 (251, (.bipush 10, 2)) (List.mem_of_getElem? (i := 13) rfl)
theorem dX5_meetGlass_253 : decode cX5_meetGlass 253 = .ok (.iload 8, 2) := dgX5_meetGlass_3 (253, (.iload 8, 2)) (List.mem_of_getElem? (i := 14) rfl)
theorem dX5_meetGlass_255 : decode cX5_meetGlass 255 = .ok (.isub, 1) := dgX5_meetGlass_3 (255, (.isub, 1)) (List.mem_of_getElem? (i := 15) rfl)
theorem dX5_meetGlass_256 : decode cX5_meetGlass 256 = .ok (.imul, 1) := dgX5_meetGlass_3 (256, (.imul, 1)) (List.mem_of_getElem? (i := 16) rfl)
theorem dX5_meetGlass_257 : decode cX5_meetGlass 257 = .ok (.bipush 10, 2) := dgX5_meetGlass_3 (257, (.bipush 10, 2)) (List.mem_of_getElem? (i := 17) rfl)
theorem dX5_meetGlass_259 : decode cX5_meetGlass 259 = .ok (.idiv, 1) := dgX5_meetGlass_3 (259, (.idiv, 1)) (List.mem_of_getElem? (i := 18) rfl)
theorem dX5_meetGlass_260 : decode cX5_meetGlass 260 = .ok (.putfield 46, 3) := dgX5_meetGlass_3 (260, (.putfield 46, 3)) (List.mem_of_getElem? (i := 19) rfl)
theorem dX5_meetGlass_263 : decode cX5_meetGlass 263 = .ok (.aload_n 0, 1) := dgX5_meetGlass_3 (263, (.aload_n 0, 1)) (List.mem_of_getElem? (i := 20) rfl)
theorem dX5_meetGlass_264 : decode cX5_meetGlass 264 = .ok (.getfield 46, 3) := dgX5_meetGlass_3 (264, (.getfield 46, 3)) (List.mem_of_getElem? (i := 21) rfl)
theorem dX5_meetGlass_267 : decode cX5_meetGlass 267 = .ok (.aload_n 0, 1) := dgX5_meetGlass_3 (267, (.aload_n 0, 1)) (List.mem_of_getElem? (i := 22) rfl)
theorem dX5_meetGlass_268 : decode cX5_meetGlass 268 = .ok (.getfield 22, 3) := dgX5_meetGlass_3 (268, (.getfield 22, 3)) (List.mem_of_getElem? (i := 23) rfl)
theorem dX5_meetGlass_271 : decode cX5_meetGlass 271 = .ok (.getfield 138, 3) := dgX5_meetGlass_3 (271, (.getfield 138, 3)) (List.mem_of_getElem? (i := 24) rfl)
theorem dX5_meetGlass_274 : decode cX5_meetGlass 274 = .ok (.if_icmp .ge 4, 3) := dgX5_meetGlass_3 (274, (.if_icmp .ge 4, 3)) (List.mem_of_getElem? (i := 25) rfl)
theorem dX5_meetGlass_277 : decode cX5_meetGlass 277 = .ok (.return_, 1) := dgX5_meetGlass_3 (277, (.return_, 1)) (List.mem_of_getElem? (i := 26) rfl)
theorem dX5_meetGlass_278 : decode cX5_meetGlass 278 = .ok (.aload_n 0, 1) := dgX5_meetGlass_3 (278, (.aload_n 0, 1)) (List.mem_of_getElem? (i := 27) rfl)
theorem dX5_meetGlass_279 : decode cX5_meetGlass 279 = .ok (.dup, 1) := dgX5_meetGlass_3 (279, (.dup, 1)) (List.mem_of_getElem? (i := 28) rfl)
theorem dX5_meetGlass_280 : decode cX5_meetGlass 280 = .ok (.getfield 33, 3) := dgX5_meetGlass_3 (280, (.getfield 33, 3)) (List.mem_of_getElem? (i := 29) rfl)
theorem dX5_meetGlass_283 : decode cX5_meetGlass 283 = .ok (.iload 7, 2) := dgX5_meetGlass_3 (283, (.iload 7, 2)) (List.mem_of_getElem? (i := 30) rfl)
theorem dX5_meetGlass_285 : decode cX5_meetGlass 285 = .ok (.isub, 1) := dgX5_meetGlass_3 (285, (.isub, 1)) (List.mem_of_getElem? (i := 31) rfl)
theorem dX5_meetGlass_286 : decode cX5_meetGlass 286 = .ok (.putfield 33, 3) := dgX5_meetGlass_3 (286, (.putfield 33, 3)) (List.mem_of_getElem? (i := 32) rfl)
theorem dX5_meetGlass_289 : decode cX5_meetGlass 289 = .ok (.aload_n 0, 1) := dgX5_meetGlass_3 (289, (.aload_n 0, 1)) (List.mem_of_getElem? (i := 33) rfl)
theorem dX5_meetGlass_290 : decode cX5_meetGlass 290 = .ok (.iload 5, 2) := dgX5_meetGlass_3 (290, (.iload 5, 2)) (List.mem_of_getElem? (i := 34) rfl)
theorem dX5_meetGlass_292 : decode cX5_meetGlass 292 = .ok (.ifCond .ne 12, 3) := dgX5_meetGlass_3 (292, (.ifCond .ne 12, 3)) (List.mem_of_getElem? (i := 35) rfl)
theorem dX5_meetGlass_295 : decode cX5_meetGlass 295 = .ok (.aload_n 0, 1) := dgX5_meetGlass_3 (295, (.aload_n 0, 1)) (List.mem_of_getElem? (i := 36) rfl)
theorem dX5_meetGlass_296 : decode cX5_meetGlass 296 = .ok (.getfield 30, 3) := dgX5_meetGlass_3 (296, (.getfield 30, 3)) (List.mem_of_getElem? (i := 37) rfl)
theorem dX5_meetGlass_299 : decode cX5_meetGlass 299 = .ok (.iconst 1, 1) := dgX5_meetGlass_3 (299, (.iconst 1, 1)) (List.mem_of_getElem? (i := 38) rfl)
theorem dX5_meetGlass_300 : decode cX5_meetGlass 300 = .ok (.ixor, 1) := dgX5_meetGlass_3 (300, (.ixor, 1)) (List.mem_of_getElem? (i := 39) rfl)
theorem dgX5_meetGlass_4 : ∀ r ∈ ([(301, (.goto 24, 3)), (304, (.iload 5, 2)), (306, (.iconst 1, 1)), (307, (.if_icmp .ne 12, 3)), (310, (.iconst 3, 1)), (311, (.aload_n 0, 1)), (312, (.getfield 30, 3)), (315, (.isub, 1)), (316, (.goto 9, 3)), (319, (.aload_n 0, 1)), (320, (.getfield 30, 3)), (323, (.iconst 2, 1)), (324, (.ixor, 1)), (325, (.putfield 30, 3)), (328, (.aload_n 0, 1)), (329, (.dup, 1)), (330, (.getfield 49, 3)), (333, (.iconst 1, 1)), (334, (.iload 4, 2)), (336, (.ishl, 1)), (337, (.ior, 1)), (338, (.putfield 49, 3)), (341, (.aload_n 0, 1)), (342, (.iconst 0, 1)), (343, (.putfield 56, 3)), (346, (.return_, 1))] : List (Nat × (Instr × Nat))), decode cX5_meetGlass r.1 = .ok r.2 := by decide +kernel
theorem dX5_meetGlass_301 : decode cX5_meetGlass 301 = .ok (.goto 24, 3) := dgX5_meetGlass_4 (301, (.goto 24, 3)) (List.mem_of_getElem? (i := 0) rfl)
theorem dX5_meetGlass_304 : decode cX5_meetGlass 304 = .ok (.iload 5, 2) := dgX5_meetGlass_4 (304, (.iload 5, 2)) (List.mem_of_getElem? (i := 1) rfl)
theorem dX5_meetGlass_306 : decode cX5_meetGlass 306 = .ok (.iconst 1, 1) := dgX5_meetGlass_4 (306, (.iconst 1, 1)) (List.mem_of_getElem? (i := 2) rfl)
theorem dX5_meetGlass_307 : decode cX5_meetGlass 307 = .ok (.if_icmp .ne 12, 3) := dgX5_meetGlass_4 (307, (.if_icmp .ne 12, 3)) (List.mem_of_getElem? (i := 3) rfl)
theorem dX5_meetGlass_310 : decode cX5_meetGlass 310 = .ok (.iconst 3, 1) := dgX5_meetGlass_4 (310, (.iconst 3, 1)) (List.mem_of_getElem? (i := 4) rfl)
theorem dX5_meetGlass_311 : decode cX5_meetGlass 311 = .ok (.aload_n 0, 1) := dgX5_meetGlass_4 (311, (.aload_n 0, 1)) (List.mem_of_getElem? (i := 5) rfl)
theorem dX5_meetGlass_312 : decode cX5_meetGlass 312 = .ok (.getfield 30, 3) := dgX5_meetGlass_4 (312, (.getfield 30, 3)) (List.mem_of_getElem? (i := 6) rfl)
theorem dX5_meetGlass_315 : decode cX5_meetGlass 315 = .ok (.isub, 1) := dgX5_meetGlass_4 (315, (.isub, 1)) (List.mem_of_getElem? (i := 7) rfl)
theorem dX5_meetGlass_316 : decode cX5_meetGlass 316 = .ok (.goto 9, 3) := dgX5_meetGlass_4 (316, (.goto 9, 3)) (List.mem_of_getElem? (i := 8) rfl)
theorem dX5_meetGlass_319 : decode cX5_meetGlass 319 = .ok (.aload_n 0, 1) := dgX5_meetGlass_4 (319, (.aload_n 0, 1)) (List.mem_of_getElem? (i := 9) rfl)
theorem dX5_meetGlass_320 : decode cX5_meetGlass 320 = .ok (.getfield 30, 3) := dgX5_meetGlass_4 (320, (.getfield 30, 3)) (List.mem_of_getElem? (i := 10) rfl)
theorem dX5_meetGlass_323 : decode cX5_meetGlass 323 = .ok (.iconst 2, 1) := dgX5_meetGlass_4 (323, (.iconst 2, 1)) (List.mem_of_getElem? (i := 11) rfl)
theorem dX5_meetGlass_324 : decode cX5_meetGlass 324 = .ok (.ixor, 1) := dgX5_meetGlass_4 (324, (.ixor, 1)) (List.mem_of_getElem? (i := 12) rfl)
theorem dX5_meetGlass_325 : decode cX5_meetGlass 325 = .ok (.putfield 30, 3) := dgX5_meetGlass_4 (325, (.putfield 30, 3)) (List.mem_of_getElem? (i := 13) rfl)
theorem dX5_meetGlass_328 : decode cX5_meetGlass 328 = .ok (.aload_n 0, 1) := dgX5_meetGlass_4 (328, (.aload_n 0, 1)) (List.mem_of_getElem? (i := 14) rfl)
theorem dX5_meetGlass_329 : decode cX5_meetGlass 329 = .ok (.dup, 1) := dgX5_meetGlass_4 (329, (.dup, 1)) (List.mem_of_getElem? (i := 15) rfl)
theorem dX5_meetGlass_330 : decode cX5_meetGlass 330 = .ok (.getfield 49, 3) := dgX5_meetGlass_4 (330, (.getfield 49, 3)) (List.mem_of_getElem? (i := 16) rfl)
theorem dX5_meetGlass_333 : decode cX5_meetGlass 333 = .ok (.iconst 1, 1) := dgX5_meetGlass_4 (333, (.iconst 1, 1)) (List.mem_of_getElem? (i := 17) rfl)
theorem dX5_meetGlass_334 : decode cX5_meetGlass 334 = .ok (.iload 4, 2) := dgX5_meetGlass_4 (334, (.iload 4, 2)) (List.mem_of_getElem? (i := 18) rfl)
theorem dX5_meetGlass_336 : decode cX5_meetGlass 336 = .ok (.ishl, 1) := dgX5_meetGlass_4 (336, (.ishl, 1)) (List.mem_of_getElem? (i := 19) rfl)
theorem dX5_meetGlass_337 : decode cX5_meetGlass 337 = .ok (.ior, 1) := dgX5_meetGlass_4 (337, (.ior, 1)) (List.mem_of_getElem? (i := 20) rfl)
theorem dX5_meetGlass_338 : decode cX5_meetGlass 338 = .ok (.putfield 49, 3) := dgX5_meetGlass_4 (338, (.putfield 49, 3)) (List.mem_of_getElem? (i := 21) rfl)
theorem dX5_meetGlass_341 : decode cX5_meetGlass 341 = .ok (.aload_n 0, 1) := dgX5_meetGlass_4 (341, (.aload_n 0, 1)) (List.mem_of_getElem? (i := 22) rfl)
theorem dX5_meetGlass_342 : decode cX5_meetGlass 342 = .ok (.iconst 0, 1) := dgX5_meetGlass_4 (342, (.iconst 0, 1)) (List.mem_of_getElem? (i := 23) rfl)
theorem dX5_meetGlass_343 : decode cX5_meetGlass 343 = .ok (.putfield 56, 3) := dgX5_meetGlass_4 (343, (.putfield 56, 3)) (List.mem_of_getElem? (i := 24) rfl)
theorem dX5_meetGlass_346 : decode cX5_meetGlass 346 = .ok (.return_, 1) := dgX5_meetGlass_4 (346, (.return_, 1)) (List.mem_of_getElem? (i := 25) rfl)
theorem fl_X5_138 : Cond.fieldLink RX5 138 "LateGlass$House" "least" "I" ∈ tblG := tg 160 (by decide +kernel) (by decide +kernel)
theorem fl_X5_49 : Cond.fieldLink RX5 49 "LateGlass$Look" "went" "I" ∈ tblG := tg 259 (by decide +kernel) (by decide +kernel)
set_option maxHeartbeats 4000000 in
set_option maxRecDepth 100000 in
theorem k_mggN4 {p : Program} {l : Launch} {e : Env} {s : State} {m : MethodId} {args : Array Value} {below : List Frame} {meth : Method} {c : Code} {Q : State → Prop} {A : Nat → Prop} {H : Heap} {locs : List Loc} {ls : Array Slot} (G : g5_G) (a_k a_h a_g a_gn a_p a_pn a_j a_as a_sk a_l a_pt a_b a_s a_w a_bb : Nat) (e_ln : Int32) (e_se : Int32) (e_lh : Int32) (e_br : Int32) (e_we : Int32) (e_me : Int32) (e_ce : Int32) (e_wy : Int32) (e_ho : Int32) (e_ov : Int32) (e_le : Int32) (e_st : Int32) (e_fo : Int32) (e_lc : Int32) (e_wa : Int64) (e_gb : Int64) (e_g : Int32) (f_g : Nat → Int32) (e_p : Int32) (f_p : Nat → Int32) (f_as : Nat → Int32) (f_sk : Nat → Int64) (f_l : Nat → Option Nat) (k_r : Int32) (k_n : Int32) (k_s : Int32) (k_l : Int32) (k_d : Int32) (hx : p.tables.exec = Jvm.exec) (hb : c.code = cX5_meetGlass) (hml : c.maxLocals = 9) (hown : s.vm.findClass RX5 = some m.cls) (hts : ∀ w ∈ tblG, w.before args s = true) (hK : va_K G.1 vwCl (T5 G) s) (hN : g5_N s) (hT : g5_S A s s.heap) (hA : ∀ q : Nat, s.heap.size ≤ q → A q) (hP : va_P G.1 vwCl [(a_k, (oc5 a_h a_j a_pt e_ln e_se e_lh e_br e_we e_me e_ce e_wy e_ho e_ov)), (a_h, (oc1 e_wa e_le e_st e_fo e_lc a_l a_g a_b a_s a_p a_w e_gb a_bb)), (a_g, (oc6 6 5 a_gn e_g)), (a_gn, (arI G 30 f_g)), (a_p, (oc6 8 5 a_pn e_p)), (a_pn, (arI G 40 f_p)), (a_j, (oc2 a_as a_sk)), (a_as, (arI G 8 f_as)), (a_sk, (arJ G 50 f_sk)), (a_l, (arW G 6 f_l))] H) (hD : va_D A [(a_k, (oc5 a_h a_j a_pt e_ln e_se e_lh e_br e_we e_me e_ce e_wy e_ho e_ov)), (a_h, (oc1 e_wa e_le e_st e_fo e_lc a_l a_g a_b a_s a_p a_w e_gb a_bb)), (a_g, (oc6 6 5 a_gn e_g)), (a_gn, (arI G 30 f_g)), (a_p, (oc6 8 5 a_pn e_p)), (a_pn, (arI G 40 f_p)), (a_j, (oc2 a_as a_sk)), (a_as, (arI G 8 f_as)), (a_sk, (arJ G 50 f_sk)), (a_l, (arW G 6 f_l))]) (hS : va_S A s.heap H locs) (hl : lv_has ls 9 [(0, .ref a_k), (2, .ref a_g), (3, .int k_r), (4, .int k_n), (5, .int k_s), (7, .int k_l), (8, .int k_d)]) (h_e_br : 0 ≤ e_br.toInt ∧ e_br.toInt ≤ 1000000) (h_e_ce : 0 ≤ e_ce.toInt ∧ e_ce.toInt ≤ 63) (h_e_wy : 0 ≤ e_wy.toInt ∧ e_wy.toInt ≤ 3) (h_e_ho : 0 ≤ e_ho.toInt ∧ e_ho.toInt ≤ 23) (h_e_ov : 0 ≤ e_ov.toInt ∧ e_ov.toInt ≤ 1) (h_e_g : 0 ≤ e_g.toInt ∧ e_g.toInt ≤ 6) (h_e_p : 0 ≤ e_p.toInt ∧ e_p.toInt ≤ 8) (h_k_r : 0 ≤ k_r.toInt ∧ k_r.toInt ≤ 7) (h_k_s : 0 ≤ k_s.toInt ∧ k_s.toInt ≤ 5) (h_k_l : 0 ≤ k_l.toInt ∧ k_l.toInt ≤ 23) (h_k_d : 0 ≤ k_d.toInt ∧ k_d.toInt ≤ 10) (e_lt : k_l.toInt ≤ e_ho.toInt) (kk : ∀ (pc1 : Nat), decode cX5_meetGlass pc1 = .ok (.return_, 1) → ∀ (o_b : Int32) (o_w : Int32) (o_m : Int32) (o_y : Int32) (o_h : Int32) (o_v : Int32) (o_a : Nat → Int32) (o_k : Nat → Int64) (ls : Array Slot) (H : Heap) (locs : List Loc), va_P G.1 vwCl [(a_k, (oc5 a_h a_j a_pt e_ln e_se e_lh o_b o_w o_m e_ce o_y o_h o_v)), (a_h, (oc1 e_wa e_le e_st e_fo e_lc a_l a_g a_b a_s a_p a_w e_gb a_bb)), (a_g, (oc6 6 5 a_gn e_g)), (a_gn, (arI G 30 f_g)), (a_p, (oc6 8 5 a_pn e_p)), (a_pn, (arI G 40 f_p)), (a_j, (oc2 a_as a_sk)), (a_as, (arI G 8 o_a)), (a_sk, (arJ G 50 o_k)), (a_l, (arW G 6 f_l))] H → va_D A [(a_k, (oc5 a_h a_j a_pt e_ln e_se e_lh o_b o_w o_m e_ce o_y o_h o_v)), (a_h, (oc1 e_wa e_le e_st e_fo e_lc a_l a_g a_b a_s a_p a_w e_gb a_bb)), (a_g, (oc6 6 5 a_gn e_g)), (a_gn, (arI G 30 f_g)), (a_p, (oc6 8 5 a_pn e_p)), (a_pn, (arI G 40 f_p)), (a_j, (oc2 a_as a_sk)), (a_as, (arI G 8 o_a)), (a_sk, (arJ G 50 o_k)), (a_l, (arW G 6 f_l))] → va_S A s.heap H locs → (0 ≤ o_b.toInt ∧ o_b.toInt ≤ 1000000) → (0 ≤ o_y.toInt ∧ o_y.toInt ≤ 3) → (0 ≤ o_h.toInt ∧ o_h.toInt ≤ 23) → (0 ≤ o_v.toInt ∧ o_v.toInt ≤ 1) → W p l e ({ frames := 12, cells := 0, slots := 0, locals := 500 } : Room) s m args below meth c H locs 0 0 Q (F0 m pc1 ls [])) : W p l e ({ frames := 12, cells := 0, slots := 0, locals := 500 } : Room) s m args below meth c H locs 0 0 Q (F0 m 246 ls []) := by
  refine lv_aload_n hx hb dX5_meetGlass_246 rfl (lv_at hl 0 rfl) ?_
  refine lv_aload_n hx hb dX5_meetGlass_247 rfl (lv_at hl 0 rfl) ?_
  refine va_get (D := G.1) (ci := 5) (v := .int e_br) (C := RX5) (T := TX5) (N := 13) hx hb hts inG_X5 hown hK hP 0 rfl rfl 6 (by decide) (hts _ fl_X5_46) (fun _ h9 => h9) rfl dX5_meetGlass_248 ?_
  refine lv_bipush (v := 10) hx hb dX5_meetGlass_251 (by decide) ?_
  refine lv_iload hx hb dX5_meetGlass_253 (lv_at hl 6 rfl) ?_
  refine lv_isub hx hb dX5_meetGlass_255 ?_
  have t_1 : (10 - k_d).toInt = 10 - k_d.toInt := g5_isub (a := 10) (b := k_d.toInt) (by decide) (by rfl) (by omega) (by omega)
  refine lv_imul hx hb dX5_meetGlass_256 ?_
  refine lv_bipush (v := 10) hx hb dX5_meetGlass_257 (by decide) ?_
  refine lv_idiv hx hb dX5_meetGlass_259 (by decide) ?_
  have hb_2 : 0 ≤ ((e_br * (10 - k_d)) / 10).toInt ∧ ((e_br * (10 - k_d)) / 10).toInt ≤ 1000000 := g_dust (by omega) (by omega)
  refine va_put (D := G.1) (ci := 5) (v := .int ((e_br * (10 - k_d)) / 10)) (ty := .int) (C := RX5) (T := TX5) (N := 13) hx hb hts inG_X5 tyX5 tyX5_ok nmX5 hown hK hP hD hS 0 rfl rfl 6 (by decide) (hts _ fl_X5_46) (fun _ h9 => h9) rfl (by decide +kernel) rfl rfl (Nat.le_of_ble_eq_true rfl) dX5_meetGlass_260 (fun H locs hP hD hS => ?_)
  refine g5_rs [(a_k, (oc5 a_h a_j a_pt e_ln e_se e_lh ((e_br * (10 - k_d)) / 10) e_we e_me e_ce e_wy e_ho e_ov)), (a_h, (oc1 e_wa e_le e_st e_fo e_lc a_l a_g a_b a_s a_p a_w e_gb a_bb)), (a_g, (oc6 6 5 a_gn e_g)), (a_gn, (arI G 30 f_g)), (a_p, (oc6 8 5 a_pn e_p)), (a_pn, (arI G 40 f_p)), (a_j, (oc2 a_as a_sk)), (a_as, (arI G 8 f_as)), (a_sk, (arJ G 50 f_sk)), (a_l, (arW G 6 f_l))] hP hD (fun hP hD => ?_)
  refine lv_aload_n hx hb dX5_meetGlass_263 rfl (lv_at hl 0 rfl) ?_
  refine va_get (D := G.1) (ci := 5) (v := .int ((e_br * (10 - k_d)) / 10)) (C := RX5) (T := TX5) (N := 13) hx hb hts inG_X5 hown hK hP 0 rfl rfl 6 (by decide) (hts _ fl_X5_46) (fun _ h9 => h9) rfl dX5_meetGlass_264 ?_
  refine lv_aload_n hx hb dX5_meetGlass_267 rfl (lv_at hl 0 rfl) ?_
  refine va_get (D := G.1) (ci := 5) (v := .ref a_h) (C := RX5) (T := TX5) (N := 13) hx hb hts inG_X5 hown hK hP 0 rfl rfl 0 (by decide) (hts _ fl_X5_22) (fun _ h9 => h9) rfl dX5_meetGlass_268 ?_
  refine va_get (D := G.1) (ci := 1) (v := .int e_le) (C := RX1) (T := TX1) (N := 13) hx hb hts inG_X1 hown hK hP 1 rfl rfl 1 (by decide) (hts _ fl_X5_138) (fun _ h9 => h9) rfl dX5_meetGlass_271 ?_
  refine lv_icmp_ge (tgt := 278) hx hb dX5_meetGlass_274 (by decide) (fun c_3 => ?_) (fun c_3 => ?_)
  ·
    have i_3 : ((e_br * (10 - k_d)) / 10).toInt ≥ e_le.toInt := by have z := g5_ge (a := ((e_br * (10 - k_d)) / 10).toInt) (b := e_le.toInt) (by rfl) (by rfl) c_3; omega
    refine lv_aload_n hx hb dX5_meetGlass_278 rfl (lv_at hl 0 rfl) ?_
    refine lv_dup hx hb dX5_meetGlass_279 rfl ?_
    refine va_get (D := G.1) (ci := 5) (v := .int e_ho) (C := RX5) (T := TX5) (N := 13) hx hb hts inG_X5 hown hK hP 0 rfl rfl 11 (by decide) (hts _ fl_X5_33) (fun _ h9 => h9) rfl dX5_meetGlass_280 ?_
    refine lv_iload hx hb dX5_meetGlass_283 (lv_at hl 5 rfl) ?_
    refine lv_isub hx hb dX5_meetGlass_285 ?_
    have t_4 : (e_ho - k_l).toInt = e_ho.toInt - k_l.toInt := g5_isub (a := e_ho.toInt) (b := k_l.toInt) (by rfl) (by rfl) (by omega) (by omega)
    refine va_put (D := G.1) (ci := 5) (v := .int (e_ho - k_l)) (ty := .int) (C := RX5) (T := TX5) (N := 13) hx hb hts inG_X5 tyX5 tyX5_ok nmX5 hown hK hP hD hS 0 rfl rfl 11 (by decide) (hts _ fl_X5_33) (fun _ h9 => h9) rfl (by decide +kernel) rfl rfl (Nat.le_of_ble_eq_true rfl) dX5_meetGlass_286 (fun H locs hP hD hS => ?_)
    refine g5_rs [(a_k, (oc5 a_h a_j a_pt e_ln e_se e_lh ((e_br * (10 - k_d)) / 10) e_we e_me e_ce e_wy (e_ho - k_l) e_ov)), (a_h, (oc1 e_wa e_le e_st e_fo e_lc a_l a_g a_b a_s a_p a_w e_gb a_bb)), (a_g, (oc6 6 5 a_gn e_g)), (a_gn, (arI G 30 f_g)), (a_p, (oc6 8 5 a_pn e_p)), (a_pn, (arI G 40 f_p)), (a_j, (oc2 a_as a_sk)), (a_as, (arI G 8 f_as)), (a_sk, (arJ G 50 f_sk)), (a_l, (arW G 6 f_l))] hP hD (fun hP hD => ?_)
    refine lv_aload_n hx hb dX5_meetGlass_289 rfl (lv_at hl 0 rfl) ?_
    refine lv_iload hx hb dX5_meetGlass_290 (lv_at hl 4 rfl) ?_
    refine lv_if_ne (tgt := 304) hx hb dX5_meetGlass_292 (by decide) (fun c_5 => ?_) (fun c_5 => ?_)
    ·
      have n_5 : gNe (k_s.toInt) (0) := by have z := g5_ne (a := k_s.toInt) (b := 0) (by rfl) (by decide) c_5; unfold gNe; omega
      have i_5 : k_s.toInt ≥ 1 := by have z := g5_ne (a := k_s.toInt) (b := 0) (by rfl) (by decide) c_5; omega
      refine lv_iload hx hb dX5_meetGlass_304 (lv_at hl 4 rfl) ?_
      refine lv_iconst (v := 1) hx hb dX5_meetGlass_306 (by decide) ?_
      refine lv_icmp_ne (tgt := 319) hx hb dX5_meetGlass_307 (by decide) (fun c_6 => ?_) (fun c_6 => ?_)
      ·
        have n_6 : gNe (k_s.toInt) (1) := by have z := g5_ne (a := k_s.toInt) (b := 1) (by rfl) (by decide) c_6; unfold gNe; omega
        have i_6 : k_s.toInt ≥ 2 := by have z := g5_ne (a := k_s.toInt) (b := 1) (by rfl) (by decide) c_6; omega
        refine lv_aload_n hx hb dX5_meetGlass_319 rfl (lv_at hl 0 rfl) ?_
        refine va_get (D := G.1) (ci := 5) (v := .int e_wy) (C := RX5) (T := TX5) (N := 13) hx hb hts inG_X5 hown hK hP 0 rfl rfl 10 (by decide) (hts _ fl_X5_30) (fun _ h9 => h9) rfl dX5_meetGlass_320 ?_
        refine lv_iconst (v := 2) hx hb dX5_meetGlass_323 (by decide) ?_
        refine lv_ixor hx hb dX5_meetGlass_324 ?_
        have hx_7 := (g_xor (w := e_wy) (by omega) (by omega)).2
        refine va_put (D := G.1) (ci := 5) (v := .int (e_wy ^^^ 2)) (ty := .int) (C := RX5) (T := TX5) (N := 13) hx hb hts inG_X5 tyX5 tyX5_ok nmX5 hown hK hP hD hS 0 rfl rfl 10 (by decide) (hts _ fl_X5_30) (fun _ h9 => h9) rfl (by decide +kernel) rfl rfl (Nat.le_of_ble_eq_true rfl) dX5_meetGlass_325 (fun H locs hP hD hS => ?_)
        refine g5_rs [(a_k, (oc5 a_h a_j a_pt e_ln e_se e_lh ((e_br * (10 - k_d)) / 10) e_we e_me e_ce (e_wy ^^^ 2) (e_ho - k_l) e_ov)), (a_h, (oc1 e_wa e_le e_st e_fo e_lc a_l a_g a_b a_s a_p a_w e_gb a_bb)), (a_g, (oc6 6 5 a_gn e_g)), (a_gn, (arI G 30 f_g)), (a_p, (oc6 8 5 a_pn e_p)), (a_pn, (arI G 40 f_p)), (a_j, (oc2 a_as a_sk)), (a_as, (arI G 8 f_as)), (a_sk, (arJ G 50 f_sk)), (a_l, (arW G 6 f_l))] hP hD (fun hP hD => ?_)
        refine lv_aload_n hx hb dX5_meetGlass_328 rfl (lv_at hl 0 rfl) ?_
        refine lv_dup hx hb dX5_meetGlass_329 rfl ?_
        refine va_get (D := G.1) (ci := 5) (v := .int e_we) (C := RX5) (T := TX5) (N := 13) hx hb hts inG_X5 hown hK hP 0 rfl rfl 7 (by decide) (hts _ fl_X5_49) (fun _ h9 => h9) rfl dX5_meetGlass_330 ?_
        refine lv_iconst (v := 1) hx hb dX5_meetGlass_333 (by decide) ?_
        refine lv_iload hx hb dX5_meetGlass_334 (lv_at hl 3 rfl) ?_
        refine lv_ishl hx hb dX5_meetGlass_336 ?_
        refine lv_ior hx hb dX5_meetGlass_337 ?_
        refine va_put (D := G.1) (ci := 5) (v := .int (e_we ||| (1 <<< (k_n &&& 31)))) (ty := .int) (C := RX5) (T := TX5) (N := 13) hx hb hts inG_X5 tyX5 tyX5_ok nmX5 hown hK hP hD hS 0 rfl rfl 7 (by decide) (hts _ fl_X5_49) (fun _ h9 => h9) rfl (by decide +kernel) rfl rfl (Nat.le_of_ble_eq_true rfl) dX5_meetGlass_338 (fun H locs hP hD hS => ?_)
        refine g5_rs [(a_k, (oc5 a_h a_j a_pt e_ln e_se e_lh ((e_br * (10 - k_d)) / 10) (e_we ||| (1 <<< (k_n &&& 31))) e_me e_ce (e_wy ^^^ 2) (e_ho - k_l) e_ov)), (a_h, (oc1 e_wa e_le e_st e_fo e_lc a_l a_g a_b a_s a_p a_w e_gb a_bb)), (a_g, (oc6 6 5 a_gn e_g)), (a_gn, (arI G 30 f_g)), (a_p, (oc6 8 5 a_pn e_p)), (a_pn, (arI G 40 f_p)), (a_j, (oc2 a_as a_sk)), (a_as, (arI G 8 f_as)), (a_sk, (arJ G 50 f_sk)), (a_l, (arW G 6 f_l))] hP hD (fun hP hD => ?_)
        refine lv_aload_n hx hb dX5_meetGlass_341 rfl (lv_at hl 0 rfl) ?_
        refine lv_iconst (v := 0) hx hb dX5_meetGlass_342 (by decide) ?_
        refine va_put (D := G.1) (ci := 5) (v := .int 0) (ty := .boolean) (C := RX5) (T := TX5) (N := 13) hx hb hts inG_X5 tyX5 tyX5_ok nmX5 hown hK hP hD hS 0 rfl rfl 12 (by decide) (hts _ fl_X5_56) (fun _ h9 => h9) rfl (by decide +kernel) rfl rfl (Nat.le_of_ble_eq_true rfl) dX5_meetGlass_343 (fun H locs hP hD hS => ?_)
        refine g5_rs [(a_k, (oc5 a_h a_j a_pt e_ln e_se e_lh ((e_br * (10 - k_d)) / 10) (e_we ||| (1 <<< (k_n &&& 31))) e_me e_ce (e_wy ^^^ 2) (e_ho - k_l) 0)), (a_h, (oc1 e_wa e_le e_st e_fo e_lc a_l a_g a_b a_s a_p a_w e_gb a_bb)), (a_g, (oc6 6 5 a_gn e_g)), (a_gn, (arI G 30 f_g)), (a_p, (oc6 8 5 a_pn e_p)), (a_pn, (arI G 40 f_p)), (a_j, (oc2 a_as a_sk)), (a_as, (arI G 8 f_as)), (a_sk, (arJ G 50 f_sk)), (a_l, (arW G 6 f_l))] hP hD (fun hP hD => ?_)
        exact kk 346 dX5_meetGlass_346 ((e_br * (10 - k_d)) / 10) (e_we ||| (1 <<< (k_n &&& 31))) e_me (e_wy ^^^ 2) (e_ho - k_l) 0 f_as f_sk ls H locs (hP.sub [0, 1, 2, 3, 4, 5, 6, 7, 8, 9] rfl) (hD.sub [0, 1, 2, 3, 4, 5, 6, 7, 8, 9] (by decide) rfl) hS (⟨by omega, by omega⟩) (⟨by omega, by omega⟩) (⟨by omega, by omega⟩) (⟨by have zc_o_v : (0 : Int32).toInt = 0 := (by decide); omega, by have zc_o_v : (0 : Int32).toInt = 0 := (by decide); omega⟩)
      ·
        have i_6 : k_s.toInt = 1 := by have z := g5_neN (a := k_s.toInt) (b := 1) (by rfl) (by decide) c_6; omega
        refine lv_iconst (v := 3) hx hb dX5_meetGlass_310 (by decide) ?_
        refine lv_aload_n hx hb dX5_meetGlass_311 rfl (lv_at hl 0 rfl) ?_
        refine va_get (D := G.1) (ci := 5) (v := .int e_wy) (C := RX5) (T := TX5) (N := 13) hx hb hts inG_X5 hown hK hP 0 rfl rfl 10 (by decide) (hts _ fl_X5_30) (fun _ h9 => h9) rfl dX5_meetGlass_312 ?_
        refine lv_isub hx hb dX5_meetGlass_315 ?_
        have t_8 : (3 - e_wy).toInt = 3 - e_wy.toInt := g5_isub (a := 3) (b := e_wy.toInt) (by decide) (by rfl) (by omega) (by omega)
        refine lv_goto (tgt := 325) hx hb dX5_meetGlass_316 (by decide) ?_
        refine va_put (D := G.1) (ci := 5) (v := .int (3 - e_wy)) (ty := .int) (C := RX5) (T := TX5) (N := 13) hx hb hts inG_X5 tyX5 tyX5_ok nmX5 hown hK hP hD hS 0 rfl rfl 10 (by decide) (hts _ fl_X5_30) (fun _ h9 => h9) rfl (by decide +kernel) rfl rfl (Nat.le_of_ble_eq_true rfl) dX5_meetGlass_325 (fun H locs hP hD hS => ?_)
        refine g5_rs [(a_k, (oc5 a_h a_j a_pt e_ln e_se e_lh ((e_br * (10 - k_d)) / 10) e_we e_me e_ce (3 - e_wy) (e_ho - k_l) e_ov)), (a_h, (oc1 e_wa e_le e_st e_fo e_lc a_l a_g a_b a_s a_p a_w e_gb a_bb)), (a_g, (oc6 6 5 a_gn e_g)), (a_gn, (arI G 30 f_g)), (a_p, (oc6 8 5 a_pn e_p)), (a_pn, (arI G 40 f_p)), (a_j, (oc2 a_as a_sk)), (a_as, (arI G 8 f_as)), (a_sk, (arJ G 50 f_sk)), (a_l, (arW G 6 f_l))] hP hD (fun hP hD => ?_)
        refine lv_aload_n hx hb dX5_meetGlass_328 rfl (lv_at hl 0 rfl) ?_
        refine lv_dup hx hb dX5_meetGlass_329 rfl ?_
        refine va_get (D := G.1) (ci := 5) (v := .int e_we) (C := RX5) (T := TX5) (N := 13) hx hb hts inG_X5 hown hK hP 0 rfl rfl 7 (by decide) (hts _ fl_X5_49) (fun _ h9 => h9) rfl dX5_meetGlass_330 ?_
        refine lv_iconst (v := 1) hx hb dX5_meetGlass_333 (by decide) ?_
        refine lv_iload hx hb dX5_meetGlass_334 (lv_at hl 3 rfl) ?_
        refine lv_ishl hx hb dX5_meetGlass_336 ?_
        refine lv_ior hx hb dX5_meetGlass_337 ?_
        refine va_put (D := G.1) (ci := 5) (v := .int (e_we ||| (1 <<< (k_n &&& 31)))) (ty := .int) (C := RX5) (T := TX5) (N := 13) hx hb hts inG_X5 tyX5 tyX5_ok nmX5 hown hK hP hD hS 0 rfl rfl 7 (by decide) (hts _ fl_X5_49) (fun _ h9 => h9) rfl (by decide +kernel) rfl rfl (Nat.le_of_ble_eq_true rfl) dX5_meetGlass_338 (fun H locs hP hD hS => ?_)
        refine g5_rs [(a_k, (oc5 a_h a_j a_pt e_ln e_se e_lh ((e_br * (10 - k_d)) / 10) (e_we ||| (1 <<< (k_n &&& 31))) e_me e_ce (3 - e_wy) (e_ho - k_l) e_ov)), (a_h, (oc1 e_wa e_le e_st e_fo e_lc a_l a_g a_b a_s a_p a_w e_gb a_bb)), (a_g, (oc6 6 5 a_gn e_g)), (a_gn, (arI G 30 f_g)), (a_p, (oc6 8 5 a_pn e_p)), (a_pn, (arI G 40 f_p)), (a_j, (oc2 a_as a_sk)), (a_as, (arI G 8 f_as)), (a_sk, (arJ G 50 f_sk)), (a_l, (arW G 6 f_l))] hP hD (fun hP hD => ?_)
        refine lv_aload_n hx hb dX5_meetGlass_341 rfl (lv_at hl 0 rfl) ?_
        refine lv_iconst (v := 0) hx hb dX5_meetGlass_342 (by decide) ?_
        refine va_put (D := G.1) (ci := 5) (v := .int 0) (ty := .boolean) (C := RX5) (T := TX5) (N := 13) hx hb hts inG_X5 tyX5 tyX5_ok nmX5 hown hK hP hD hS 0 rfl rfl 12 (by decide) (hts _ fl_X5_56) (fun _ h9 => h9) rfl (by decide +kernel) rfl rfl (Nat.le_of_ble_eq_true rfl) dX5_meetGlass_343 (fun H locs hP hD hS => ?_)
        refine g5_rs [(a_k, (oc5 a_h a_j a_pt e_ln e_se e_lh ((e_br * (10 - k_d)) / 10) (e_we ||| (1 <<< (k_n &&& 31))) e_me e_ce (3 - e_wy) (e_ho - k_l) 0)), (a_h, (oc1 e_wa e_le e_st e_fo e_lc a_l a_g a_b a_s a_p a_w e_gb a_bb)), (a_g, (oc6 6 5 a_gn e_g)), (a_gn, (arI G 30 f_g)), (a_p, (oc6 8 5 a_pn e_p)), (a_pn, (arI G 40 f_p)), (a_j, (oc2 a_as a_sk)), (a_as, (arI G 8 f_as)), (a_sk, (arJ G 50 f_sk)), (a_l, (arW G 6 f_l))] hP hD (fun hP hD => ?_)
        exact kk 346 dX5_meetGlass_346 ((e_br * (10 - k_d)) / 10) (e_we ||| (1 <<< (k_n &&& 31))) e_me (3 - e_wy) (e_ho - k_l) 0 f_as f_sk ls H locs (hP.sub [0, 1, 2, 3, 4, 5, 6, 7, 8, 9] rfl) (hD.sub [0, 1, 2, 3, 4, 5, 6, 7, 8, 9] (by decide) rfl) hS (⟨by omega, by omega⟩) (⟨by omega, by omega⟩) (⟨by omega, by omega⟩) (⟨by have zc_o_v : (0 : Int32).toInt = 0 := (by decide); omega, by have zc_o_v : (0 : Int32).toInt = 0 := (by decide); omega⟩)
    ·
      have i_5 : k_s.toInt = 0 := by have z := g5_neN (a := k_s.toInt) (b := 0) (by rfl) (by decide) c_5; omega
      refine lv_aload_n hx hb dX5_meetGlass_295 rfl (lv_at hl 0 rfl) ?_
      refine va_get (D := G.1) (ci := 5) (v := .int e_wy) (C := RX5) (T := TX5) (N := 13) hx hb hts inG_X5 hown hK hP 0 rfl rfl 10 (by decide) (hts _ fl_X5_30) (fun _ h9 => h9) rfl dX5_meetGlass_296 ?_
      refine lv_iconst (v := 1) hx hb dX5_meetGlass_299 (by decide) ?_
      refine lv_ixor hx hb dX5_meetGlass_300 ?_
      have hx_9 := (g_xor (w := e_wy) (by omega) (by omega)).1
      refine lv_goto (tgt := 325) hx hb dX5_meetGlass_301 (by decide) ?_
      refine va_put (D := G.1) (ci := 5) (v := .int (e_wy ^^^ 1)) (ty := .int) (C := RX5) (T := TX5) (N := 13) hx hb hts inG_X5 tyX5 tyX5_ok nmX5 hown hK hP hD hS 0 rfl rfl 10 (by decide) (hts _ fl_X5_30) (fun _ h9 => h9) rfl (by decide +kernel) rfl rfl (Nat.le_of_ble_eq_true rfl) dX5_meetGlass_325 (fun H locs hP hD hS => ?_)
      refine g5_rs [(a_k, (oc5 a_h a_j a_pt e_ln e_se e_lh ((e_br * (10 - k_d)) / 10) e_we e_me e_ce (e_wy ^^^ 1) (e_ho - k_l) e_ov)), (a_h, (oc1 e_wa e_le e_st e_fo e_lc a_l a_g a_b a_s a_p a_w e_gb a_bb)), (a_g, (oc6 6 5 a_gn e_g)), (a_gn, (arI G 30 f_g)), (a_p, (oc6 8 5 a_pn e_p)), (a_pn, (arI G 40 f_p)), (a_j, (oc2 a_as a_sk)), (a_as, (arI G 8 f_as)), (a_sk, (arJ G 50 f_sk)), (a_l, (arW G 6 f_l))] hP hD (fun hP hD => ?_)
      refine lv_aload_n hx hb dX5_meetGlass_328 rfl (lv_at hl 0 rfl) ?_
      refine lv_dup hx hb dX5_meetGlass_329 rfl ?_
      refine va_get (D := G.1) (ci := 5) (v := .int e_we) (C := RX5) (T := TX5) (N := 13) hx hb hts inG_X5 hown hK hP 0 rfl rfl 7 (by decide) (hts _ fl_X5_49) (fun _ h9 => h9) rfl dX5_meetGlass_330 ?_
      refine lv_iconst (v := 1) hx hb dX5_meetGlass_333 (by decide) ?_
      refine lv_iload hx hb dX5_meetGlass_334 (lv_at hl 3 rfl) ?_
      refine lv_ishl hx hb dX5_meetGlass_336 ?_
      refine lv_ior hx hb dX5_meetGlass_337 ?_
      refine va_put (D := G.1) (ci := 5) (v := .int (e_we ||| (1 <<< (k_n &&& 31)))) (ty := .int) (C := RX5) (T := TX5) (N := 13) hx hb hts inG_X5 tyX5 tyX5_ok nmX5 hown hK hP hD hS 0 rfl rfl 7 (by decide) (hts _ fl_X5_49) (fun _ h9 => h9) rfl (by decide +kernel) rfl rfl (Nat.le_of_ble_eq_true rfl) dX5_meetGlass_338 (fun H locs hP hD hS => ?_)
      refine g5_rs [(a_k, (oc5 a_h a_j a_pt e_ln e_se e_lh ((e_br * (10 - k_d)) / 10) (e_we ||| (1 <<< (k_n &&& 31))) e_me e_ce (e_wy ^^^ 1) (e_ho - k_l) e_ov)), (a_h, (oc1 e_wa e_le e_st e_fo e_lc a_l a_g a_b a_s a_p a_w e_gb a_bb)), (a_g, (oc6 6 5 a_gn e_g)), (a_gn, (arI G 30 f_g)), (a_p, (oc6 8 5 a_pn e_p)), (a_pn, (arI G 40 f_p)), (a_j, (oc2 a_as a_sk)), (a_as, (arI G 8 f_as)), (a_sk, (arJ G 50 f_sk)), (a_l, (arW G 6 f_l))] hP hD (fun hP hD => ?_)
      refine lv_aload_n hx hb dX5_meetGlass_341 rfl (lv_at hl 0 rfl) ?_
      refine lv_iconst (v := 0) hx hb dX5_meetGlass_342 (by decide) ?_
      refine va_put (D := G.1) (ci := 5) (v := .int 0) (ty := .boolean) (C := RX5) (T := TX5) (N := 13) hx hb hts inG_X5 tyX5 tyX5_ok nmX5 hown hK hP hD hS 0 rfl rfl 12 (by decide) (hts _ fl_X5_56) (fun _ h9 => h9) rfl (by decide +kernel) rfl rfl (Nat.le_of_ble_eq_true rfl) dX5_meetGlass_343 (fun H locs hP hD hS => ?_)
      refine g5_rs [(a_k, (oc5 a_h a_j a_pt e_ln e_se e_lh ((e_br * (10 - k_d)) / 10) (e_we ||| (1 <<< (k_n &&& 31))) e_me e_ce (e_wy ^^^ 1) (e_ho - k_l) 0)), (a_h, (oc1 e_wa e_le e_st e_fo e_lc a_l a_g a_b a_s a_p a_w e_gb a_bb)), (a_g, (oc6 6 5 a_gn e_g)), (a_gn, (arI G 30 f_g)), (a_p, (oc6 8 5 a_pn e_p)), (a_pn, (arI G 40 f_p)), (a_j, (oc2 a_as a_sk)), (a_as, (arI G 8 f_as)), (a_sk, (arJ G 50 f_sk)), (a_l, (arW G 6 f_l))] hP hD (fun hP hD => ?_)
      exact kk 346 dX5_meetGlass_346 ((e_br * (10 - k_d)) / 10) (e_we ||| (1 <<< (k_n &&& 31))) e_me (e_wy ^^^ 1) (e_ho - k_l) 0 f_as f_sk ls H locs (hP.sub [0, 1, 2, 3, 4, 5, 6, 7, 8, 9] rfl) (hD.sub [0, 1, 2, 3, 4, 5, 6, 7, 8, 9] (by decide) rfl) hS (⟨by omega, by omega⟩) (⟨by omega, by omega⟩) (⟨by omega, by omega⟩) (⟨by have zc_o_v : (0 : Int32).toInt = 0 := (by decide); omega, by have zc_o_v : (0 : Int32).toInt = 0 := (by decide); omega⟩)
  ·
    have i_3 : ((e_br * (10 - k_d)) / 10).toInt < e_le.toInt := by have z := g5_geN (a := ((e_br * (10 - k_d)) / 10).toInt) (b := e_le.toInt) (by rfl) (by rfl) c_3; omega
    exact kk 277 dX5_meetGlass_277 ((e_br * (10 - k_d)) / 10) e_we e_me e_wy e_ho e_ov f_as f_sk ls H locs (hP.sub [0, 1, 2, 3, 4, 5, 6, 7, 8, 9] rfl) (hD.sub [0, 1, 2, 3, 4, 5, 6, 7, 8, 9] (by decide) rfl) hS (⟨by omega, by omega⟩) (⟨by omega, by omega⟩) (⟨by omega, by omega⟩) (⟨by omega, by omega⟩)
set_option maxHeartbeats 4000000 in
set_option maxRecDepth 100000 in
theorem k_mggN3 {p : Program} {l : Launch} {e : Env} {s : State} {m : MethodId} {args : Array Value} {below : List Frame} {meth : Method} {c : Code} {Q : State → Prop} {A : Nat → Prop} {H : Heap} {locs : List Loc} {ls : Array Slot} (G : g5_G) (a_k a_h a_g a_gn a_p a_pn a_j a_as a_sk a_l a_pt a_b a_s a_w a_bb : Nat) (e_ln : Int32) (e_se : Int32) (e_lh : Int32) (e_br : Int32) (e_we : Int32) (e_me : Int32) (e_ce : Int32) (e_wy : Int32) (e_ho : Int32) (e_ov : Int32) (e_le : Int32) (e_st : Int32) (e_fo : Int32) (e_lc : Int32) (e_wa : Int64) (e_gb : Int64) (e_g : Int32) (f_g : Nat → Int32) (e_p : Int32) (f_p : Nat → Int32) (f_as : Nat → Int32) (f_sk : Nat → Int64) (f_l : Nat → Option Nat) (k_r : Int32) (k_n : Int32) (k_s : Int32) (k_l : Int32) (hx : p.tables.exec = Jvm.exec) (hb : c.code = cX5_meetGlass) (hml : c.maxLocals = 9) (hown : s.vm.findClass RX5 = some m.cls) (hts : ∀ w ∈ tblG, w.before args s = true) (hK : va_K G.1 vwCl (T5 G) s) (hN : g5_N s) (hT : g5_S A s s.heap) (hA : ∀ q : Nat, s.heap.size ≤ q → A q) (hP : va_P G.1 vwCl [(a_k, (oc5 a_h a_j a_pt e_ln e_se e_lh e_br e_we e_me e_ce e_wy e_ho e_ov)), (a_h, (oc1 e_wa e_le e_st e_fo e_lc a_l a_g a_b a_s a_p a_w e_gb a_bb)), (a_g, (oc6 6 5 a_gn e_g)), (a_gn, (arI G 30 f_g)), (a_p, (oc6 8 5 a_pn e_p)), (a_pn, (arI G 40 f_p)), (a_j, (oc2 a_as a_sk)), (a_as, (arI G 8 f_as)), (a_sk, (arJ G 50 f_sk)), (a_l, (arW G 6 f_l))] H) (hD : va_D A [(a_k, (oc5 a_h a_j a_pt e_ln e_se e_lh e_br e_we e_me e_ce e_wy e_ho e_ov)), (a_h, (oc1 e_wa e_le e_st e_fo e_lc a_l a_g a_b a_s a_p a_w e_gb a_bb)), (a_g, (oc6 6 5 a_gn e_g)), (a_gn, (arI G 30 f_g)), (a_p, (oc6 8 5 a_pn e_p)), (a_pn, (arI G 40 f_p)), (a_j, (oc2 a_as a_sk)), (a_as, (arI G 8 f_as)), (a_sk, (arJ G 50 f_sk)), (a_l, (arW G 6 f_l))]) (hS : va_S A s.heap H locs) (hl : lv_has ls 9 [(0, .ref a_k), (2, .ref a_g), (3, .int k_r), (4, .int k_n), (5, .int k_s), (6, .null), (7, .int k_l)]) (h_e_br : 0 ≤ e_br.toInt ∧ e_br.toInt ≤ 1000000) (h_e_ce : 0 ≤ e_ce.toInt ∧ e_ce.toInt ≤ 63) (h_e_wy : 0 ≤ e_wy.toInt ∧ e_wy.toInt ≤ 3) (h_e_ho : 0 ≤ e_ho.toInt ∧ e_ho.toInt ≤ 23) (h_e_ov : 0 ≤ e_ov.toInt ∧ e_ov.toInt ≤ 1) (h_e_g : 0 ≤ e_g.toInt ∧ e_g.toInt ≤ 6) (h_e_p : 0 ≤ e_p.toInt ∧ e_p.toInt ≤ 8) (h_k_r : 0 ≤ k_r.toInt ∧ k_r.toInt ≤ 7) (h_k_s : 0 ≤ k_s.toInt ∧ k_s.toInt ≤ 5) (h_k_l : 0 ≤ k_l.toInt ∧ k_l.toInt ≤ 23) (e_gk : gOK f_g e_g.toInt) (e_pk : gOK f_p e_p.toInt) (e_f : e_fo.toInt < 0 ∨ e_lc.toInt ≤ e_fo.toInt) (e_r : k_r.toInt < e_g.toInt) (kk : ∀ (pc1 : Nat), decode cX5_meetGlass pc1 = .ok (.return_, 1) → ∀ (o_b : Int32) (o_w : Int32) (o_m : Int32) (o_y : Int32) (o_h : Int32) (o_v : Int32) (o_a : Nat → Int32) (o_k : Nat → Int64) (ls : Array Slot) (H : Heap) (locs : List Loc), va_P G.1 vwCl [(a_k, (oc5 a_h a_j a_pt e_ln e_se e_lh o_b o_w o_m e_ce o_y o_h o_v)), (a_h, (oc1 e_wa e_le e_st e_fo e_lc a_l a_g a_b a_s a_p a_w e_gb a_bb)), (a_g, (oc6 6 5 a_gn e_g)), (a_gn, (arI G 30 f_g)), (a_p, (oc6 8 5 a_pn e_p)), (a_pn, (arI G 40 f_p)), (a_j, (oc2 a_as a_sk)), (a_as, (arI G 8 o_a)), (a_sk, (arJ G 50 o_k)), (a_l, (arW G 6 f_l))] H → va_D A [(a_k, (oc5 a_h a_j a_pt e_ln e_se e_lh o_b o_w o_m e_ce o_y o_h o_v)), (a_h, (oc1 e_wa e_le e_st e_fo e_lc a_l a_g a_b a_s a_p a_w e_gb a_bb)), (a_g, (oc6 6 5 a_gn e_g)), (a_gn, (arI G 30 f_g)), (a_p, (oc6 8 5 a_pn e_p)), (a_pn, (arI G 40 f_p)), (a_j, (oc2 a_as a_sk)), (a_as, (arI G 8 o_a)), (a_sk, (arJ G 50 o_k)), (a_l, (arW G 6 f_l))] → va_S A s.heap H locs → (0 ≤ o_b.toInt ∧ o_b.toInt ≤ 1000000) → (0 ≤ o_y.toInt ∧ o_y.toInt ≤ 3) → (0 ≤ o_h.toInt ∧ o_h.toInt ≤ 23) → (0 ≤ o_v.toInt ∧ o_v.toInt ≤ 1) → W p l e ({ frames := 12, cells := 0, slots := 0, locals := 500 } : Room) s m args below meth c H locs 0 0 Q (F0 m pc1 ls [])) : W p l e ({ frames := 12, cells := 0, slots := 0, locals := 500 } : Room) s m args below meth c H locs 0 0 Q (F0 m 203 ls []) := by
  refine lv_iload hx hb dX5_meetGlass_203 (lv_at hl 6 rfl) ?_
  refine lv_aload_n hx hb dX5_meetGlass_205 rfl (lv_at hl 0 rfl) ?_
  refine va_get (D := G.1) (ci := 5) (v := .int e_ho) (C := RX5) (T := TX5) (N := 13) hx hb hts inG_X5 hown hK hP 0 rfl rfl 11 (by decide) (hts _ fl_X5_33) (fun _ h9 => h9) rfl dX5_meetGlass_206 ?_
  refine lv_icmp_le (tgt := 213) hx hb dX5_meetGlass_209 (by decide) (fun c_1 => ?_) (fun c_1 => ?_)
  ·
    have i_1 : k_l.toInt ≤ e_ho.toInt := by have z := g5_le (a := k_l.toInt) (b := e_ho.toInt) (by rfl) (by rfl) c_1; omega
    refine lv_aload_n hx hb dX5_meetGlass_213 rfl (lv_at hl 0 rfl) ?_
    refine va_get (D := G.1) (ci := 5) (v := .ref a_j) (C := RX5) (T := TX5) (N := 13) hx hb hts inG_X5 hown hK hP 0 rfl rfl 1 (by decide) (hts _ fl_X5_12) (fun _ h9 => h9) rfl dX5_meetGlass_214 ?_
    refine lv_aloadN hx hb dX5_meetGlass_217 (lv_at hl 5 rfl) ?_
    refine lv_iconst (v := 1) hx hb dX5_meetGlass_219 (by decide) ?_
    obtain ⟨hPc, hDc, hFc⟩ := g5_sub3 (wc := [(a_j, (oc2 a_as a_sk)), (a_as, (arI G 8 f_as)), (a_sk, (arJ G 50 f_sk))]) hP hD hS hA [6, 7, 8] (by decide) rfl
    refine va_calli (va_runV (As := [.null, .int 1]) (rest := []) ⟨hx, hb, hml, hown, hts⟩ (j_isHeldN l G a_j a_as a_sk H.size 1 f_as f_sk) (cwV 2 hts gV_X5_124 rfl rfl rfl hv_X2_isHeld ⟨Nat.le_of_ble_eq_true rfl, Nat.le_of_ble_eq_true rfl⟩) (g5_preV hPc hK hDc hN hT hS hFc (ci := 2) (q0 := 0) rfl rfl) rfl rfl hl.1 rfl (lv_room (Nat.le_of_ble_eq_true rfl)) dX5_meetGlass_220 ⟨Nat.le_of_ble_eq_true rfl, Nat.le_of_ble_eq_true rfl⟩) hS (fun q _ h => hFc q h) hFc (fun r u t H1 locs ht hvm hw hB hz1 hk1 hS => ?_)
    obtain ⟨hP1, hD1⟩ := hB
    rw [ht] at hP1
    obtain ⟨rfl, rfl⟩ := hw
    obtain ⟨hP, hD⟩ := va_join (wr := [(a_k, (oc5 a_h a_j a_pt e_ln e_se e_lh e_br e_we e_me e_ce e_wy e_ho e_ov)), (a_h, (oc1 e_wa e_le e_st e_fo e_lc a_l a_g a_b a_s a_p a_w e_gb a_bb)), (a_g, (oc6 6 5 a_gn e_g)), (a_gn, (arI G 30 f_g)), (a_p, (oc6 8 5 a_pn e_p)), (a_pn, (arI G 40 f_p)), (a_l, (arW G 6 f_l))]) hP hD [6, 7, 8] [0, 1, 2, 3, 4, 5, 9] rfl rfl (by decide) (by decide) hk1 hFc hP1 hD1
    generalize H1 = H at hP hS ⊢
    refine g5_rs [(a_k, (oc5 a_h a_j a_pt e_ln e_se e_lh e_br e_we e_me e_ce e_wy e_ho e_ov)), (a_h, (oc1 e_wa e_le e_st e_fo e_lc a_l a_g a_b a_s a_p a_w e_gb a_bb)), (a_g, (oc6 6 5 a_gn e_g)), (a_gn, (arI G 30 f_g)), (a_p, (oc6 8 5 a_pn e_p)), (a_pn, (arI G 40 f_p)), (a_l, (arW G 6 f_l)), (a_j, (oc2 a_as a_sk)), (a_as, (arI G 8 f_as)), (a_sk, (arJ G 50 f_sk))] hP hD (fun hP hD => ?_)
    refine lv_if_eq (tgt := 238) hx hb dX5_meetGlass_223 (by decide) (fun c_2 => ?_) (fun c_2 => ?_)
    ·
      refine lv_aload_n hx hb dX5_meetGlass_238 rfl (lv_at hl 1 rfl) ?_
      refine lv_iload_n hx hb dX5_meetGlass_239 rfl (lv_at hl 2 rfl) ?_
      refine lv_iconst (v := 3) hx hb dX5_meetGlass_240 (by decide) ?_
      obtain ⟨hPc, hDc, hFc⟩ := g5_sub3 (wc := [(a_g, (oc6 6 5 a_gn e_g)), (a_gn, (arI G 30 f_g))]) hP hD hS hA [2, 3] (by decide) rfl
      refine va_calli (va_runV (As := [.int k_r, .int 3]) (rest := []) ⟨hx, hb, hml, hown, hts⟩ (t_get_G l G a_g a_gn H.size e_g k_r 3 f_g ⟨by omega, by omega⟩) (cwV 2 hts gV_X5_107 rfl rfl rfl hv_X6_get ⟨Nat.le_of_ble_eq_true rfl, Nat.le_of_ble_eq_true rfl⟩) (g5_preV hPc hK hDc hN hT hS hFc (ci := 6) (q0 := 0) rfl rfl) rfl rfl hl.1 rfl (lv_room (Nat.le_of_ble_eq_true rfl)) dX5_meetGlass_241 ⟨Nat.le_of_ble_eq_true rfl, Nat.le_of_ble_eq_true rfl⟩) hS (fun q _ h => hFc q h) hFc (fun r u t H1 locs ht hvm hw hB hz1 hk1 hS => ?_)
      obtain ⟨hP1, hD1⟩ := hB
      rw [ht] at hP1
      obtain ⟨z4, i_3, y5, rfl⟩ := hw
      have i_3 : z4 = tget f_g e_g.toInt 5 k_r.toInt (3 : Int32).toInt := i_3
      obtain ⟨hP, hD⟩ := va_join (wr := [(a_k, (oc5 a_h a_j a_pt e_ln e_se e_lh e_br e_we e_me e_ce e_wy e_ho e_ov)), (a_h, (oc1 e_wa e_le e_st e_fo e_lc a_l a_g a_b a_s a_p a_w e_gb a_bb)), (a_p, (oc6 8 5 a_pn e_p)), (a_pn, (arI G 40 f_p)), (a_l, (arW G 6 f_l)), (a_j, (oc2 a_as a_sk)), (a_as, (arI G 8 f_as)), (a_sk, (arJ G 50 f_sk))]) hP hD [2, 3] [0, 1, 4, 5, 6, 7, 8, 9] rfl rfl (by decide) (by decide) hk1 hFc hP1 hD1
      generalize H1 = H at hP hS ⊢
      refine g5_rs [(a_k, (oc5 a_h a_j a_pt e_ln e_se e_lh e_br e_we e_me e_ce e_wy e_ho e_ov)), (a_h, (oc1 e_wa e_le e_st e_fo e_lc a_l a_g a_b a_s a_p a_w e_gb a_bb)), (a_p, (oc6 8 5 a_pn e_p)), (a_pn, (arI G 40 f_p)), (a_l, (arW G 6 f_l)), (a_j, (oc2 a_as a_sk)), (a_as, (arI G 8 f_as)), (a_sk, (arJ G 50 f_sk)), (a_g, (oc6 6 5 a_gn e_g)), (a_gn, (arI G 30 f_g))] hP hD (fun hP hD => ?_)
      refine g5_ti (v := z4) y5 ?_
      have hg_6 : 0 ≤ z4.toInt ∧ z4.toInt ≤ 10 := by rw [i_3]; exact (e_gk k_r.toInt (by omega) (by omega)).2.2.2
      refine lv_istore (lv' := [(8, .int z4), (0, .ref a_k), (2, .ref a_g), (3, .int k_r), (4, .int k_n), (5, .int k_s), (6, .null), (7, .int k_l)]) hx hb dX5_meetGlass_244 hl (by decide) rfl (fun ls hl => ?_)
      exact k_mggN4 G a_k a_h a_g a_gn a_p a_pn a_j a_as a_sk a_l a_pt a_b a_s a_w a_bb e_ln e_se e_lh e_br e_we e_me e_ce e_wy e_ho e_ov e_le e_st e_fo e_lc e_wa e_gb e_g f_g e_p f_p f_as f_sk f_l k_r k_n k_s k_l z4 hx hb hml hown hts hK hN hT hA (hP.sub [0, 1, 8, 9, 2, 3, 5, 6, 7, 4] rfl) (hD.sub [0, 1, 8, 9, 2, 3, 5, 6, 7, 4] (by decide) rfl) hS (lv_sub hl [1, 2, 3, 4, 5, 7, 0] rfl) ⟨by omega, by omega⟩ ⟨by omega, by omega⟩ ⟨by omega, by omega⟩ ⟨by omega, by omega⟩ ⟨by omega, by omega⟩ ⟨by omega, by omega⟩ ⟨by omega, by omega⟩ ⟨by omega, by omega⟩ ⟨by omega, by omega⟩ ⟨by omega, by omega⟩ ⟨by omega, by omega⟩ (by omega) kk
    ·
      exact absurd c_2 (by decide)
  ·
    have i_1 : k_l.toInt > e_ho.toInt := by have z := g5_leN (a := k_l.toInt) (b := e_ho.toInt) (by rfl) (by rfl) c_1; omega
    exact kk 212 dX5_meetGlass_212 e_br e_we e_me e_wy e_ho e_ov f_as f_sk ls H locs (hP.sub [0, 1, 2, 3, 4, 5, 6, 7, 8, 9] rfl) (hD.sub [0, 1, 2, 3, 4, 5, 6, 7, 8, 9] (by decide) rfl) hS (⟨by omega, by omega⟩) (⟨by omega, by omega⟩) (⟨by omega, by omega⟩) (⟨by omega, by omega⟩)
set_option maxHeartbeats 4000000 in
set_option maxRecDepth 100000 in
theorem k_mggN2 {p : Program} {l : Launch} {e : Env} {s : State} {m : MethodId} {args : Array Value} {below : List Frame} {meth : Method} {c : Code} {Q : State → Prop} {A : Nat → Prop} {H : Heap} {locs : List Loc} {ls : Array Slot} (G : g5_G) (a_k a_h a_g a_gn a_p a_pn a_j a_as a_sk a_l a_pt a_b a_s a_w a_bb : Nat) (e_ln : Int32) (e_se : Int32) (e_lh : Int32) (e_br : Int32) (e_we : Int32) (e_me : Int32) (e_ce : Int32) (e_wy : Int32) (e_ho : Int32) (e_ov : Int32) (e_le : Int32) (e_st : Int32) (e_fo : Int32) (e_lc : Int32) (e_wa : Int64) (e_gb : Int64) (e_g : Int32) (f_g : Nat → Int32) (e_p : Int32) (f_p : Nat → Int32) (f_as : Nat → Int32) (f_sk : Nat → Int64) (f_l : Nat → Option Nat) (k_r : Int32) (k_n : Int32) (k_s : Int32) (hx : p.tables.exec = Jvm.exec) (hb : c.code = cX5_meetGlass) (hml : c.maxLocals = 9) (hown : s.vm.findClass RX5 = some m.cls) (hts : ∀ w ∈ tblG, w.before args s = true) (hK : va_K G.1 vwCl (T5 G) s) (hN : g5_N s) (hT : g5_S A s s.heap) (hA : ∀ q : Nat, s.heap.size ≤ q → A q) (hP : va_P G.1 vwCl [(a_k, (oc5 a_h a_j a_pt e_ln e_se e_lh e_br e_we e_me e_ce e_wy e_ho e_ov)), (a_h, (oc1 e_wa e_le e_st e_fo e_lc a_l a_g a_b a_s a_p a_w e_gb a_bb)), (a_g, (oc6 6 5 a_gn e_g)), (a_gn, (arI G 30 f_g)), (a_p, (oc6 8 5 a_pn e_p)), (a_pn, (arI G 40 f_p)), (a_j, (oc2 a_as a_sk)), (a_as, (arI G 8 f_as)), (a_sk, (arJ G 50 f_sk)), (a_l, (arW G 6 f_l))] H) (hD : va_D A [(a_k, (oc5 a_h a_j a_pt e_ln e_se e_lh e_br e_we e_me e_ce e_wy e_ho e_ov)), (a_h, (oc1 e_wa e_le e_st e_fo e_lc a_l a_g a_b a_s a_p a_w e_gb a_bb)), (a_g, (oc6 6 5 a_gn e_g)), (a_gn, (arI G 30 f_g)), (a_p, (oc6 8 5 a_pn e_p)), (a_pn, (arI G 40 f_p)), (a_j, (oc2 a_as a_sk)), (a_as, (arI G 8 f_as)), (a_sk, (arJ G 50 f_sk)), (a_l, (arW G 6 f_l))]) (hS : va_S A s.heap H locs) (hl : lv_has ls 9 [(0, .ref a_k), (2, .ref a_g), (3, .int k_r), (4, .int k_n), (5, .int k_s), (6, .null)]) (h_e_br : 0 ≤ e_br.toInt ∧ e_br.toInt ≤ 1000000) (h_e_ce : 0 ≤ e_ce.toInt ∧ e_ce.toInt ≤ 63) (h_e_wy : 0 ≤ e_wy.toInt ∧ e_wy.toInt ≤ 3) (h_e_ho : 0 ≤ e_ho.toInt ∧ e_ho.toInt ≤ 23) (h_e_ov : 0 ≤ e_ov.toInt ∧ e_ov.toInt ≤ 1) (h_e_g : 0 ≤ e_g.toInt ∧ e_g.toInt ≤ 6) (h_e_p : 0 ≤ e_p.toInt ∧ e_p.toInt ≤ 8) (h_k_r : 0 ≤ k_r.toInt ∧ k_r.toInt ≤ 7) (h_k_s : 0 ≤ k_s.toInt ∧ k_s.toInt ≤ 5) (e_gk : gOK f_g e_g.toInt) (e_pk : gOK f_p e_p.toInt) (e_f : e_fo.toInt < 0 ∨ e_lc.toInt ≤ e_fo.toInt) (e_r : k_r.toInt < e_g.toInt) (kk : ∀ (pc1 : Nat), decode cX5_meetGlass pc1 = .ok (.return_, 1) → ∀ (o_b : Int32) (o_w : Int32) (o_m : Int32) (o_y : Int32) (o_h : Int32) (o_v : Int32) (o_a : Nat → Int32) (o_k : Nat → Int64) (ls : Array Slot) (H : Heap) (locs : List Loc), va_P G.1 vwCl [(a_k, (oc5 a_h a_j a_pt e_ln e_se e_lh o_b o_w o_m e_ce o_y o_h o_v)), (a_h, (oc1 e_wa e_le e_st e_fo e_lc a_l a_g a_b a_s a_p a_w e_gb a_bb)), (a_g, (oc6 6 5 a_gn e_g)), (a_gn, (arI G 30 f_g)), (a_p, (oc6 8 5 a_pn e_p)), (a_pn, (arI G 40 f_p)), (a_j, (oc2 a_as a_sk)), (a_as, (arI G 8 o_a)), (a_sk, (arJ G 50 o_k)), (a_l, (arW G 6 f_l))] H → va_D A [(a_k, (oc5 a_h a_j a_pt e_ln e_se e_lh o_b o_w o_m e_ce o_y o_h o_v)), (a_h, (oc1 e_wa e_le e_st e_fo e_lc a_l a_g a_b a_s a_p a_w e_gb a_bb)), (a_g, (oc6 6 5 a_gn e_g)), (a_gn, (arI G 30 f_g)), (a_p, (oc6 8 5 a_pn e_p)), (a_pn, (arI G 40 f_p)), (a_j, (oc2 a_as a_sk)), (a_as, (arI G 8 o_a)), (a_sk, (arJ G 50 o_k)), (a_l, (arW G 6 f_l))] → va_S A s.heap H locs → (0 ≤ o_b.toInt ∧ o_b.toInt ≤ 1000000) → (0 ≤ o_y.toInt ∧ o_y.toInt ≤ 3) → (0 ≤ o_h.toInt ∧ o_h.toInt ≤ 23) → (0 ≤ o_v.toInt ∧ o_v.toInt ≤ 1) → W p l e ({ frames := 12, cells := 0, slots := 0, locals := 500 } : Room) s m args below meth c H locs 0 0 Q (F0 m pc1 ls [])) : W p l e ({ frames := 12, cells := 0, slots := 0, locals := 500 } : Room) s m args below meth c H locs 0 0 Q (F0 m 170 ls []) := by
  refine lv_aload_n hx hb dX5_meetGlass_170 rfl (lv_at hl 0 rfl) ?_
  refine va_get (D := G.1) (ci := 5) (v := .ref a_j) (C := RX5) (T := TX5) (N := 13) hx hb hts inG_X5 hown hK hP 0 rfl rfl 1 (by decide) (hts _ fl_X5_12) (fun _ h9 => h9) rfl dX5_meetGlass_171 ?_
  refine lv_aloadN hx hb dX5_meetGlass_174 (lv_at hl 5 rfl) ?_
  refine lv_iconst (v := 0) hx hb dX5_meetGlass_176 (by decide) ?_
  obtain ⟨hPc, hDc, hFc⟩ := g5_sub3 (wc := [(a_j, (oc2 a_as a_sk)), (a_as, (arI G 8 f_as)), (a_sk, (arJ G 50 f_sk))]) hP hD hS hA [6, 7, 8] (by decide) rfl
  refine va_calli (va_runV (As := [.null, .int 0]) (rest := []) ⟨hx, hb, hml, hown, hts⟩ (j_isHeldN l G a_j a_as a_sk H.size 0 f_as f_sk) (cwV 2 hts gV_X5_124 rfl rfl rfl hv_X2_isHeld ⟨Nat.le_of_ble_eq_true rfl, Nat.le_of_ble_eq_true rfl⟩) (g5_preV hPc hK hDc hN hT hS hFc (ci := 2) (q0 := 0) rfl rfl) rfl rfl hl.1 rfl (lv_room (Nat.le_of_ble_eq_true rfl)) dX5_meetGlass_177 ⟨Nat.le_of_ble_eq_true rfl, Nat.le_of_ble_eq_true rfl⟩) hS (fun q _ h => hFc q h) hFc (fun r u t H1 locs ht hvm hw hB hz1 hk1 hS => ?_)
  obtain ⟨hP1, hD1⟩ := hB
  rw [ht] at hP1
  obtain ⟨rfl, rfl⟩ := hw
  obtain ⟨hP, hD⟩ := va_join (wr := [(a_k, (oc5 a_h a_j a_pt e_ln e_se e_lh e_br e_we e_me e_ce e_wy e_ho e_ov)), (a_h, (oc1 e_wa e_le e_st e_fo e_lc a_l a_g a_b a_s a_p a_w e_gb a_bb)), (a_g, (oc6 6 5 a_gn e_g)), (a_gn, (arI G 30 f_g)), (a_p, (oc6 8 5 a_pn e_p)), (a_pn, (arI G 40 f_p)), (a_l, (arW G 6 f_l))]) hP hD [6, 7, 8] [0, 1, 2, 3, 4, 5, 9] rfl rfl (by decide) (by decide) hk1 hFc hP1 hD1
  generalize H1 = H at hP hS ⊢
  refine g5_rs [(a_k, (oc5 a_h a_j a_pt e_ln e_se e_lh e_br e_we e_me e_ce e_wy e_ho e_ov)), (a_h, (oc1 e_wa e_le e_st e_fo e_lc a_l a_g a_b a_s a_p a_w e_gb a_bb)), (a_g, (oc6 6 5 a_gn e_g)), (a_gn, (arI G 30 f_g)), (a_p, (oc6 8 5 a_pn e_p)), (a_pn, (arI G 40 f_p)), (a_l, (arW G 6 f_l)), (a_j, (oc2 a_as a_sk)), (a_as, (arI G 8 f_as)), (a_sk, (arJ G 50 f_sk))] hP hD (fun hP hD => ?_)
  refine lv_if_eq (tgt := 195) hx hb dX5_meetGlass_180 (by decide) (fun c_1 => ?_) (fun c_1 => ?_)
  ·
    refine lv_aload_n hx hb dX5_meetGlass_195 rfl (lv_at hl 1 rfl) ?_
    refine lv_iload_n hx hb dX5_meetGlass_196 rfl (lv_at hl 2 rfl) ?_
    refine lv_iconst (v := 2) hx hb dX5_meetGlass_197 (by decide) ?_
    obtain ⟨hPc, hDc, hFc⟩ := g5_sub3 (wc := [(a_g, (oc6 6 5 a_gn e_g)), (a_gn, (arI G 30 f_g))]) hP hD hS hA [2, 3] (by decide) rfl
    refine va_calli (va_runV (As := [.int k_r, .int 2]) (rest := []) ⟨hx, hb, hml, hown, hts⟩ (t_get_G l G a_g a_gn H.size e_g k_r 2 f_g ⟨by omega, by omega⟩) (cwV 2 hts gV_X5_107 rfl rfl rfl hv_X6_get ⟨Nat.le_of_ble_eq_true rfl, Nat.le_of_ble_eq_true rfl⟩) (g5_preV hPc hK hDc hN hT hS hFc (ci := 6) (q0 := 0) rfl rfl) rfl rfl hl.1 rfl (lv_room (Nat.le_of_ble_eq_true rfl)) dX5_meetGlass_198 ⟨Nat.le_of_ble_eq_true rfl, Nat.le_of_ble_eq_true rfl⟩) hS (fun q _ h => hFc q h) hFc (fun r u t H1 locs ht hvm hw hB hz1 hk1 hS => ?_)
    obtain ⟨hP1, hD1⟩ := hB
    rw [ht] at hP1
    obtain ⟨z3, i_2, y4, rfl⟩ := hw
    have i_2 : z3 = tget f_g e_g.toInt 5 k_r.toInt (2 : Int32).toInt := i_2
    obtain ⟨hP, hD⟩ := va_join (wr := [(a_k, (oc5 a_h a_j a_pt e_ln e_se e_lh e_br e_we e_me e_ce e_wy e_ho e_ov)), (a_h, (oc1 e_wa e_le e_st e_fo e_lc a_l a_g a_b a_s a_p a_w e_gb a_bb)), (a_p, (oc6 8 5 a_pn e_p)), (a_pn, (arI G 40 f_p)), (a_l, (arW G 6 f_l)), (a_j, (oc2 a_as a_sk)), (a_as, (arI G 8 f_as)), (a_sk, (arJ G 50 f_sk))]) hP hD [2, 3] [0, 1, 4, 5, 6, 7, 8, 9] rfl rfl (by decide) (by decide) hk1 hFc hP1 hD1
    generalize H1 = H at hP hS ⊢
    refine g5_rs [(a_k, (oc5 a_h a_j a_pt e_ln e_se e_lh e_br e_we e_me e_ce e_wy e_ho e_ov)), (a_h, (oc1 e_wa e_le e_st e_fo e_lc a_l a_g a_b a_s a_p a_w e_gb a_bb)), (a_p, (oc6 8 5 a_pn e_p)), (a_pn, (arI G 40 f_p)), (a_l, (arW G 6 f_l)), (a_j, (oc2 a_as a_sk)), (a_as, (arI G 8 f_as)), (a_sk, (arJ G 50 f_sk)), (a_g, (oc6 6 5 a_gn e_g)), (a_gn, (arI G 30 f_g))] hP hD (fun hP hD => ?_)
    refine g5_ti (v := z3) y4 ?_
    have hg_5 : 0 ≤ z3.toInt ∧ z3.toInt ≤ 23 := by rw [i_2]; exact (e_gk k_r.toInt (by omega) (by omega)).2.2.1
    refine lv_istore (lv' := [(7, .int z3), (0, .ref a_k), (2, .ref a_g), (3, .int k_r), (4, .int k_n), (5, .int k_s), (6, .null)]) hx hb dX5_meetGlass_201 hl (by decide) rfl (fun ls hl => ?_)
    exact k_mggN3 G a_k a_h a_g a_gn a_p a_pn a_j a_as a_sk a_l a_pt a_b a_s a_w a_bb e_ln e_se e_lh e_br e_we e_me e_ce e_wy e_ho e_ov e_le e_st e_fo e_lc e_wa e_gb e_g f_g e_p f_p f_as f_sk f_l k_r k_n k_s z3 hx hb hml hown hts hK hN hT hA (hP.sub [0, 1, 8, 9, 2, 3, 5, 6, 7, 4] rfl) (hD.sub [0, 1, 8, 9, 2, 3, 5, 6, 7, 4] (by decide) rfl) hS (lv_sub hl [1, 2, 3, 4, 5, 6, 0] rfl) ⟨by omega, by omega⟩ ⟨by omega, by omega⟩ ⟨by omega, by omega⟩ ⟨by omega, by omega⟩ ⟨by omega, by omega⟩ ⟨by omega, by omega⟩ ⟨by omega, by omega⟩ ⟨by omega, by omega⟩ ⟨by omega, by omega⟩ ⟨by omega, by omega⟩ (e_gk) (e_pk) (e_f) (e_r) kk
  ·
    exact absurd c_1 (by decide)
theorem fl_X5_95 : Cond.fieldLink RX5 95 "LateGlass$Look" "met" "I" ∈ tblG := tg 262 (by decide +kernel) (by decide +kernel)
set_option maxHeartbeats 4000000 in
set_option maxRecDepth 100000 in
theorem k_mggN1 {p : Program} {l : Launch} {e : Env} {s : State} {m : MethodId} {args : Array Value} {below : List Frame} {meth : Method} {c : Code} {Q : State → Prop} {A : Nat → Prop} {H : Heap} {locs : List Loc} {ls : Array Slot} (G : g5_G) (a_k a_h a_g a_gn a_p a_pn a_j a_as a_sk a_l a_pt a_b a_s a_w a_bb : Nat) (e_ln : Int32) (e_se : Int32) (e_lh : Int32) (e_br : Int32) (e_we : Int32) (e_me : Int32) (e_ce : Int32) (e_wy : Int32) (e_ho : Int32) (e_ov : Int32) (e_le : Int32) (e_st : Int32) (e_fo : Int32) (e_lc : Int32) (e_wa : Int64) (e_gb : Int64) (e_g : Int32) (f_g : Nat → Int32) (e_p : Int32) (f_p : Nat → Int32) (f_as : Nat → Int32) (f_sk : Nat → Int64) (f_l : Nat → Option Nat) (k_r : Int32) (k_n : Int32) (hx : p.tables.exec = Jvm.exec) (hb : c.code = cX5_meetGlass) (hml : c.maxLocals = 9) (hown : s.vm.findClass RX5 = some m.cls) (hts : ∀ w ∈ tblG, w.before args s = true) (hK : va_K G.1 vwCl (T5 G) s) (hN : g5_N s) (hT : g5_S A s s.heap) (hA : ∀ q : Nat, s.heap.size ≤ q → A q) (hP : va_P G.1 vwCl [(a_k, (oc5 a_h a_j a_pt e_ln e_se e_lh e_br e_we e_me e_ce e_wy e_ho e_ov)), (a_h, (oc1 e_wa e_le e_st e_fo e_lc a_l a_g a_b a_s a_p a_w e_gb a_bb)), (a_g, (oc6 6 5 a_gn e_g)), (a_gn, (arI G 30 f_g)), (a_p, (oc6 8 5 a_pn e_p)), (a_pn, (arI G 40 f_p)), (a_j, (oc2 a_as a_sk)), (a_as, (arI G 8 f_as)), (a_sk, (arJ G 50 f_sk)), (a_l, (arW G 6 f_l))] H) (hD : va_D A [(a_k, (oc5 a_h a_j a_pt e_ln e_se e_lh e_br e_we e_me e_ce e_wy e_ho e_ov)), (a_h, (oc1 e_wa e_le e_st e_fo e_lc a_l a_g a_b a_s a_p a_w e_gb a_bb)), (a_g, (oc6 6 5 a_gn e_g)), (a_gn, (arI G 30 f_g)), (a_p, (oc6 8 5 a_pn e_p)), (a_pn, (arI G 40 f_p)), (a_j, (oc2 a_as a_sk)), (a_as, (arI G 8 f_as)), (a_sk, (arJ G 50 f_sk)), (a_l, (arW G 6 f_l))]) (hS : va_S A s.heap H locs) (hl : lv_has ls 9 [(0, .ref a_k), (2, .ref a_g), (3, .int k_r), (4, .int k_n)]) (h_e_br : 0 ≤ e_br.toInt ∧ e_br.toInt ≤ 1000000) (h_e_ce : 0 ≤ e_ce.toInt ∧ e_ce.toInt ≤ 63) (h_e_wy : 0 ≤ e_wy.toInt ∧ e_wy.toInt ≤ 3) (h_e_ho : 0 ≤ e_ho.toInt ∧ e_ho.toInt ≤ 23) (h_e_ov : 0 ≤ e_ov.toInt ∧ e_ov.toInt ≤ 1) (h_e_g : 0 ≤ e_g.toInt ∧ e_g.toInt ≤ 6) (h_e_p : 0 ≤ e_p.toInt ∧ e_p.toInt ≤ 8) (h_k_r : 0 ≤ k_r.toInt ∧ k_r.toInt ≤ 7) (e_gk : gOK f_g e_g.toInt) (e_pk : gOK f_p e_p.toInt) (e_f : e_fo.toInt < 0 ∨ e_lc.toInt ≤ e_fo.toInt) (e_r : k_r.toInt < e_g.toInt) (kk : ∀ (pc1 : Nat), decode cX5_meetGlass pc1 = .ok (.return_, 1) → ∀ (o_b : Int32) (o_w : Int32) (o_m : Int32) (o_y : Int32) (o_h : Int32) (o_v : Int32) (o_a : Nat → Int32) (o_k : Nat → Int64) (ls : Array Slot) (H : Heap) (locs : List Loc), va_P G.1 vwCl [(a_k, (oc5 a_h a_j a_pt e_ln e_se e_lh o_b o_w o_m e_ce o_y o_h o_v)), (a_h, (oc1 e_wa e_le e_st e_fo e_lc a_l a_g a_b a_s a_p a_w e_gb a_bb)), (a_g, (oc6 6 5 a_gn e_g)), (a_gn, (arI G 30 f_g)), (a_p, (oc6 8 5 a_pn e_p)), (a_pn, (arI G 40 f_p)), (a_j, (oc2 a_as a_sk)), (a_as, (arI G 8 o_a)), (a_sk, (arJ G 50 o_k)), (a_l, (arW G 6 f_l))] H → va_D A [(a_k, (oc5 a_h a_j a_pt e_ln e_se e_lh o_b o_w o_m e_ce o_y o_h o_v)), (a_h, (oc1 e_wa e_le e_st e_fo e_lc a_l a_g a_b a_s a_p a_w e_gb a_bb)), (a_g, (oc6 6 5 a_gn e_g)), (a_gn, (arI G 30 f_g)), (a_p, (oc6 8 5 a_pn e_p)), (a_pn, (arI G 40 f_p)), (a_j, (oc2 a_as a_sk)), (a_as, (arI G 8 o_a)), (a_sk, (arJ G 50 o_k)), (a_l, (arW G 6 f_l))] → va_S A s.heap H locs → (0 ≤ o_b.toInt ∧ o_b.toInt ≤ 1000000) → (0 ≤ o_y.toInt ∧ o_y.toInt ≤ 3) → (0 ≤ o_h.toInt ∧ o_h.toInt ≤ 23) → (0 ≤ o_v.toInt ∧ o_v.toInt ≤ 1) → W p l e ({ frames := 12, cells := 0, slots := 0, locals := 500 } : Room) s m args below meth c H locs 0 0 Q (F0 m pc1 ls [])) : W p l e ({ frames := 12, cells := 0, slots := 0, locals := 500 } : Room) s m args below meth c H locs 0 0 Q (F0 m 84 ls []) := by
  refine lv_aload_n hx hb dX5_meetGlass_84 rfl (lv_at hl 1 rfl) ?_
  refine lv_iload_n hx hb dX5_meetGlass_85 rfl (lv_at hl 2 rfl) ?_
  refine lv_iconst (v := 1) hx hb dX5_meetGlass_86 (by decide) ?_
  obtain ⟨hPc, hDc, hFc⟩ := g5_sub3 (wc := [(a_g, (oc6 6 5 a_gn e_g)), (a_gn, (arI G 30 f_g))]) hP hD hS hA [2, 3] (by decide) rfl
  refine va_calli (va_runV (As := [.int k_r, .int 1]) (rest := []) ⟨hx, hb, hml, hown, hts⟩ (t_get_G l G a_g a_gn H.size e_g k_r 1 f_g ⟨by omega, by omega⟩) (cwV 2 hts gV_X5_107 rfl rfl rfl hv_X6_get ⟨Nat.le_of_ble_eq_true rfl, Nat.le_of_ble_eq_true rfl⟩) (g5_preV hPc hK hDc hN hT hS hFc (ci := 6) (q0 := 0) rfl rfl) rfl rfl hl.1 rfl (lv_room (Nat.le_of_ble_eq_true rfl)) dX5_meetGlass_87 ⟨Nat.le_of_ble_eq_true rfl, Nat.le_of_ble_eq_true rfl⟩) hS (fun q _ h => hFc q h) hFc (fun r u t H1 locs ht hvm hw hB hz1 hk1 hS => ?_)
  obtain ⟨hP1, hD1⟩ := hB
  rw [ht] at hP1
  obtain ⟨z2, i_1, y3, rfl⟩ := hw
  have i_1 : z2 = tget f_g e_g.toInt 5 k_r.toInt (1 : Int32).toInt := i_1
  obtain ⟨hP, hD⟩ := va_join (wr := [(a_k, (oc5 a_h a_j a_pt e_ln e_se e_lh e_br e_we e_me e_ce e_wy e_ho e_ov)), (a_h, (oc1 e_wa e_le e_st e_fo e_lc a_l a_g a_b a_s a_p a_w e_gb a_bb)), (a_p, (oc6 8 5 a_pn e_p)), (a_pn, (arI G 40 f_p)), (a_j, (oc2 a_as a_sk)), (a_as, (arI G 8 f_as)), (a_sk, (arJ G 50 f_sk)), (a_l, (arW G 6 f_l))]) hP hD [2, 3] [0, 1, 4, 5, 6, 7, 8, 9] rfl rfl (by decide) (by decide) hk1 hFc hP1 hD1
  generalize H1 = H at hP hS ⊢
  refine g5_rs [(a_k, (oc5 a_h a_j a_pt e_ln e_se e_lh e_br e_we e_me e_ce e_wy e_ho e_ov)), (a_h, (oc1 e_wa e_le e_st e_fo e_lc a_l a_g a_b a_s a_p a_w e_gb a_bb)), (a_p, (oc6 8 5 a_pn e_p)), (a_pn, (arI G 40 f_p)), (a_j, (oc2 a_as a_sk)), (a_as, (arI G 8 f_as)), (a_sk, (arJ G 50 f_sk)), (a_l, (arW G 6 f_l)), (a_g, (oc6 6 5 a_gn e_g)), (a_gn, (arI G 30 f_g))] hP hD (fun hP hD => ?_)
  refine g5_ti (v := z2) y3 ?_
  have hg_4 : 0 ≤ z2.toInt ∧ z2.toInt ≤ 5 := by rw [i_1]; exact (e_gk k_r.toInt (by omega) (by omega)).2.1
  refine lv_istore (lv' := [(5, .int z2), (0, .ref a_k), (2, .ref a_g), (3, .int k_r), (4, .int k_n)]) hx hb dX5_meetGlass_90 hl (by decide) rfl (fun ls hl => ?_)
  refine lv_aload_n hx hb dX5_meetGlass_92 rfl (lv_at hl 1 rfl) ?_
  refine lv_dup hx hb dX5_meetGlass_93 rfl ?_
  refine va_get (D := G.1) (ci := 5) (v := .int e_me) (C := RX5) (T := TX5) (N := 13) hx hb hts inG_X5 hown hK hP 0 rfl rfl 8 (by decide) (hts _ fl_X5_95) (fun _ h9 => h9) rfl dX5_meetGlass_94 ?_
  refine lv_iconst (v := 1) hx hb dX5_meetGlass_97 (by decide) ?_
  refine lv_iload hx hb dX5_meetGlass_98 (lv_at hl 4 rfl) ?_
  refine lv_ishl hx hb dX5_meetGlass_100 ?_
  refine lv_ior hx hb dX5_meetGlass_101 ?_
  refine va_put (D := G.1) (ci := 5) (v := .int (e_me ||| (1 <<< (k_n &&& 31)))) (ty := .int) (C := RX5) (T := TX5) (N := 13) hx hb hts inG_X5 tyX5 tyX5_ok nmX5 hown hK hP hD hS 0 rfl rfl 8 (by decide) (hts _ fl_X5_95) (fun _ h9 => h9) rfl (by decide +kernel) rfl rfl (Nat.le_of_ble_eq_true rfl) dX5_meetGlass_102 (fun H locs hP hD hS => ?_)
  refine g5_rs [(a_k, (oc5 a_h a_j a_pt e_ln e_se e_lh e_br e_we (e_me ||| (1 <<< (k_n &&& 31))) e_ce e_wy e_ho e_ov)), (a_h, (oc1 e_wa e_le e_st e_fo e_lc a_l a_g a_b a_s a_p a_w e_gb a_bb)), (a_p, (oc6 8 5 a_pn e_p)), (a_pn, (arI G 40 f_p)), (a_j, (oc2 a_as a_sk)), (a_as, (arI G 8 f_as)), (a_sk, (arJ G 50 f_sk)), (a_l, (arW G 6 f_l)), (a_g, (oc6 6 5 a_gn e_g)), (a_gn, (arI G 30 f_g))] hP hD (fun hP hD => ?_)
  refine lv_aload_n hx hb dX5_meetGlass_105 rfl (lv_at hl 1 rfl) ?_
  refine va_get (D := G.1) (ci := 5) (v := .ref a_h) (C := RX5) (T := TX5) (N := 13) hx hb hts inG_X5 hown hK hP 0 rfl rfl 0 (by decide) (hts _ fl_X5_22) (fun _ h9 => h9) rfl dX5_meetGlass_106 ?_
  obtain ⟨hPc, hDc, hFc⟩ := g5_sub3 (wc := [(a_h, (oc1 e_wa e_le e_st e_fo e_lc a_l a_g a_b a_s a_p a_w e_gb a_bb)), (a_l, (arW G 6 f_l))]) hP hD hS hA [1, 7] (by decide) rfl
  refine va_callq (va_runV (As := []) (rest := []) ⟨hx, hb, hml, hown, hts⟩ (h_lawN l G a_h a_l a_g a_b a_s a_p a_w a_bb H.size e_le e_st e_fo e_lc e_wa e_gb f_l (e_f)) (cwV 0 hts gV_X5_113 rfl rfl rfl hv_X1_lawInForce ⟨Nat.le_of_ble_eq_true rfl, Nat.le_of_ble_eq_true rfl⟩) (g5_preV hPc hK hDc hN hT hS hFc (ci := 1) (q0 := 0) rfl rfl) rfl rfl hl.1 rfl (lv_room (Nat.le_of_ble_eq_true rfl)) dX5_meetGlass_109 ⟨Nat.le_of_ble_eq_true rfl, Nat.le_of_ble_eq_true rfl⟩) hS (fun q _ h => hFc q h) hFc (fun r u t H1 locs ht hvm hw hB hz1 hk1 hS => ?_)
  obtain ⟨hP1, hD1⟩ := hB
  rw [ht] at hP1
  obtain ⟨rfl, rfl⟩ := hw
  obtain ⟨hP, hD⟩ := va_join (wr := [(a_k, (oc5 a_h a_j a_pt e_ln e_se e_lh e_br e_we (e_me ||| (1 <<< (k_n &&& 31))) e_ce e_wy e_ho e_ov)), (a_p, (oc6 8 5 a_pn e_p)), (a_pn, (arI G 40 f_p)), (a_j, (oc2 a_as a_sk)), (a_as, (arI G 8 f_as)), (a_sk, (arJ G 50 f_sk)), (a_g, (oc6 6 5 a_gn e_g)), (a_gn, (arI G 30 f_g))]) hP hD [1, 7] [0, 2, 3, 4, 5, 6, 8, 9] rfl rfl (by decide) (by decide) hk1 hFc hP1 hD1
  generalize H1 = H at hP hS ⊢
  refine g5_rs [(a_k, (oc5 a_h a_j a_pt e_ln e_se e_lh e_br e_we (e_me ||| (1 <<< (k_n &&& 31))) e_ce e_wy e_ho e_ov)), (a_p, (oc6 8 5 a_pn e_p)), (a_pn, (arI G 40 f_p)), (a_j, (oc2 a_as a_sk)), (a_as, (arI G 8 f_as)), (a_sk, (arJ G 50 f_sk)), (a_g, (oc6 6 5 a_gn e_g)), (a_gn, (arI G 30 f_g)), (a_h, (oc1 e_wa e_le e_st e_fo e_lc a_l a_g a_b a_s a_p a_w e_gb a_bb)), (a_l, (arW G 6 f_l))] hP hD (fun hP hD => ?_)
  refine g5_tv (v := .null) rfl ?_
  refine lv_astoreN (lv' := [(6, .null), (5, .int z2), (0, .ref a_k), (2, .ref a_g), (3, .int k_r), (4, .int k_n)]) hx hb dX5_meetGlass_112 hl (by decide) rfl (fun ls hl => ?_)
  refine lv_aload_n hx hb dX5_meetGlass_114 rfl (lv_at hl 2 rfl) ?_
  refine lv_iload hx hb dX5_meetGlass_115 (lv_at hl 5 rfl) ?_
  refine lv_iconst (v := (-1)) hx hb dX5_meetGlass_117 (by decide) ?_
  obtain ⟨hPc, hDc, hFc⟩ := g5_sub3 (wc := [(a_k, (oc5 a_h a_j a_pt e_ln e_se e_lh e_br e_we (e_me ||| (1 <<< (k_n &&& 31))) e_ce e_wy e_ho e_ov)), (a_j, (oc2 a_as a_sk)), (a_as, (arI G 8 f_as))]) hP hD hS hA [0, 3, 4] (by decide) rfl
  refine va_callv (va_runV (As := [.int k_n, .int (-1)]) (rest := []) ⟨hx, hb, hml, hown, hts⟩ (k_ask l G a_k a_j a_as a_h a_pt a_sk H.size e_ln e_se e_lh e_br e_we (e_me ||| (1 <<< (k_n &&& 31))) e_ce e_wy e_ho e_ov k_n (-1) f_as ⟨by omega, by omega⟩ ⟨by omega, by omega⟩ ⟨by omega, by omega⟩ ⟨by omega, by omega⟩ ⟨by omega, by omega⟩) (cwV 2 hts gV_X5_120 rfl rfl rfl hv_X5_ask ⟨Nat.le_of_ble_eq_true rfl, Nat.le_of_ble_eq_true rfl⟩) (g5_preV hPc hK hDc hN hT hS hFc (ci := 5) (q0 := 0) rfl rfl) rfl rfl hl.1 rfl (lv_room (Nat.le_of_ble_eq_true rfl)) dX5_meetGlass_118 ⟨Nat.le_of_ble_eq_true rfl, Nat.le_of_ble_eq_true rfl⟩) hS (fun q _ h => hFc q h) hFc (fun u t H1 locs ht hvm hw hB hz1 hk1 hS => ?_)
  obtain ⟨hP1, hD1⟩ := hB
  rw [ht] at hP1
  obtain ⟨z5, rfl⟩ := hw
  obtain ⟨hP, hD⟩ := va_join (wr := [(a_p, (oc6 8 5 a_pn e_p)), (a_pn, (arI G 40 f_p)), (a_sk, (arJ G 50 f_sk)), (a_g, (oc6 6 5 a_gn e_g)), (a_gn, (arI G 30 f_g)), (a_h, (oc1 e_wa e_le e_st e_fo e_lc a_l a_g a_b a_s a_p a_w e_gb a_bb)), (a_l, (arW G 6 f_l))]) hP hD [0, 3, 4] [1, 2, 5, 6, 7, 8, 9] rfl rfl (by decide) (by decide) hk1 hFc hP1 hD1
  generalize H1 = H at hP hS ⊢
  refine g5_rs [(a_p, (oc6 8 5 a_pn e_p)), (a_pn, (arI G 40 f_p)), (a_sk, (arJ G 50 f_sk)), (a_g, (oc6 6 5 a_gn e_g)), (a_gn, (arI G 30 f_g)), (a_h, (oc1 e_wa e_le e_st e_fo e_lc a_l a_g a_b a_s a_p a_w e_gb a_bb)), (a_l, (arW G 6 f_l)), (a_k, (oc5 a_h a_j a_pt e_ln e_se e_lh e_br e_we (e_me ||| (1 <<< (k_n &&& 31))) e_ce e_wy e_ho e_ov)), (a_j, (oc2 a_as a_sk)), (a_as, (arI G 8 z5))] hP hD (fun hP hD => ?_)
  refine lv_aload_n hx hb dX5_meetGlass_121 rfl (lv_at hl 3 rfl) ?_
  refine lv_iload_n hx hb dX5_meetGlass_122 rfl (lv_at hl 4 rfl) ?_
  refine lv_iconst (v := 4) hx hb dX5_meetGlass_123 (by decide) ?_
  obtain ⟨hPc, hDc, hFc⟩ := g5_sub3 (wc := [(a_g, (oc6 6 5 a_gn e_g)), (a_gn, (arI G 30 f_g))]) hP hD hS hA [3, 4] (by decide) rfl
  refine va_calli (va_runV (As := [.int k_r, .int 4]) (rest := []) ⟨hx, hb, hml, hown, hts⟩ (t_get_G l G a_g a_gn H.size e_g k_r 4 f_g ⟨by omega, by omega⟩) (cwV 2 hts gV_X5_107 rfl rfl rfl hv_X6_get ⟨Nat.le_of_ble_eq_true rfl, Nat.le_of_ble_eq_true rfl⟩) (g5_preV hPc hK hDc hN hT hS hFc (ci := 6) (q0 := 0) rfl rfl) rfl rfl hl.1 rfl (lv_room (Nat.le_of_ble_eq_true rfl)) dX5_meetGlass_124 ⟨Nat.le_of_ble_eq_true rfl, Nat.le_of_ble_eq_true rfl⟩) hS (fun q _ h => hFc q h) hFc (fun r u t H1 locs ht hvm hw hB hz1 hk1 hS => ?_)
  obtain ⟨hP1, hD1⟩ := hB
  rw [ht] at hP1
  obtain ⟨z7, i_6, y8, rfl⟩ := hw
  have i_6 : z7 = tget f_g e_g.toInt 5 k_r.toInt (4 : Int32).toInt := i_6
  obtain ⟨hP, hD⟩ := va_join (wr := [(a_p, (oc6 8 5 a_pn e_p)), (a_pn, (arI G 40 f_p)), (a_sk, (arJ G 50 f_sk)), (a_h, (oc1 e_wa e_le e_st e_fo e_lc a_l a_g a_b a_s a_p a_w e_gb a_bb)), (a_l, (arW G 6 f_l)), (a_k, (oc5 a_h a_j a_pt e_ln e_se e_lh e_br e_we (e_me ||| (1 <<< (k_n &&& 31))) e_ce e_wy e_ho e_ov)), (a_j, (oc2 a_as a_sk)), (a_as, (arI G 8 z5))]) hP hD [3, 4] [0, 1, 2, 5, 6, 7, 8, 9] rfl rfl (by decide) (by decide) hk1 hFc hP1 hD1
  generalize H1 = H at hP hS ⊢
  refine g5_rs [(a_p, (oc6 8 5 a_pn e_p)), (a_pn, (arI G 40 f_p)), (a_sk, (arJ G 50 f_sk)), (a_h, (oc1 e_wa e_le e_st e_fo e_lc a_l a_g a_b a_s a_p a_w e_gb a_bb)), (a_l, (arW G 6 f_l)), (a_k, (oc5 a_h a_j a_pt e_ln e_se e_lh e_br e_we (e_me ||| (1 <<< (k_n &&& 31))) e_ce e_wy e_ho e_ov)), (a_j, (oc2 a_as a_sk)), (a_as, (arI G 8 z5)), (a_g, (oc6 6 5 a_gn e_g)), (a_gn, (arI G 30 f_g))] hP hD (fun hP hD => ?_)
  refine g5_ti (v := z7) y8 ?_
  refine lv_aload_n hx hb dX5_meetGlass_127 rfl (lv_at hl 2 rfl) ?_
  refine va_get (D := G.1) (ci := 5) (v := .int e_ho) (C := RX5) (T := TX5) (N := 13) hx hb hts inG_X5 hown hK hP 5 rfl rfl 11 (by decide) (hts _ fl_X5_33) (fun _ h9 => h9) rfl dX5_meetGlass_128 ?_
  refine lv_ishr hx hb dX5_meetGlass_131 ?_
  refine lv_iconst (v := 1) hx hb dX5_meetGlass_132 (by decide) ?_
  refine lv_iand hx hb dX5_meetGlass_133 ?_
  refine lv_if_ne (tgt := 169) hx hb dX5_meetGlass_134 (by decide) (fun c_9 => ?_) (fun c_9 => ?_)
  ·
    have n_9 : gNe (((z7 >>> (e_ho &&& 31)) &&& 1).toInt) (0) := by have z := g5_ne (a := ((z7 >>> (e_ho &&& 31)) &&& 1).toInt) (b := 0) (by rfl) (by decide) c_9; unfold gNe; omega
    exact kk 169 dX5_meetGlass_169 e_br e_we (e_me ||| (1 <<< (k_n &&& 31))) e_wy e_ho e_ov z5 f_sk ls H locs (hP.sub [5, 3, 8, 9, 0, 1, 6, 7, 2, 4] rfl) (hD.sub [5, 3, 8, 9, 0, 1, 6, 7, 2, 4] (by decide) rfl) hS (⟨by omega, by omega⟩) (⟨by omega, by omega⟩) (⟨by omega, by omega⟩) (⟨by omega, by omega⟩)
  ·
    have i_9 : ((z7 >>> (e_ho &&& 31)) &&& 1).toInt = 0 := by have z := g5_neN (a := ((z7 >>> (e_ho &&& 31)) &&& 1).toInt) (b := 0) (by rfl) (by decide) c_9; omega
    refine lv_aload_n hx hb dX5_meetGlass_137 rfl (lv_at hl 2 rfl) ?_
    refine va_get (D := G.1) (ci := 5) (v := .ref a_j) (C := RX5) (T := TX5) (N := 13) hx hb hts inG_X5 hown hK hP 5 rfl rfl 1 (by decide) (hts _ fl_X5_12) (fun _ h9 => h9) rfl dX5_meetGlass_138 ?_
    refine lv_aloadN hx hb dX5_meetGlass_141 (lv_at hl 0 rfl) ?_
    refine lv_iconst (v := 2) hx hb dX5_meetGlass_143 (by decide) ?_
    obtain ⟨hPc, hDc, hFc⟩ := g5_sub3 (wc := [(a_j, (oc2 a_as a_sk)), (a_as, (arI G 8 z5)), (a_sk, (arJ G 50 f_sk))]) hP hD hS hA [6, 7, 2] (by decide) rfl
    refine va_calli (va_runV (As := [.null, .int 2]) (rest := []) ⟨hx, hb, hml, hown, hts⟩ (j_isHeldN l G a_j a_as a_sk H.size 2 z5 f_sk) (cwV 2 hts gV_X5_124 rfl rfl rfl hv_X2_isHeld ⟨Nat.le_of_ble_eq_true rfl, Nat.le_of_ble_eq_true rfl⟩) (g5_preV hPc hK hDc hN hT hS hFc (ci := 2) (q0 := 0) rfl rfl) rfl rfl hl.1 rfl (lv_room (Nat.le_of_ble_eq_true rfl)) dX5_meetGlass_144 ⟨Nat.le_of_ble_eq_true rfl, Nat.le_of_ble_eq_true rfl⟩) hS (fun q _ h => hFc q h) hFc (fun r u t H1 locs ht hvm hw hB hz1 hk1 hS => ?_)
    obtain ⟨hP1, hD1⟩ := hB
    rw [ht] at hP1
    obtain ⟨rfl, rfl⟩ := hw
    obtain ⟨hP, hD⟩ := va_join (wr := [(a_p, (oc6 8 5 a_pn e_p)), (a_pn, (arI G 40 f_p)), (a_h, (oc1 e_wa e_le e_st e_fo e_lc a_l a_g a_b a_s a_p a_w e_gb a_bb)), (a_l, (arW G 6 f_l)), (a_k, (oc5 a_h a_j a_pt e_ln e_se e_lh e_br e_we (e_me ||| (1 <<< (k_n &&& 31))) e_ce e_wy e_ho e_ov)), (a_g, (oc6 6 5 a_gn e_g)), (a_gn, (arI G 30 f_g))]) hP hD [6, 7, 2] [0, 1, 3, 4, 5, 8, 9] rfl rfl (by decide) (by decide) hk1 hFc hP1 hD1
    generalize H1 = H at hP hS ⊢
    refine g5_rs [(a_p, (oc6 8 5 a_pn e_p)), (a_pn, (arI G 40 f_p)), (a_h, (oc1 e_wa e_le e_st e_fo e_lc a_l a_g a_b a_s a_p a_w e_gb a_bb)), (a_l, (arW G 6 f_l)), (a_k, (oc5 a_h a_j a_pt e_ln e_se e_lh e_br e_we (e_me ||| (1 <<< (k_n &&& 31))) e_ce e_wy e_ho e_ov)), (a_g, (oc6 6 5 a_gn e_g)), (a_gn, (arI G 30 f_g)), (a_j, (oc2 a_as a_sk)), (a_as, (arI G 8 z5)), (a_sk, (arJ G 50 f_sk))] hP hD (fun hP hD => ?_)
    refine lv_if_ne (tgt := 169) hx hb dX5_meetGlass_147 (by decide) (fun c_10 => ?_) (fun c_10 => ?_)
    ·
      exact absurd c_10 (by decide)
    ·
      refine lv_iload hx hb dX5_meetGlass_150 (lv_at hl 1 rfl) ?_
      refine lv_iconst (v := 2) hx hb dX5_meetGlass_152 (by decide) ?_
      refine lv_icmp_lt (tgt := 170) hx hb dX5_meetGlass_153 (by decide) (fun c_11 => ?_) (fun c_11 => ?_)
      ·
        have i_11 : z2.toInt < 2 := by have z := g5_lt (a := z2.toInt) (b := 2) (by rfl) (by decide) c_11; omega
        exact k_mggN2 G a_k a_h a_g a_gn a_p a_pn a_j a_as a_sk a_l a_pt a_b a_s a_w a_bb e_ln e_se e_lh e_br e_we (e_me ||| (1 <<< (k_n &&& 31))) e_ce e_wy e_ho e_ov e_le e_st e_fo e_lc e_wa e_gb e_g f_g e_p f_p z5 f_sk f_l k_r k_n z2 hx hb hml hown hts hK hN hT hA (hP.sub [4, 2, 5, 6, 0, 1, 7, 8, 9, 3] rfl) (hD.sub [4, 2, 5, 6, 0, 1, 7, 8, 9, 3] (by decide) rfl) hS (lv_sub hl [2, 3, 4, 5, 1, 0] rfl) ⟨by omega, by omega⟩ ⟨by omega, by omega⟩ ⟨by omega, by omega⟩ ⟨by omega, by omega⟩ ⟨by omega, by omega⟩ ⟨by omega, by omega⟩ ⟨by omega, by omega⟩ ⟨by omega, by omega⟩ ⟨by omega, by omega⟩ (e_gk) (e_pk) (e_f) (e_r) kk
      ·
        have i_11 : z2.toInt ≥ 2 := by have z := g5_ltN (a := z2.toInt) (b := 2) (by rfl) (by decide) c_11; omega
        refine lv_iload hx hb dX5_meetGlass_156 (lv_at hl 1 rfl) ?_
        refine lv_iconst (v := 2) hx hb dX5_meetGlass_158 (by decide) ?_
        refine lv_isub hx hb dX5_meetGlass_159 ?_
        have t_12 : (z2 - 2).toInt = z2.toInt - 2 := g5_isub (a := z2.toInt) (b := 2) (by rfl) (by decide) (by omega) (by omega)
        refine lv_aload_n hx hb dX5_meetGlass_160 rfl (lv_at hl 2 rfl) ?_
        refine va_get (D := G.1) (ci := 5) (v := .int e_wy) (C := RX5) (T := TX5) (N := 13) hx hb hts inG_X5 hown hK hP 4 rfl rfl 10 (by decide) (hts _ fl_X5_30) (fun _ h9 => h9) rfl dX5_meetGlass_161 ?_
        refine lv_iconst (v := 2) hx hb dX5_meetGlass_164 (by decide) ?_
        refine lv_ixor hx hb dX5_meetGlass_165 ?_
        have hx_13 := (g_xor (w := e_wy) (by omega) (by omega)).2
        refine lv_icmp_eq (tgt := 170) hx hb dX5_meetGlass_166 (by decide) (fun c_14 => ?_) (fun c_14 => ?_)
        ·
          have i_14 : (z2.toInt - 2) = (e_wy ^^^ 2).toInt := by have z := g5_eq (a := (z2 - 2).toInt) (b := (e_wy ^^^ 2).toInt) (by rfl) (by rfl) c_14; omega
          exact k_mggN2 G a_k a_h a_g a_gn a_p a_pn a_j a_as a_sk a_l a_pt a_b a_s a_w a_bb e_ln e_se e_lh e_br e_we (e_me ||| (1 <<< (k_n &&& 31))) e_ce e_wy e_ho e_ov e_le e_st e_fo e_lc e_wa e_gb e_g f_g e_p f_p z5 f_sk f_l k_r k_n z2 hx hb hml hown hts hK hN hT hA (hP.sub [4, 2, 5, 6, 0, 1, 7, 8, 9, 3] rfl) (hD.sub [4, 2, 5, 6, 0, 1, 7, 8, 9, 3] (by decide) rfl) hS (lv_sub hl [2, 3, 4, 5, 1, 0] rfl) ⟨by omega, by omega⟩ ⟨by omega, by omega⟩ ⟨by omega, by omega⟩ ⟨by omega, by omega⟩ ⟨by omega, by omega⟩ ⟨by omega, by omega⟩ ⟨by omega, by omega⟩ ⟨by omega, by omega⟩ ⟨by omega, by omega⟩ (e_gk) (e_pk) (e_f) (e_r) kk
        ·
          have n_14 : gNe ((z2.toInt - 2)) ((e_wy ^^^ 2).toInt) := by have z := g5_eqN (a := (z2 - 2).toInt) (b := (e_wy ^^^ 2).toInt) (by rfl) (by rfl) c_14; unfold gNe; omega
          exact kk 169 dX5_meetGlass_169 e_br e_we (e_me ||| (1 <<< (k_n &&& 31))) e_wy e_ho e_ov z5 f_sk ls H locs (hP.sub [4, 2, 5, 6, 0, 1, 7, 8, 9, 3] rfl) (hD.sub [4, 2, 5, 6, 0, 1, 7, 8, 9, 3] (by decide) rfl) hS (⟨by omega, by omega⟩) (⟨by omega, by omega⟩) (⟨by omega, by omega⟩) (⟨by omega, by omega⟩)
