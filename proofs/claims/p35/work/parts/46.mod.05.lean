theorem dgX12_could_0 : ∀ r ∈ ([(0, (.aload_n 0, 1)), (1, (.iconst 0, 1)), (2, (.putfield 107, 3)), (5, (.iload_n 1, 1)), (6, (.invokestatic 175, 3)), (9, (.ifCond .eq 17, 3)), (12, (.iload_n 2, 1)), (13, (.i2l, 1)), (14, (.ldc2_w 178, 3)), (17, (.ldc2_w 128, 3)), (20, (.invokestatic 121, 3)), (23, (.ifCond .ne 7, 3)), (26, (.ldc2_w 178, 3)), (29, (.lreturn, 1)), (30, (.aload_n 0, 1)), (31, (.invokevirtual 444, 3)), (34, (.iload_n 2, 1)), (35, (.iconst (-1), 1)), (36, (.if_icmp .eq 10, 3)), (39, (.aload_n 0, 1)), (40, (.iload_n 1, 1)), (41, (.iload_n 2, 1)), (42, (.invokevirtual 440, 3)), (45, (.lreturn, 1)), (46, (.lconst 0, 1)), (47, (.lstore_n 3, 1)), (48, (.iconst 0, 1)), (49, (.istore 5, 2)), (51, (.iload 5, 2)), (53, (.bipush 64, 2)), (55, (.if_icmp .ge 29, 3)), (58, (.lload_n 3, 1)), (59, (.aload_n 0, 1)), (60, (.iload_n 1, 1)), (61, (.iload 5, 2)), (63, (.invokevirtual 440, 3)), (66, (.lconst 0, 1)), (67, (.lcmp, 1)), (68, (.ifCond .le 7, 3)), (71, (.lconst 1, 1))] : List (Nat × (Instr × Nat))), decode cX12_could r.1 = .ok r.2 := by decide +kernel
theorem dX12_could_0 : decode cX12_could 0 = .ok (.aload_n 0, 1) := dgX12_could_0 (0, (.aload_n 0, 1)) (List.mem_of_getElem? (i := 0) rfl)
theorem dX12_could_1 : decode cX12_could 1 = .ok (.iconst 0, 1) := dgX12_could_0 (1, (.iconst 0, 1)) (List.mem_of_getElem? (i := 1) rfl)
theorem dX12_could_2 : decode cX12_could 2 = .ok (.putfield 107, 3) := dgX12_could_0 (2, (.putfield 107, 3)) (List.mem_of_getElem? (i := 2) rfl)
theorem dX12_could_5 : decode cX12_could 5 = .ok (.iload_n 1, 1) := dgX12_could_0 (5, (.iload_n 1, 1)) (List.mem_of_getElem? (i := 3) rfl)
theorem dX12_could_6 : decode cX12_could 6 = .ok (.invokestatic 175, 3) := dgX12_could_0 (6, (.invokestatic 175, 3)) (List.mem_of_getElem? (i := 4) rfl)
theorem dX12_could_9 : decode cX12_could 9 = .ok (.ifCond .eq 17, 3) := dgX12_could_0 (9, (.ifCond .eq 17, 3)) (List.mem_of_getElem? (i := 5) rfl)
theorem dX12_could_12 : decode cX12_could 12 = .ok (.iload_n 2, 1) := dgX12_could_0 (12, (.iload_n 2, 1)) (List.mem_of_getElem? (i := 6) rfl)
theorem dX12_could_13 : decode cX12_could 13 = .ok (.i2l, 1) := dgX12_could_0 (13, (.i2l, 1)) (List.mem_of_getElem? (i := 7) rfl)
theorem dX12_could_14 : decode cX12_could 14 = .ok (.ldc2_w 178, 3) := dgX12_could_0 (14, (.ldc2_w 178, 3)) (List.mem_of_getElem? (i := 8) rfl)
theorem dX12_could_17 : decode cX12_could 17 = .ok (.ldc2_w 128, 3) := dgX12_could_0 (17, (.ldc2_w 128, 3)) (List.mem_of_getElem? (i := 9) rfl)
theorem dX12_could_20 : decode cX12_could 20 = .ok (.invokestatic 121, 3) := dgX12_could_0 (20, (.invokestatic 121, 3)) (List.mem_of_getElem? (i := 10) rfl)
theorem dX12_could_23 : decode cX12_could 23 = .ok (.ifCond .ne 7, 3) := dgX12_could_0 (23, (.ifCond .ne 7, 3)) (List.mem_of_getElem? (i := 11) rfl)
theorem dX12_could_26 : decode cX12_could 26 = .ok (.ldc2_w 178, 3) := dgX12_could_0 (26, (.ldc2_w 178, 3)) (List.mem_of_getElem? (i := 12) rfl)
theorem dX12_could_29 : decode cX12_could 29 = .ok (.lreturn, 1) := dgX12_could_0 (29, (.lreturn, 1)) (List.mem_of_getElem? (i := 13) rfl)
theorem dX12_could_30 : decode cX12_could 30 = .ok (.aload_n 0, 1) := dgX12_could_0 (30, (.aload_n 0, 1)) (List.mem_of_getElem? (i := 14) rfl)
theorem dX12_could_31 : decode cX12_could 31 = .ok (.invokevirtual 444, 3) := dgX12_could_0 (31, (.invokevirtual 444, 3)) (List.mem_of_getElem? (i := 15) rfl)
theorem dX12_could_34 : decode cX12_could 34 = .ok (.iload_n 2, 1) := dgX12_could_0 (34, (.iload_n 2, 1)) (List.mem_of_getElem? (i := 16) rfl)
theorem dX12_could_35 : decode cX12_could 35 = .ok (.iconst (-1), 1) := dgX12_could_0 (35, (.iconst (-1), 1)) (List.mem_of_getElem? (i := 17) rfl)
theorem dX12_could_36 : decode cX12_could 36 = .ok (.if_icmp .eq 10, 3) := dgX12_could_0 (36, (.if_icmp .eq 10, 3)) (List.mem_of_getElem? (i := 18) rfl)
theorem dX12_could_39 : decode cX12_could 39 = .ok (.aload_n 0, 1) := dgX12_could_0 (39, (.aload_n 0, 1)) (List.mem_of_getElem? (i := 19) rfl)
theorem dX12_could_40 : decode cX12_could 40 = .ok (.iload_n 1, 1) := dgX12_could_0 (40, (.iload_n 1, 1)) (List.mem_of_getElem? (i := 20) rfl)
theorem dX12_could_41 : decode cX12_could 41 = .ok (.iload_n 2, 1) := dgX12_could_0 (41, (.iload_n 2, 1)) (List.mem_of_getElem? (i := 21) rfl)
theorem dX12_could_42 : decode cX12_could 42 = .ok (.invokevirtual 440, 3) := dgX12_could_0 (42, (.invokevirtual 440, 3)) (List.mem_of_getElem? (i := 22) rfl)
theorem dX12_could_45 : decode cX12_could 45 = .ok (.lreturn, 1) := dgX12_could_0 (45, (.lreturn, 1)) (List.mem_of_getElem? (i := 23) rfl)
theorem dX12_could_46 : decode cX12_could 46 = .ok (.lconst 0, 1) := dgX12_could_0 (46, (.lconst 0, 1)) (List.mem_of_getElem? (i := 24) rfl)
theorem dX12_could_47 : decode cX12_could 47 = .ok (.lstore_n 3, 1) := dgX12_could_0 (47, (.lstore_n 3, 1)) (List.mem_of_getElem? (i := 25) rfl)
theorem dX12_could_48 : decode cX12_could 48 = .ok (.iconst 0, 1) := dgX12_could_0 (48, (.iconst 0, 1)) (List.mem_of_getElem? (i := 26) rfl)
theorem dX12_could_49 : decode cX12_could 49 = .ok (.istore 5, 2) := dgX12_could_0 (49, (.istore 5, 2)) (List.mem_of_getElem? (i := 27) rfl)
theorem dX12_could_51 : decode cX12_could 51 = .ok (.iload 5, 2) := dgX12_could_0 (51, (.iload 5, 2)) (List.mem_of_getElem? (i := 28) rfl)
theorem dX12_could_53 : decode cX12_could 53 = .ok (.bipush 64, 2) := dgX12_could_0 (53, (.bipush 64, 2)) (List.mem_of_getElem? (i := 29) rfl)
theorem dX12_could_55 : decode cX12_could 55 = .ok (.if_icmp .ge 29, 3) := dgX12_could_0 (55, (.if_icmp .ge 29, 3)) (List.mem_of_getElem? (i := 30) rfl)
theorem dX12_could_58 : decode cX12_could 58 = .ok (.lload_n 3, 1) := dgX12_could_0 (58, (.lload_n 3, 1)) (List.mem_of_getElem? (i := 31) rfl)
theorem dX12_could_59 : decode cX12_could 59 = .ok (.aload_n 0, 1) := dgX12_could_0 (59, (.aload_n 0, 1)) (List.mem_of_getElem? (i := 32) rfl)
theorem dX12_could_60 : decode cX12_could 60 = .ok (.iload_n 1, 1) := dgX12_could_0 (60, (.iload_n 1, 1)) (List.mem_of_getElem? (i := 33) rfl)
theorem dX12_could_61 : decode cX12_could 61 = .ok (.iload 5, 2) := dgX12_could_0 (61, (.iload 5, 2)) (List.mem_of_getElem? (i := 34) rfl)
theorem dX12_could_63 : decode cX12_could 63 = .ok (.invokevirtual 440, 3) := dgX12_could_0 (63, (.invokevirtual 440, 3)) (List.mem_of_getElem? (i := 35) rfl)
theorem dX12_could_66 : decode cX12_could 66 = .ok (.lconst 0, 1) := dgX12_could_0 (66, (.lconst 0, 1)) (List.mem_of_getElem? (i := 36) rfl)
theorem dX12_could_67 : decode cX12_could 67 = .ok (.lcmp, 1) := dgX12_could_0 (67, (.lcmp, 1)) (List.mem_of_getElem? (i := 37) rfl)
theorem dX12_could_68 : decode cX12_could 68 = .ok (.ifCond .le 7, 3) := dgX12_could_0 (68, (.ifCond .le 7, 3)) (List.mem_of_getElem? (i := 38) rfl)
theorem dX12_could_71 : decode cX12_could 71 = .ok (.lconst 1, 1) := dgX12_could_0 (71, (.lconst 1, 1)) (List.mem_of_getElem? (i := 39) rfl)
theorem dgX12_could_1 : ∀ r ∈ ([(72, (.goto 4, 3)), (75, (.lconst 0, 1)), (76, (.ladd, 1)), (77, (.lstore_n 3, 1)), (78, (.iinc 5 1, 3)), (81, (.goto (-30), 3)), (84, (.lload_n 3, 1)), (85, (.lreturn, 1))] : List (Nat × (Instr × Nat))), decode cX12_could r.1 = .ok r.2 := by decide +kernel
theorem dX12_could_72 : decode cX12_could 72 = .ok (.goto 4, 3) := dgX12_could_1 (72, (.goto 4, 3)) (List.mem_of_getElem? (i := 0) rfl)
theorem dX12_could_75 : decode cX12_could 75 = .ok (.lconst 0, 1) := dgX12_could_1 (75, (.lconst 0, 1)) (List.mem_of_getElem? (i := 1) rfl)
theorem dX12_could_76 : decode cX12_could 76 = .ok (.ladd, 1) := dgX12_could_1 (76, (.ladd, 1)) (List.mem_of_getElem? (i := 2) rfl)
theorem dX12_could_77 : decode cX12_could 77 = .ok (.lstore_n 3, 1) := dgX12_could_1 (77, (.lstore_n 3, 1)) (List.mem_of_getElem? (i := 3) rfl)
theorem dX12_could_78 : decode cX12_could 78 = .ok (.iinc 5 1, 3) := dgX12_could_1 (78, (.iinc 5 1, 3)) (List.mem_of_getElem? (i := 4) rfl)
theorem dX12_could_81 : decode cX12_could 81 = .ok (.goto (-30), 3) := dgX12_could_1 (81, (.goto (-30), 3)) (List.mem_of_getElem? (i := 5) rfl)
theorem dX12_could_84 : decode cX12_could 84 = .ok (.lload_n 3, 1) := dgX12_could_1 (84, (.lload_n 3, 1)) (List.mem_of_getElem? (i := 6) rfl)
theorem dX12_could_85 : decode cX12_could 85 = .ok (.lreturn, 1) := dgX12_could_1 (85, (.lreturn, 1)) (List.mem_of_getElem? (i := 7) rfl)
theorem dgX12_hang_0 : ∀ r ∈ ([(0, (.aload_n 0, 1)), (1, (.iconst 0, 1)), (2, (.putfield 107, 3)), (5, (.iload_n 1, 1)), (6, (.i2l, 1)), (7, (.lconst 0, 1)), (8, (.ldc2_w 411, 3)), (11, (.invokestatic 121, 3)), (14, (.ifCond .ne 5, 3)), (17, (.iconst (-1), 1)), (18, (.ireturn, 1)), (19, (.iconst (-1), 1)), (20, (.istore_n 2, 1)), (21, (.iconst 0, 1)), (22, (.istore_n 3, 1)), (23, (.iconst (-1), 1)), (24, (.istore 4, 2)), (26, (.iconst 0, 1)), (27, (.istore 5, 2)), (29, (.iload 5, 2)), (31, (.iconst 1, 1)), (32, (.aload_n 0, 1)), (33, (.getfield 13, 3)), (36, (.bipush 7, 2)), (38, (.iaload, 1)), (39, (.ishl, 1)), (40, (.if_icmp .ge 86, 3)), (43, (.iload_n 2, 1)), (44, (.iconst (-1), 1)), (45, (.if_icmp .eq 12, 3)), (48, (.iload 5, 2)), (50, (.invokestatic 463, 3)), (53, (.iload_n 2, 1)), (54, (.if_icmp .gt 66, 3)), (57, (.aload_n 0, 1)), (58, (.iload 5, 2)), (60, (.invokevirtual 460, 3)), (63, (.ifCond .ne 57, 3)), (66, (.iload_n 2, 1)), (67, (.iconst (-1), 1))] : List (Nat × (Instr × Nat))), decode cX12_hang r.1 = .ok r.2 := by decide +kernel
theorem dX12_hang_0 : decode cX12_hang 0 = .ok (.aload_n 0, 1) := dgX12_hang_0 (0, (.aload_n 0, 1)) (List.mem_of_getElem? (i := 0) rfl)
theorem dX12_hang_1 : decode cX12_hang 1 = .ok (.iconst 0, 1) := dgX12_hang_0 (1, (.iconst 0, 1)) (List.mem_of_getElem? (i := 1) rfl)
theorem dX12_hang_2 : decode cX12_hang 2 = .ok (.putfield 107, 3) := dgX12_hang_0 (2, (.putfield 107, 3)) (List.mem_of_getElem? (i := 2) rfl)
theorem dX12_hang_5 : decode cX12_hang 5 = .ok (.iload_n 1, 1) := dgX12_hang_0 (5, (.iload_n 1, 1)) (List.mem_of_getElem? (i := 3) rfl)
theorem dX12_hang_6 : decode cX12_hang 6 = .ok (.i2l, 1) := dgX12_hang_0 (6, (.i2l, 1)) (List.mem_of_getElem? (i := 4) rfl)
theorem dX12_hang_7 : decode cX12_hang 7 = .ok (.lconst 0, 1) := dgX12_hang_0 (7, (.lconst 0, 1)) (List.mem_of_getElem? (i := 5) rfl)
theorem dX12_hang_8 : decode cX12_hang 8 = .ok (.ldc2_w 411, 3) := dgX12_hang_0 (8, (.ldc2_w 411, 3)) (List.mem_of_getElem? (i := 6) rfl)
theorem dX12_hang_11 : decode cX12_hang 11 = .ok (.invokestatic 121, 3) := dgX12_hang_0 (11, (.invokestatic 121, 3)) (List.mem_of_getElem? (i := 7) rfl)
theorem dX12_hang_14 : decode cX12_hang 14 = .ok (.ifCond .ne 5, 3) := dgX12_hang_0 (14, (.ifCond .ne 5, 3)) (List.mem_of_getElem? (i := 8) rfl)
theorem dX12_hang_17 : decode cX12_hang 17 = .ok (.iconst (-1), 1) := dgX12_hang_0 (17, (.iconst (-1), 1)) (List.mem_of_getElem? (i := 9) rfl)
theorem dX12_hang_18 : decode cX12_hang 18 = .ok (.ireturn, 1) := dgX12_hang_0 (18, (.ireturn, 1)) (List.mem_of_getElem? (i := 10) rfl)
theorem dX12_hang_19 : decode cX12_hang 19 = .ok (.iconst (-1), 1) := dgX12_hang_0 (19, (.iconst (-1), 1)) (List.mem_of_getElem? (i := 11) rfl)
theorem dX12_hang_20 : decode cX12_hang 20 = .ok (.istore_n 2, 1) := dgX12_hang_0 (20, (.istore_n 2, 1)) (List.mem_of_getElem? (i := 12) rfl)
theorem dX12_hang_21 : decode cX12_hang 21 = .ok (.iconst 0, 1) := dgX12_hang_0 (21, (.iconst 0, 1)) (List.mem_of_getElem? (i := 13) rfl)
theorem dX12_hang_22 : decode cX12_hang 22 = .ok (.istore_n 3, 1) := dgX12_hang_0 (22, (.istore_n 3, 1)) (List.mem_of_getElem? (i := 14) rfl)
theorem dX12_hang_23 : decode cX12_hang 23 = .ok (.iconst (-1), 1) := dgX12_hang_0 (23, (.iconst (-1), 1)) (List.mem_of_getElem? (i := 15) rfl)
theorem dX12_hang_24 : decode cX12_hang 24 = .ok (.istore 4, 2) := dgX12_hang_0 (24, (.istore 4, 2)) (List.mem_of_getElem? (i := 16) rfl)
theorem dX12_hang_26 : decode cX12_hang 26 = .ok (.iconst 0, 1) := dgX12_hang_0 (26, (.iconst 0, 1)) (List.mem_of_getElem? (i := 17) rfl)
theorem dX12_hang_27 : decode cX12_hang 27 = .ok (.istore 5, 2) := dgX12_hang_0 (27, (.istore 5, 2)) (List.mem_of_getElem? (i := 18) rfl)
theorem dX12_hang_29 : decode cX12_hang 29 = .ok (.iload 5, 2) := dgX12_hang_0 (29, (.iload 5, 2)) (List.mem_of_getElem? (i := 19) rfl)
theorem dX12_hang_31 : decode cX12_hang 31 = .ok (.iconst 1, 1) := dgX12_hang_0 (31, (.iconst 1, 1)) (List.mem_of_getElem? (i := 20) rfl)
theorem dX12_hang_32 : decode cX12_hang 32 = .ok (.aload_n 0, 1) := dgX12_hang_0 (32, (.aload_n 0, 1)) (List.mem_of_getElem? (i := 21) rfl)
theorem dX12_hang_33 : decode cX12_hang 33 = .ok (.getfield 13, 3) := dgX12_hang_0 (33, (.getfield 13, 3)) (List.mem_of_getElem? (i := 22) rfl)
theorem dX12_hang_36 : decode cX12_hang 36 = .ok (.bipush 7, 2) := dgX12_hang_0 (36, (.bipush 7, 2)) (List.mem_of_getElem? (i := 23) rfl)
theorem dX12_hang_38 : decode cX12_hang 38 = .ok (.iaload, 1) := dgX12_hang_0 (38, (.iaload, 1)) (List.mem_of_getElem? (i := 24) rfl)
theorem dX12_hang_39 : decode cX12_hang 39 = .ok (.ishl, 1) := dgX12_hang_0 (39, (.ishl, 1)) (List.mem_of_getElem? (i := 25) rfl)
theorem dX12_hang_40 : decode cX12_hang 40 = .ok (.if_icmp .ge 86, 3) := dgX12_hang_0 (40, (.if_icmp .ge 86, 3)) (List.mem_of_getElem? (i := 26) rfl)
theorem dX12_hang_43 : decode cX12_hang 43 = .ok (.iload_n 2, 1) := dgX12_hang_0 (43, (.iload_n 2, 1)) (List.mem_of_getElem? (i := 27) rfl)
theorem dX12_hang_44 : decode cX12_hang 44 = .ok (.iconst (-1), 1) := dgX12_hang_0 (44, (.iconst (-1), 1)) (List.mem_of_getElem? (i := 28) rfl)
theorem dX12_hang_45 : decode cX12_hang 45 = .ok (.if_icmp .eq 12, 3) := dgX12_hang_0 (45, (.if_icmp .eq 12, 3)) (List.mem_of_getElem? (i := 29) rfl)
theorem dX12_hang_48 : decode cX12_hang 48 = .ok (.iload 5, 2) := dgX12_hang_0 (48, (.iload 5, 2)) (List.mem_of_getElem? (i := 30) rfl)
theorem dX12_hang_50 : decode cX12_hang 50 = .ok (.invokestatic 463, 3) := dgX12_hang_0 (50, (.invokestatic 463, 3)) (List.mem_of_getElem? (i := 31) rfl)
theorem dX12_hang_53 : decode cX12_hang 53 = .ok (.iload_n 2, 1) := dgX12_hang_0 (53, (.iload_n 2, 1)) (List.mem_of_getElem? (i := 32) rfl)
theorem dX12_hang_54 : decode cX12_hang 54 = .ok (.if_icmp .gt 66, 3) := dgX12_hang_0 (54, (.if_icmp .gt 66, 3)) (List.mem_of_getElem? (i := 33) rfl)
theorem dX12_hang_57 : decode cX12_hang 57 = .ok (.aload_n 0, 1) := dgX12_hang_0 (57, (.aload_n 0, 1)) (List.mem_of_getElem? (i := 34) rfl)
theorem dX12_hang_58 : decode cX12_hang 58 = .ok (.iload 5, 2) := dgX12_hang_0 (58, (.iload 5, 2)) (List.mem_of_getElem? (i := 35) rfl)
theorem dX12_hang_60 : decode cX12_hang 60 = .ok (.invokevirtual 460, 3) := dgX12_hang_0 (60, (.invokevirtual 460, 3)) (List.mem_of_getElem? (i := 36) rfl)
theorem dX12_hang_63 : decode cX12_hang 63 = .ok (.ifCond .ne 57, 3) := dgX12_hang_0 (63, (.ifCond .ne 57, 3)) (List.mem_of_getElem? (i := 37) rfl)
theorem dX12_hang_66 : decode cX12_hang 66 = .ok (.iload_n 2, 1) := dgX12_hang_0 (66, (.iload_n 2, 1)) (List.mem_of_getElem? (i := 38) rfl)
theorem dX12_hang_67 : decode cX12_hang 67 = .ok (.iconst (-1), 1) := dgX12_hang_0 (67, (.iconst (-1), 1)) (List.mem_of_getElem? (i := 39) rfl)
theorem dgX12_hang_1 : ∀ r ∈ ([(68, (.if_icmp .eq 12, 3)), (71, (.iload 5, 2)), (73, (.invokestatic 463, 3)), (76, (.iload_n 2, 1)), (77, (.if_icmp .ge 7, 3)), (80, (.iconst 1, 1)), (81, (.goto 4, 3)), (84, (.iconst 0, 1)), (85, (.istore 6, 2)), (87, (.iload 6, 2)), (89, (.ifCond .eq 7, 3)), (92, (.iconst 1, 1)), (93, (.goto 6, 3)), (96, (.iload_n 3, 1)), (97, (.iconst 1, 1)), (98, (.iadd, 1)), (99, (.istore_n 3, 1)), (100, (.iload 6, 2)), (102, (.ifCond .eq 8, 3)), (105, (.iload 5, 2)), (107, (.goto 5, 3)), (110, (.iload 4, 2)), (112, (.istore 4, 2)), (114, (.iload 5, 2)), (116, (.invokestatic 463, 3)), (119, (.istore_n 2, 1)), (120, (.iinc 5 1, 3)), (123, (.goto (-94), 3)), (126, (.iload_n 1, 1)), (127, (.ifCond .ne 7, 3)), (130, (.iload_n 2, 1)), (131, (.goto 14, 3)), (134, (.iload_n 1, 1)), (135, (.iconst 1, 1)), (136, (.if_icmp .ne 7, 3)), (139, (.iload_n 3, 1)), (140, (.goto 5, 3)), (143, (.iload 4, 2)), (145, (.ireturn, 1))] : List (Nat × (Instr × Nat))), decode cX12_hang r.1 = .ok r.2 := by decide +kernel
theorem dX12_hang_68 : decode cX12_hang 68 = .ok (.if_icmp .eq 12, 3) := dgX12_hang_1 (68, (.if_icmp .eq 12, 3)) (List.mem_of_getElem? (i := 0) rfl)
theorem dX12_hang_71 : decode cX12_hang 71 = .ok (.iload 5, 2) := dgX12_hang_1 (71, (.iload 5, 2)) (List.mem_of_getElem? (i := 1) rfl)
theorem dX12_hang_73 : decode cX12_hang 73 = .ok (.invokestatic 463, 3) := dgX12_hang_1 (73, (.invokestatic 463, 3)) (List.mem_of_getElem? (i := 2) rfl)
theorem dX12_hang_76 : decode cX12_hang 76 = .ok (.iload_n 2, 1) := dgX12_hang_1 (76, (.iload_n 2, 1)) (List.mem_of_getElem? (i := 3) rfl)
theorem dX12_hang_77 : decode cX12_hang 77 = .ok (.if_icmp .ge 7, 3) := dgX12_hang_1 (77, (.if_icmp .ge 7, 3)) (List.mem_of_getElem? (i := 4) rfl)
theorem dX12_hang_80 : decode cX12_hang 80 = .ok (.iconst 1, 1) := dgX12_hang_1 (80, (.iconst 1, 1)) (List.mem_of_getElem? (i := 5) rfl)
theorem dX12_hang_81 : decode cX12_hang 81 = .ok (.goto 4, 3) := dgX12_hang_1 (81, (.goto 4, 3)) (List.mem_of_getElem? (i := 6) rfl)
theorem dX12_hang_84 : decode cX12_hang 84 = .ok (.iconst 0, 1) := dgX12_hang_1 (84, (.iconst 0, 1)) (List.mem_of_getElem? (i := 7) rfl)
theorem dX12_hang_85 : decode cX12_hang 85 = .ok (.istore 6, 2) := dgX12_hang_1 (85, (.istore 6, 2)) (List.mem_of_getElem? (i := 8) rfl)
theorem dX12_hang_87 : decode cX12_hang 87 = .ok (.iload 6, 2) := dgX12_hang_1 (87, (.iload 6, 2)) (List.mem_of_getElem? (i := 9) rfl)
theorem dX12_hang_89 : decode cX12_hang 89 = .ok (.ifCond .eq 7, 3) := dgX12_hang_1 (89, (.ifCond .eq 7, 3)) (List.mem_of_getElem? (i := 10) rfl)
theorem dX12_hang_92 : decode cX12_hang 92 = .ok (.iconst 1, 1) := dgX12_hang_1 (92, (.iconst 1, 1)) (List.mem_of_getElem? (i := 11) rfl)
theorem dX12_hang_93 : decode cX12_hang 93 = .ok (.goto 6, 3) := dgX12_hang_1 (93, (.goto 6, 3)) (List.mem_of_getElem? (i := 12) rfl)
theorem dX12_hang_96 : decode cX12_hang 96 = .ok (.iload_n 3, 1) := dgX12_hang_1 (96, (.iload_n 3, 1)) (List.mem_of_getElem? (i := 13) rfl)
theorem dX12_hang_97 : decode cX12_hang 97 = .ok (.iconst 1, 1) := dgX12_hang_1 (97, (.iconst 1, 1)) (List.mem_of_getElem? (i := 14) rfl)
theorem dX12_hang_98 : decode cX12_hang 98 = .ok (.iadd, 1) := dgX12_hang_1 (98, (.iadd, 1)) (List.mem_of_getElem? (i := 15) rfl)
theorem dX12_hang_99 : decode cX12_hang 99 = .ok (.istore_n 3, 1) := dgX12_hang_1 (99, (.istore_n 3, 1)) (List.mem_of_getElem? (i := 16) rfl)
theorem dX12_hang_100 : decode cX12_hang 100 = .ok (.iload 6, 2) := dgX12_hang_1 (100, (.iload 6, 2)) (List.mem_of_getElem? (i := 17) rfl)
theorem dX12_hang_102 : decode cX12_hang 102 = .ok (.ifCond .eq 8, 3) := dgX12_hang_1 (102, (.ifCond .eq 8, 3)) (List.mem_of_getElem? (i := 18) rfl)
theorem dX12_hang_105 : decode cX12_hang 105 = .ok (.iload 5, 2) := dgX12_hang_1 (105, (.iload 5, 2)) (List.mem_of_getElem? (i := 19) rfl)
theorem dX12_hang_107 : decode cX12_hang 107 = .ok (.goto 5, 3) := dgX12_hang_1 (107, (.goto 5, 3)) (List.mem_of_getElem? (i := 20) rfl)
theorem dX12_hang_110 : decode cX12_hang 110 = .ok (.iload 4, 2) := dgX12_hang_1 (110, (.iload 4, 2)) (List.mem_of_getElem? (i := 21) rfl)
theorem dX12_hang_112 : decode cX12_hang 112 = .ok (.istore 4, 2) := dgX12_hang_1 (112, (.istore 4, 2)) (List.mem_of_getElem? (i := 22) rfl)
theorem dX12_hang_114 : decode cX12_hang 114 = .ok (.iload 5, 2) := dgX12_hang_1 (114, (.iload 5, 2)) (List.mem_of_getElem? (i := 23) rfl)
theorem dX12_hang_116 : decode cX12_hang 116 = .ok (.invokestatic 463, 3) := dgX12_hang_1 (116, (.invokestatic 463, 3)) (List.mem_of_getElem? (i := 24) rfl)
theorem dX12_hang_119 : decode cX12_hang 119 = .ok (.istore_n 2, 1) := dgX12_hang_1 (119, (.istore_n 2, 1)) (List.mem_of_getElem? (i := 25) rfl)
theorem dX12_hang_120 : decode cX12_hang 120 = .ok (.iinc 5 1, 3) := dgX12_hang_1 (120, (.iinc 5 1, 3)) (List.mem_of_getElem? (i := 26) rfl)
theorem dX12_hang_123 : decode cX12_hang 123 = .ok (.goto (-94), 3) := dgX12_hang_1 (123, (.goto (-94), 3)) (List.mem_of_getElem? (i := 27) rfl)
theorem dX12_hang_126 : decode cX12_hang 126 = .ok (.iload_n 1, 1) := dgX12_hang_1 (126, (.iload_n 1, 1)) (List.mem_of_getElem? (i := 28) rfl)
theorem dX12_hang_127 : decode cX12_hang 127 = .ok (.ifCond .ne 7, 3) := dgX12_hang_1 (127, (.ifCond .ne 7, 3)) (List.mem_of_getElem? (i := 29) rfl)
theorem dX12_hang_130 : decode cX12_hang 130 = .ok (.iload_n 2, 1) := dgX12_hang_1 (130, (.iload_n 2, 1)) (List.mem_of_getElem? (i := 30) rfl)
theorem dX12_hang_131 : decode cX12_hang 131 = .ok (.goto 14, 3) := dgX12_hang_1 (131, (.goto 14, 3)) (List.mem_of_getElem? (i := 31) rfl)
theorem dX12_hang_134 : decode cX12_hang 134 = .ok (.iload_n 1, 1) := dgX12_hang_1 (134, (.iload_n 1, 1)) (List.mem_of_getElem? (i := 32) rfl)
theorem dX12_hang_135 : decode cX12_hang 135 = .ok (.iconst 1, 1) := dgX12_hang_1 (135, (.iconst 1, 1)) (List.mem_of_getElem? (i := 33) rfl)
theorem dX12_hang_136 : decode cX12_hang 136 = .ok (.if_icmp .ne 7, 3) := dgX12_hang_1 (136, (.if_icmp .ne 7, 3)) (List.mem_of_getElem? (i := 34) rfl)
theorem dX12_hang_139 : decode cX12_hang 139 = .ok (.iload_n 3, 1) := dgX12_hang_1 (139, (.iload_n 3, 1)) (List.mem_of_getElem? (i := 35) rfl)
theorem dX12_hang_140 : decode cX12_hang 140 = .ok (.goto 5, 3) := dgX12_hang_1 (140, (.goto 5, 3)) (List.mem_of_getElem? (i := 36) rfl)
theorem dX12_hang_143 : decode cX12_hang 143 = .ok (.iload 4, 2) := dgX12_hang_1 (143, (.iload 4, 2)) (List.mem_of_getElem? (i := 37) rfl)
theorem dX12_hang_145 : decode cX12_hang 145 = .ok (.ireturn, 1) := dgX12_hang_1 (145, (.ireturn, 1)) (List.mem_of_getElem? (i := 38) rfl)
theorem ml_X12_463 : Cond.methodLink RX12 463 yX12_bits ∈ tblG := tg 1795 (by decide +kernel) (by decide +kernel)
theorem st_X12_bits : Cond.static yX12_bits ∈ tblG := tg 1796 (by decide +kernel) (by decide +kernel)
theorem cd_X12_bits : Cond.code yX12_bits cX12_bits 3 (some .int) ∈ tblG := tg 1797 (by decide +kernel) (by decide +kernel)
theorem gW_X12_bits : GoodIn tblG (wsG yX12_bits cX12_bits 3 (some .int)) := tgi cd_X12_bits
theorem gS_X12_463 : GoodIn tblG (va_wsS RX12 463 yX12_bits (wsG yX12_bits cX12_bits 3 (some .int))) := tgS ml_X12_463 st_X12_bits ini_X12 gW_X12_bits
theorem hs_X12_bits : yX12_bits.cls ≠ "java/lang/invoke/MethodHandle" ∧ yX12_bits.cls ≠ "java/lang/invoke/VarHandle" ∧ (parseMethodDescriptor yX12_bits.desc).map (fun d => d.parameters.length) = some 1 := by decide +kernel
set_option maxHeartbeats 4000000 in
set_option maxRecDepth 100000 in
theorem n_hang (l : Launch) (G : g5_G) (b_o b_ro b_se b_re b_pt b_rf b_im b_ke b_tp b_nl b_op b_ar b_pi b_pa b_ws b_hw b_ip b_ah b_be b_me b_tr b_ld b_wn : Nat) (sz : Nat) (u_th : Int32) (u_sa : Int32) (u_fd : Int32) (u_td : Int32) (u_fr : Int32) (u_to : Int32) (u_so : Int32) (u_fa : Int32) (u_bd : Int32) (u_nc : Int32) (u_co : Int32) (u_le : Int32) (u_pd : Int32) (u_od : Int32) (u_la : Int32) (u_bk : Int32) (u_ce : Int32) (u_ho : Int32) (u_wy : Int32) (u_bt : Int32) (u_ps : Int32) (u_tg : Int32) (u_sn : Int32) (u_ic : Int32) (u_wd : Int32) (u_id : Int32) (p_1 : Int32) (u_wo : Int64) (u_va : Int64) (u_su : Int64) (u_st : Int64) (v_ro : Nat → Int32) (v_se : Nat → Int64) (v_re : Nat → Int64) (v_pt : Nat → Int32) (h_u_td : 0 ≤ u_td.toInt ∧ u_td.toInt ≤ 400) (h_u_fr : 0 ≤ u_fr.toInt ∧ u_fr.toInt ≤ 400) (h_u_to : 0 ≤ u_to.toInt ∧ u_to.toInt ≤ 400) (h_u_bd : 0 ≤ u_bd.toInt ∧ u_bd.toInt ≤ 1) (h_u_nc : 0 ≤ u_nc.toInt ∧ u_nc.toInt ≤ 12) (h_u_co : 0 ≤ u_co.toInt ∧ u_co.toInt ≤ 400) (h_u_pd : 0 ≤ u_pd.toInt ∧ u_pd.toInt ≤ 400) (h_u_la : 0 ≤ u_la.toInt ∧ u_la.toInt ≤ 4840) (h_u_bk : 0 ≤ u_bk.toInt ∧ u_bk.toInt ≤ 1) (h_u_ce : 0 ≤ u_ce.toInt ∧ u_ce.toInt ≤ 63) (h_u_ho : 0 ≤ u_ho.toInt ∧ u_ho.toInt ≤ 23) (h_u_wy : 0 ≤ u_wy.toInt ∧ u_wy.toInt ≤ 3) (h_u_bt : 0 ≤ u_bt.toInt ∧ u_bt.toInt ≤ 1000000) (h_u_ps : 0 ≤ u_ps.toInt ∧ u_ps.toInt ≤ 200) (h_u_ic : 0 ≤ u_ic.toInt ∧ u_ic.toInt ≤ 1) (h_u_id : 0 ≤ u_id.toInt ∧ u_id.toInt ≤ 1) (r_ro : MI v_ro) (r_pt : PTI v_pt) : Met l yX12_hang (wsG yX12_hang cX12_hang 7 (some .int)) ({ frames := 8, cells := 0, slots := 0, locals := 202 }) (va_Pc [.ref b_o, .int p_1] (g5_P G [(b_o, (oc12 u_th u_sa b_rf b_ro b_im b_ke u_fd b_tp u_td u_fr u_to u_so u_wo u_fa u_bd u_nc b_nl u_co b_op b_ar u_le b_pi b_pa u_pd u_od b_ws b_hw u_la b_se b_re u_bk u_va u_su u_ce u_ho u_wy u_bt u_ps b_pt u_tg u_sn b_ip u_ic b_ah b_be b_me u_wd b_tr b_ld u_st b_wn u_id)), (b_ro, (arI G 5740 v_ro)), (b_se, (arJ G 13 v_se)), (b_re, (arJ G 400 v_re)), (b_pt, (arI G 200 v_pt))] sz)) (va_Qi (fun (r : Int32) (u : va_W) => (∃ (o_r : Int32) (o_th : Int32) (o_la : Int32) (o_bk : Int32) (o_va : Int64) (o_su : Int64) (o_ce : Int32) (o_ho : Int32) (o_wy : Int32) (o_bt : Int32) (o_ps : Int32) (o_tg : Int32) (o_sn : Int32) (o_se : Nat → Int64) (o_re : Nat → Int64) (o_pt : Nat → Int32), (0 ≤ o_la.toInt ∧ o_la.toInt ≤ 4840) ∧ (0 ≤ o_bk.toInt ∧ o_bk.toInt ≤ 1) ∧ (0 ≤ o_ce.toInt ∧ o_ce.toInt ≤ 63) ∧ (0 ≤ o_ho.toInt ∧ o_ho.toInt ≤ 23) ∧ (0 ≤ o_wy.toInt ∧ o_wy.toInt ≤ 3) ∧ (0 ≤ o_bt.toInt ∧ o_bt.toInt ≤ 1000000) ∧ (0 ≤ o_ps.toInt ∧ o_ps.toInt ≤ 200) ∧ (PTI o_pt) ∧ (r = o_r) ∧ (u = [(b_o, (oc12 o_th u_sa b_rf b_ro b_im b_ke u_fd b_tp u_td u_fr u_to u_so u_wo u_fa u_bd u_nc b_nl u_co b_op b_ar u_le b_pi b_pa u_pd u_od b_ws b_hw o_la b_se b_re o_bk o_va o_su o_ce o_ho o_wy o_bt o_ps b_pt o_tg o_sn b_ip u_ic b_ah b_be b_me u_wd b_tr b_ld u_st b_wn u_id)), (b_ro, (arI G 5740 v_ro)), (b_se, (arJ G 13 o_se)), (b_re, (arJ G 400 o_re)), (b_pt, (arI G 200 o_pt))]))) (g5_B G (va_A [(b_o, (oc12 u_th u_sa b_rf b_ro b_im b_ke u_fd b_tp u_td u_fr u_to u_so u_wo u_fa u_bd u_nc b_nl u_co b_op b_ar u_le b_pi b_pa u_pd u_od b_ws b_hw u_la b_se b_re u_bk u_va u_su u_ce u_ho u_wy u_bt u_ps b_pt u_tg u_sn b_ip u_ic b_ah b_be b_me u_wd b_tr b_ld u_st b_wn u_id)), (b_ro, (arI G 5740 v_ro)), (b_se, (arJ G 13 v_se)), (b_re, (arJ G 400 v_re)), (b_pt, (arI G 200 v_pt))] sz)) (va_A [(b_o, (oc12 u_th u_sa b_rf b_ro b_im b_ke u_fd b_tp u_td u_fr u_to u_so u_wo u_fa u_bd u_nc b_nl u_co b_op b_ar u_le b_pi b_pa u_pd u_od b_ws b_hw u_la b_se b_re u_bk u_va u_su u_ce u_ho u_wy u_bt u_ps b_pt u_tg u_sn b_ip u_ic b_ah b_be b_me u_wd b_tr b_ld u_st b_wn u_id)), (b_ro, (arI G 5740 v_ro)), (b_se, (arJ G 13 v_se)), (b_re, (arJ G 400 v_re)), (b_pt, (arI G 200 v_pt))] sz)) 0 0 (va_A [(b_o, (oc12 u_th u_sa b_rf b_ro b_im b_ke u_fd b_tp u_td u_fr u_to u_so u_wo u_fa u_bd u_nc b_nl u_co b_op b_ar u_le b_pi b_pa u_pd u_od b_ws b_hw u_la b_se b_re u_bk u_va u_su u_ce u_ho u_wy u_bt u_ps b_pt u_tg u_sn b_ip u_ic b_ah b_be b_me u_wd b_tr b_ld u_st b_wn u_id)), (b_ro, (arI G 5740 v_ro)), (b_se, (arJ G 13 v_se)), (b_re, (arJ G 400 v_re)), (b_pt, (arI G 200 v_pt))] sz) := by
  refine Met.ofW (cc := cX12_hang) (maxL := 7) (ret := (some .int)) (by decide +kernel) rfl ?_
  intro p e s m args below meth c s₁ B hml hv
  obtain ⟨rfl, hsz, hP, hK, hD0, hN, hT⟩ := hv
  have hx := B.exec
  have hb := B.bytes
  have hr := B.returns
  have hts : ∀ w ∈ tblG, w.before _ s = true := fun w h => atoms_spec (ws := (wsG yX12_hang cX12_hang 7 (some .int))) B.pre w (List.mem_cons_of_mem _ h)
  have hown : s.vm.findClass RX12 = some m.cls := findClass_of_methodNamed B.named
  have hlocks := B.notSynchronized
  subst hsz
  have hD := hD0.self (sz := s.heap.size)
  generalize hAe : va_A [(b_o, (oc12 u_th u_sa b_rf b_ro b_im b_ke u_fd b_tp u_td u_fr u_to u_so u_wo u_fa u_bd u_nc b_nl u_co b_op b_ar u_le b_pi b_pa u_pd u_od b_ws b_hw u_la b_se b_re u_bk u_va u_su u_ce u_ho u_wy u_bt u_ps b_pt u_tg u_sn b_ip u_ic b_ah b_be b_me u_wd b_tr b_ld u_st b_wn u_id)), (b_ro, (arI G 5740 v_ro)), (b_se, (arJ G 13 v_se)), (b_re, (arJ G 400 v_re)), (b_pt, (arI G 200 v_pt))] s.heap.size = A at hD hT ⊢
  have hA : ∀ q : Nat, s.heap.size ≤ q → A q := fun q h => by rw [← hAe]; exact Or.inr h
  have hS : va_S A s.heap s.heap [] := va_S.rf
  replace hP : va_P G.1 vwCl [(b_o, (oc12 u_th u_sa b_rf b_ro b_im b_ke u_fd b_tp u_td u_fr u_to u_so u_wo u_fa u_bd u_nc b_nl u_co b_op b_ar u_le b_pi b_pa u_pd u_od b_ws b_hw u_la b_se b_re u_bk u_va u_su u_ce u_ho u_wy u_bt u_ps b_pt u_tg u_sn b_ip u_ic b_ah b_be b_me u_wd b_tr b_ld u_st b_wn u_id)), (b_ro, (arI G 5740 v_ro)), (b_se, (arJ G 13 v_se)), (b_re, (arJ G 400 v_re)), (b_pt, (arI G 200 v_pt))] s.heap := hP
  have hl := lv_entry ([.ref b_o, .int p_1]) (n := 7) (Nat.le_of_ble_eq_true rfl)
  rw [lg_entry_eq]
  generalize (lg_sl ([.ref b_o, .int p_1]) ++ List.replicate (7 - (lg_sl ([.ref b_o, .int p_1])).length) Slot.unset).toArray = ls at hl ⊢
  replace hl : lv_has ls 7 [(0, .ref b_o), (1, .int p_1)] := hl
  refine lv_aload_n hx hb dX12_hang_0 rfl (lv_at hl 0 rfl) ?_
  refine lv_iconst (v := 0) hx hb dX12_hang_1 (by decide +kernel) ?_
  refine va_put (D := G.1) (ci := 12) (v := .int 0) (ty := .int) (C := RX12) (T := TX12) (N := 52) hx hb hts inG_X12 tyX12 tyX12_ok nmX12 hown hK hP hD hS 0 rfl rfl 0 (by decide +kernel) (hts _ fl_X12_107) (fun _ h9 => h9) rfl (by decide +kernel) rfl rfl (Nat.le_of_ble_eq_true rfl) dX12_hang_2 ?_
  clear hP hD hS
  intro H locs hP hD hS
  refine g5_rs [(b_o, (oc12 0 u_sa b_rf b_ro b_im b_ke u_fd b_tp u_td u_fr u_to u_so u_wo u_fa u_bd u_nc b_nl u_co b_op b_ar u_le b_pi b_pa u_pd u_od b_ws b_hw u_la b_se b_re u_bk u_va u_su u_ce u_ho u_wy u_bt u_ps b_pt u_tg u_sn b_ip u_ic b_ah b_be b_me u_wd b_tr b_ld u_st b_wn u_id)), (b_ro, (arI G 5740 v_ro)), (b_se, (arJ G 13 v_se)), (b_re, (arJ G 400 v_re)), (b_pt, (arI G 200 v_pt))] hP hD ?_
  clear hP hD
  intro hP hD
  refine lv_iload_n hx hb dX12_hang_5 rfl (lv_at hl 1 rfl) ?_
  refine W.eq (g2 := F0 m 6 ls [.int p_1]) rfl ?_
  refine lv_i2l (v := p_1.toInt64) hx hb dX12_hang_6 rfl ?_
  refine lv_lconst (v := 0) hx hb dX12_hang_7 (by decide +kernel) ?_
  refine lv_ldc2 (v := 2) hx hb hown (hts _ kl_X12_411) dX12_hang_8 ?_
  obtain ⟨hPc, hDc, hFc⟩ := g5_sub3 (wc := []) hP hD hS hA [] (by decide +kernel) rfl
  refine va_calli (va_runS (As := [.long p_1.toInt64, .long 0, .long 2]) (rest := []) ⟨hx, hb, hml, hown, hts⟩ (n_in_0_2 l G H.size p_1) (va_cwS 3 hts gS_X12_121 rfl rfl rfl hs_X12_in ⟨Nat.le_of_ble_eq_true rfl, Nat.le_of_ble_eq_true rfl⟩) (g5_preS hPc hK hDc hN hT hS hFc) rfl rfl hl.1 rfl (lv_room (Nat.le_of_ble_eq_true rfl)) dX12_hang_11 ⟨Nat.le_of_ble_eq_true rfl, Nat.le_of_ble_eq_true rfl⟩) hS (fun q _ h => hFc q h) hFc (fun r u t H locs ht hvm hw hB hz1 hk1 hS => ?_)
  obtain ⟨hP1, hD1⟩ := hB
  have hP1 := g5_ht ht hP1
  rcases hw with ⟨(i_1 : p_1.toInt < 0 ∨ 2 < p_1.toInt), rfl, rfl⟩ | ⟨(i_2 : 0 ≤ p_1.toInt ∧ p_1.toInt ≤ 2), rfl, rfl⟩
  ·
    have hJ9 := g5_same hP hk1
    clear hP hPc hDc hFc ht hvm hz1 hk1 hP1 hD1
    have hP := hJ9
    clear hJ9
    refine lv_if_ne (tgt := 19) hx hb dX12_hang_14 (by decide +kernel) (fun c_3 => ?_) (fun c_3 => ?_)
    ·
      exact absurd c_3 (by decide +kernel)
    ·
      refine lv_iconst (v := (-1)) hx hb dX12_hang_17 (by decide +kernel) ?_
      exact W.iret (v := (-1)) hx hb hr (fun t ht hW => ⟨⟨(-1), [(b_o, (oc12 0 u_sa b_rf b_ro b_im b_ke u_fd b_tp u_td u_fr u_to u_so u_wo u_fa u_bd u_nc b_nl u_co b_op b_ar u_le b_pi b_pa u_pd u_od b_ws b_hw u_la b_se b_re u_bk u_va u_su u_ce u_ho u_wy u_bt u_ps b_pt u_tg u_sn b_ip u_ic b_ah b_be b_me u_wd b_tr b_ld u_st b_wn u_id)), (b_ro, (arI G 5740 v_ro)), (b_se, (arJ G 13 v_se)), (b_re, (arJ G 400 v_re)), (b_pt, (arI G 200 v_pt))], rfl, ⟨(-1), 0, u_la, u_bk, u_va, u_su, u_ce, u_ho, u_wy, u_bt, u_ps, u_tg, u_sn, v_se, v_re, v_pt, h_u_la, h_u_bk, h_u_ce, h_u_ho, h_u_wy, h_u_bt, h_u_ps, r_pt, rfl, rfl⟩, by rw [ht]; exact hP.sub [0, 1, 2, 3, 4] rfl, hD.sub [0, 1, 2, 3, 4] (by decide +kernel) rfl⟩, hS.F ht⟩) hS.2.2 dX12_hang_18
  ·
    have hJ9 := g5_same hP hk1
    clear hP hPc hDc hFc ht hvm hz1 hk1 hP1 hD1
    have hP := hJ9
    clear hJ9
    refine lv_if_ne (tgt := 19) hx hb dX12_hang_14 (by decide +kernel) (fun c_4 => ?_) (fun c_4 => ?_)
    ·
      refine lv_iconst (v := (-1)) hx hb dX12_hang_19 (by decide +kernel) ?_
      refine lv_istore_n (lv' := [(2, .int (-1)), (0, .ref b_o), (1, .int p_1)]) hx hb dX12_hang_20 rfl hl (by decide +kernel) rfl ?_
      clear hl
      intro ls hl
      refine lv_iconst (v := 0) hx hb dX12_hang_21 (by decide +kernel) ?_
      refine lv_istore_n (lv' := [(3, .int 0), (2, .int (-1)), (0, .ref b_o), (1, .int p_1)]) hx hb dX12_hang_22 rfl hl (by decide +kernel) rfl ?_
      clear hl
      intro ls hl
      refine W.eq (g2 := F0 m 23 ls []) rfl ?_
      refine lv_iconst (v := (-1)) hx hb dX12_hang_23 (by decide +kernel) ?_
      refine lv_istore (lv' := [(4, .int (-1)), (3, .int 0), (2, .int (-1)), (0, .ref b_o), (1, .int p_1)]) hx hb dX12_hang_24 hl (by decide +kernel) rfl ?_
      clear hl
      intro ls hl
      refine lv_iconst (v := 0) hx hb dX12_hang_26 (by decide +kernel) ?_
      refine lv_istore (lv' := [(5, .int 0), (4, .int (-1)), (3, .int 0), (2, .int (-1)), (0, .ref b_o), (1, .int p_1)]) hx hb dX12_hang_27 hl (by decide +kernel) rfl ?_
      clear hl
      intro ls hl
      refine g5_loop (α := (Int32) × (Int32) × (Int32) × (Int32) × (Int32) × (Int32) × (Int64) × (Int64) × (Int32) × (Int32) × (Int32) × (Int32) × (Int32) × (Int32) × (Int32) × (Nat → Int64) × (Nat → Int64) × (Nat → Int32)) (fun (q : (Int32) × (Int32) × (Int32) × (Int32) × (Int32) × (Int32) × (Int64) × (Int64) × (Int32) × (Int32) × (Int32) × (Int32) × (Int32) × (Int32) × (Int32) × (Nat → Int64) × (Nat → Int64) × (Nat → Int32)) (ls : Array Slot) (H : Heap) (locs : List Loc) => match q with | (k29_5, k29_4, k29_3, k29_2, k29_la, k29_bk, k29_va, k29_su, k29_ce, k29_ho, k29_wy, k29_bt, k29_ps, k29_tg, k29_sn, k29_se, k29_re, k29_pt) => lv_has ls 7 [(2, .int k29_2), (3, .int k29_3), (4, .int k29_4), (5, .int k29_5), (0, .ref b_o), (1, .int p_1)] ∧ va_P G.1 vwCl [(b_o, (oc12 0 u_sa b_rf b_ro b_im b_ke u_fd b_tp u_td u_fr u_to u_so u_wo u_fa u_bd u_nc b_nl u_co b_op b_ar u_le b_pi b_pa u_pd u_od b_ws b_hw k29_la b_se b_re k29_bk k29_va k29_su k29_ce k29_ho k29_wy k29_bt k29_ps b_pt k29_tg k29_sn b_ip u_ic b_ah b_be b_me u_wd b_tr b_ld u_st b_wn u_id)), (b_ro, (arI G 5740 v_ro)), (b_se, (arJ G 13 k29_se)), (b_re, (arJ G 400 k29_re)), (b_pt, (arI G 200 k29_pt))] H ∧ va_D A [(b_o, (oc12 0 u_sa b_rf b_ro b_im b_ke u_fd b_tp u_td u_fr u_to u_so u_wo u_fa u_bd u_nc b_nl u_co b_op b_ar u_le b_pi b_pa u_pd u_od b_ws b_hw k29_la b_se b_re k29_bk k29_va k29_su k29_ce k29_ho k29_wy k29_bt k29_ps b_pt k29_tg k29_sn b_ip u_ic b_ah b_be b_me u_wd b_tr b_ld u_st b_wn u_id)), (b_ro, (arI G 5740 v_ro)), (b_se, (arJ G 13 k29_se)), (b_re, (arJ G 400 k29_re)), (b_pt, (arI G 200 k29_pt))] ∧ va_S A s.heap H locs ∧ (0 ≤ k29_5.toInt ∧ k29_5.toInt ≤ 256) ∧ (0 ≤ k29_la.toInt ∧ k29_la.toInt ≤ 4840) ∧ (0 ≤ k29_bk.toInt ∧ k29_bk.toInt ≤ 1) ∧ (0 ≤ k29_ce.toInt ∧ k29_ce.toInt ≤ 63) ∧ (0 ≤ k29_ho.toInt ∧ k29_ho.toInt ≤ 23) ∧ (0 ≤ k29_wy.toInt ∧ k29_wy.toInt ≤ 3) ∧ (0 ≤ k29_bt.toInt ∧ k29_bt.toInt ≤ 1000000) ∧ (0 ≤ k29_ps.toInt ∧ k29_ps.toInt ≤ 200) ∧ (PTI k29_pt)) (fun (q : (Int32) × (Int32) × (Int32) × (Int32) × (Int32) × (Int32) × (Int64) × (Int64) × (Int32) × (Int32) × (Int32) × (Int32) × (Int32) × (Int32) × (Int32) × (Nat → Int64) × (Nat → Int64) × (Nat → Int32)) => match q with | (k29_5, k29_4, k29_3, k29_2, k29_la, k29_bk, k29_va, k29_su, k29_ce, k29_ho, k29_wy, k29_bt, k29_ps, k29_tg, k29_sn, k29_se, k29_re, k29_pt) => Int.toNat (256 - k29_5.toInt)) (0, (-1), 0, (-1), u_la, u_bk, u_va, u_su, u_ce, u_ho, u_wy, u_bt, u_ps, u_tg, u_sn, v_se, v_re, v_pt) ⟨lv_sub hl [3, 2, 1, 0, 4, 5] rfl, hP, hD, hS, ⟨by decide, by decide⟩, h_u_la, h_u_bk, h_u_ce, h_u_ho, h_u_wy, h_u_bt, h_u_ps, r_pt⟩ ?_
      rintro ⟨k29_5, k29_4, k29_3, k29_2, k29_la, k29_bk, k29_va, k29_su, k29_ce, k29_ho, k29_wy, k29_bt, k29_ps, k29_tg, k29_sn, k29_se, k29_re, k29_pt⟩ ls H locs ⟨hl, hP, hD, hS, (i_5 : 0 ≤ k29_5.toInt ∧ k29_5.toInt ≤ 256), (i_6 : 0 ≤ k29_la.toInt ∧ k29_la.toInt ≤ 4840), (i_7 : 0 ≤ k29_bk.toInt ∧ k29_bk.toInt ≤ 1), (i_8 : 0 ≤ k29_ce.toInt ∧ k29_ce.toInt ≤ 63), (i_9 : 0 ≤ k29_ho.toInt ∧ k29_ho.toInt ≤ 23), (i_10 : 0 ≤ k29_wy.toInt ∧ k29_wy.toInt ≤ 3), (i_11 : 0 ≤ k29_bt.toInt ∧ k29_bt.toInt ≤ 1000000), (i_12 : 0 ≤ k29_ps.toInt ∧ k29_ps.toInt ≤ 200), (i_13 : PTI k29_pt)⟩ ih_29_14
      replace hl : lv_has ls 7 [(2, .int k29_2), (3, .int k29_3), (4, .int k29_4), (5, .int k29_5), (0, .ref b_o), (1, .int p_1)] := hl
      refine g5_rs [(b_o, (oc12 0 u_sa b_rf b_ro b_im b_ke u_fd b_tp u_td u_fr u_to u_so u_wo u_fa u_bd u_nc b_nl u_co b_op b_ar u_le b_pi b_pa u_pd u_od b_ws b_hw k29_la b_se b_re k29_bk k29_va k29_su k29_ce k29_ho k29_wy k29_bt k29_ps b_pt k29_tg k29_sn b_ip u_ic b_ah b_be b_me u_wd b_tr b_ld u_st b_wn u_id)), (b_ro, (arI G 5740 v_ro)), (b_se, (arJ G 13 k29_se)), (b_re, (arJ G 400 k29_re)), (b_pt, (arI G 200 k29_pt))] hP hD ?_
      clear hP hD
      intro hP hD
      refine lv_iload hx hb dX12_hang_29 (lv_at hl 3 rfl) ?_
      refine lv_iconst (v := 1) hx hb dX12_hang_31 (by decide +kernel) ?_
      refine lv_aload_n hx hb dX12_hang_32 rfl (lv_at hl 4 rfl) ?_
      refine va_get (D := G.1) (ci := 12) (v := .ref b_ro) (C := RX12) (T := TX12) (N := 52) hx hb hts inG_X12 hown hK hP 0 rfl rfl 3 (by decide +kernel) (hts _ fl_X12_13) (fun _ h9 => h9) rfl dX12_hang_33 ?_
      refine W.eq (g2 := F0 m 36 ls [.ref b_ro, .int 1, .int k29_5]) rfl ?_
      refine lv_bipush (v := 7) hx hb dX12_hang_36 (by decide +kernel) ?_
      refine va_iald hx hb hK hP 1 0 rfl rfl (i := 7) (by unfold vp_in; decide) dX12_hang_38 ?_
      refine g5_ti (v := (v_ro 7)) rfl ?_
      have hr_15 : 0 ≤ (v_ro 7).toInt ∧ (v_ro 7).toInt ≤ 8 := mi_7 r_ro
      refine lv_ishl hx hb dX12_hang_39 ?_
      have hs_16 := g_shl8 (e := (v_ro 7)) (by omega) (by omega)
      refine lv_icmp_ge (tgt := 126) hx hb dX12_hang_40 (by decide +kernel) (fun c_17 => ?_) (fun c_17 => ?_)
      ·
        have i_17 : k29_5.toInt ≥ (1 <<< ((v_ro 7) &&& 31)).toInt := g5_ge (a := k29_5.toInt) (b := (1 <<< ((v_ro 7) &&& 31)).toInt) rfl rfl c_17
        refine lv_iload_n hx hb dX12_hang_126 rfl (lv_at hl 5 rfl) ?_
        refine lv_if_ne (tgt := 134) hx hb dX12_hang_127 (by decide +kernel) (fun c_18 => ?_) (fun c_18 => ?_)
        ·
          have n_18 : gNe (p_1.toInt) (0) := g5_ne (a := p_1.toInt) (b := 0) rfl (by decide +kernel) c_18
          have i_18 : p_1.toInt ≥ 1 := by have z := g5_ne (a := p_1.toInt) (b := 0) (by rfl) (by decide +kernel) c_18; omega
          refine lv_iload_n hx hb dX12_hang_134 rfl (lv_at hl 5 rfl) ?_
          refine lv_iconst (v := 1) hx hb dX12_hang_135 (by decide +kernel) ?_
          refine lv_icmp_ne (tgt := 143) hx hb dX12_hang_136 (by decide +kernel) (fun c_19 => ?_) (fun c_19 => ?_)
          ·
            have n_19 : gNe (p_1.toInt) (1) := g5_ne (a := p_1.toInt) (b := 1) rfl (by decide +kernel) c_19
            have i_19 : p_1.toInt ≥ 2 := by have z := g5_ne (a := p_1.toInt) (b := 1) (by rfl) (by decide +kernel) c_19; omega
            refine lv_iload hx hb dX12_hang_143 (lv_at hl 2 rfl) ?_
            exact W.iret (v := k29_4) hx hb hr (fun t ht hW => ⟨⟨k29_4, [(b_o, (oc12 0 u_sa b_rf b_ro b_im b_ke u_fd b_tp u_td u_fr u_to u_so u_wo u_fa u_bd u_nc b_nl u_co b_op b_ar u_le b_pi b_pa u_pd u_od b_ws b_hw k29_la b_se b_re k29_bk k29_va k29_su k29_ce k29_ho k29_wy k29_bt k29_ps b_pt k29_tg k29_sn b_ip u_ic b_ah b_be b_me u_wd b_tr b_ld u_st b_wn u_id)), (b_ro, (arI G 5740 v_ro)), (b_se, (arJ G 13 k29_se)), (b_re, (arJ G 400 k29_re)), (b_pt, (arI G 200 k29_pt))], rfl, ⟨k29_4, 0, k29_la, k29_bk, k29_va, k29_su, k29_ce, k29_ho, k29_wy, k29_bt, k29_ps, k29_tg, k29_sn, k29_se, k29_re, k29_pt, i_6, i_7, i_8, i_9, i_10, i_11, i_12, i_13, rfl, rfl⟩, by rw [ht]; exact hP.sub [0, 1, 2, 3, 4] rfl, hD.sub [0, 1, 2, 3, 4] (by decide +kernel) rfl⟩, hS.F ht⟩) hS.2.2 dX12_hang_145
          ·
            have i_19 : p_1.toInt = 1 := g5_neN (a := p_1.toInt) (b := 1) rfl (by decide +kernel) c_19
            refine lv_iload_n hx hb dX12_hang_139 rfl (lv_at hl 1 rfl) ?_
            refine lv_goto (tgt := 145) hx hb dX12_hang_140 (by decide +kernel) ?_
            exact W.iret (v := k29_3) hx hb hr (fun t ht hW => ⟨⟨k29_3, [(b_o, (oc12 0 u_sa b_rf b_ro b_im b_ke u_fd b_tp u_td u_fr u_to u_so u_wo u_fa u_bd u_nc b_nl u_co b_op b_ar u_le b_pi b_pa u_pd u_od b_ws b_hw k29_la b_se b_re k29_bk k29_va k29_su k29_ce k29_ho k29_wy k29_bt k29_ps b_pt k29_tg k29_sn b_ip u_ic b_ah b_be b_me u_wd b_tr b_ld u_st b_wn u_id)), (b_ro, (arI G 5740 v_ro)), (b_se, (arJ G 13 k29_se)), (b_re, (arJ G 400 k29_re)), (b_pt, (arI G 200 k29_pt))], rfl, ⟨k29_3, 0, k29_la, k29_bk, k29_va, k29_su, k29_ce, k29_ho, k29_wy, k29_bt, k29_ps, k29_tg, k29_sn, k29_se, k29_re, k29_pt, i_6, i_7, i_8, i_9, i_10, i_11, i_12, i_13, rfl, rfl⟩, by rw [ht]; exact hP.sub [0, 1, 2, 3, 4] rfl, hD.sub [0, 1, 2, 3, 4] (by decide +kernel) rfl⟩, hS.F ht⟩) hS.2.2 dX12_hang_145
        ·
          have i_18 : p_1.toInt = 0 := g5_neN (a := p_1.toInt) (b := 0) rfl (by decide +kernel) c_18
          refine lv_iload_n hx hb dX12_hang_130 rfl (lv_at hl 0 rfl) ?_
          refine lv_goto (tgt := 145) hx hb dX12_hang_131 (by decide +kernel) ?_
          exact W.iret (v := k29_2) hx hb hr (fun t ht hW => ⟨⟨k29_2, [(b_o, (oc12 0 u_sa b_rf b_ro b_im b_ke u_fd b_tp u_td u_fr u_to u_so u_wo u_fa u_bd u_nc b_nl u_co b_op b_ar u_le b_pi b_pa u_pd u_od b_ws b_hw k29_la b_se b_re k29_bk k29_va k29_su k29_ce k29_ho k29_wy k29_bt k29_ps b_pt k29_tg k29_sn b_ip u_ic b_ah b_be b_me u_wd b_tr b_ld u_st b_wn u_id)), (b_ro, (arI G 5740 v_ro)), (b_se, (arJ G 13 k29_se)), (b_re, (arJ G 400 k29_re)), (b_pt, (arI G 200 k29_pt))], rfl, ⟨k29_2, 0, k29_la, k29_bk, k29_va, k29_su, k29_ce, k29_ho, k29_wy, k29_bt, k29_ps, k29_tg, k29_sn, k29_se, k29_re, k29_pt, i_6, i_7, i_8, i_9, i_10, i_11, i_12, i_13, rfl, rfl⟩, by rw [ht]; exact hP.sub [0, 1, 2, 3, 4] rfl, hD.sub [0, 1, 2, 3, 4] (by decide +kernel) rfl⟩, hS.F ht⟩) hS.2.2 dX12_hang_145
      ·
        have i_17 : k29_5.toInt < (1 <<< ((v_ro 7) &&& 31)).toInt := g5_geN (a := k29_5.toInt) (b := (1 <<< ((v_ro 7) &&& 31)).toInt) rfl rfl c_17
        refine lv_iload_n hx hb dX12_hang_43 rfl (lv_at hl 0 rfl) ?_
        refine lv_iconst (v := (-1)) hx hb dX12_hang_44 (by decide +kernel) ?_
        refine lv_icmp_eq (tgt := 57) hx hb dX12_hang_45 (by decide +kernel) (fun c_20 => ?_) (fun c_20 => ?_)
        ·
          have i_20 : k29_2.toInt = (-1) := g5_eq (a := k29_2.toInt) (b := (-1)) rfl (by decide +kernel) c_20
          refine lv_aload_n hx hb dX12_hang_57 rfl (lv_at hl 4 rfl) ?_
          refine lv_iload hx hb dX12_hang_58 (lv_at hl 3 rfl) ?_
          obtain ⟨hPc, hDc, hFc⟩ := g5_sub3 (wc := [(b_o, (oc12 0 u_sa b_rf b_ro b_im b_ke u_fd b_tp u_td u_fr u_to u_so u_wo u_fa u_bd u_nc b_nl u_co b_op b_ar u_le b_pi b_pa u_pd u_od b_ws b_hw k29_la b_se b_re k29_bk k29_va k29_su k29_ce k29_ho k29_wy k29_bt k29_ps b_pt k29_tg k29_sn b_ip u_ic b_ah b_be b_me u_wd b_tr b_ld u_st b_wn u_id)), (b_ro, (arI G 5740 v_ro)), (b_se, (arJ G 13 k29_se)), (b_re, (arJ G 400 k29_re)), (b_pt, (arI G 200 k29_pt))]) hP hD hS hA [0, 1, 2, 3, 4] (by decide +kernel) rfl
          refine va_calli (va_runV (As := [.int k29_5]) (rest := []) ⟨hx, hb, hml, hown, hts⟩ (n_lacking l G b_o b_ro b_se b_re b_pt b_rf b_im b_ke b_tp b_nl b_op b_ar b_pi b_pa b_ws b_hw b_ip b_ah b_be b_me b_tr b_ld b_wn H.size 0 u_sa u_fd u_td u_fr u_to u_so u_fa u_bd u_nc u_co u_le u_pd u_od k29_la k29_bk k29_ce k29_ho k29_wy k29_bt k29_ps k29_tg k29_sn u_ic u_wd u_id k29_5 u_wo k29_va k29_su u_st v_ro k29_se k29_re k29_pt h_u_td h_u_fr h_u_to h_u_bd h_u_nc h_u_co h_u_pd i_6 i_7 i_8 i_9 i_10 i_11 i_12 h_u_ic h_u_id (r_ro) (i_13)) (cwV 1 hts gV_X12_460 rfl rfl rfl hv_X12_lacking ⟨Nat.le_of_ble_eq_true rfl, Nat.le_of_ble_eq_true rfl⟩) (g5_preV hPc hK hDc hN hT hS hFc (ci := 12) (q0 := 0) rfl rfl) rfl rfl hl.1 rfl (lv_room (Nat.le_of_ble_eq_true rfl)) dX12_hang_60 ⟨Nat.le_of_ble_eq_true rfl, Nat.le_of_ble_eq_true rfl⟩) hS (fun q _ h => hFc q h) hFc (fun r u t H locs ht hvm hw hB hz1 hk1 hS => ?_)
          obtain ⟨hP1, hD1⟩ := hB
          have hP1 := g5_ht ht hP1
          obtain ⟨z29, z30, z31, z32, z33, z34, z35, z36, z37, z38, z39, z40, z41, z42, z43, (i_21 : 0 ≤ z30.toInt ∧ z30.toInt ≤ 4840), (i_22 : 0 ≤ z31.toInt ∧ z31.toInt ≤ 1), (i_23 : 0 ≤ z34.toInt ∧ z34.toInt ≤ 63), (i_24 : 0 ≤ z35.toInt ∧ z35.toInt ≤ 23), (i_25 : 0 ≤ z36.toInt ∧ z36.toInt ≤ 3), (i_26 : 0 ≤ z37.toInt ∧ z37.toInt ≤ 1000000), (i_27 : 0 ≤ z38.toInt ∧ z38.toInt ≤ 200), (i_28 : PTI z43), y44, rfl⟩ := hw
          have hJ9 := va_join (wr := []) hP hD [0, 1, 2, 3, 4] [] rfl rfl (by decide +kernel) (by decide +kernel) hk1 hFc hP1 hD1
          clear hP hD hPc hDc hFc ht hvm hz1 hk1 hP1 hD1
          obtain ⟨hP, hD⟩ := hJ9
          refine g5_rs [(b_o, (oc12 0 u_sa b_rf b_ro b_im b_ke u_fd b_tp u_td u_fr u_to u_so u_wo u_fa u_bd u_nc b_nl u_co b_op b_ar u_le b_pi b_pa u_pd u_od b_ws b_hw z30 b_se b_re z31 z32 z33 z34 z35 z36 z37 z38 b_pt z39 z40 b_ip u_ic b_ah b_be b_me u_wd b_tr b_ld u_st b_wn u_id)), (b_ro, (arI G 5740 v_ro)), (b_se, (arJ G 13 z41)), (b_re, (arJ G 400 z42)), (b_pt, (arI G 200 z43))] hP hD ?_
          clear hP hD
          intro hP hD
          refine g5_ti (v := z29) y44 ?_
          refine lv_if_ne (tgt := 120) hx hb dX12_hang_63 (by decide +kernel) (fun c_45 => ?_) (fun c_45 => ?_)
          ·
            have n_45 : gNe (z29.toInt) (0) := g5_ne (a := z29.toInt) (b := 0) rfl (by decide +kernel) c_45
            refine lv_iinc (v := (k29_5 + 1)) (lv' := [(5, .int (k29_5 + 1)), (2, .int k29_2), (3, .int k29_3), (4, .int k29_4), (0, .ref b_o), (1, .int p_1)]) hx hb dX12_hang_120 hl (k := 3) rfl rfl (by decide +kernel) rfl ?_
            clear hl
            intro ls hl
            have t_46 : (k29_5 + 1).toInt = k29_5.toInt + 1 := g5_iadd (a := k29_5.toInt) (b := 1) rfl (by decide +kernel) (by omega) (by omega)
            refine lv_goto (tgt := 29) hx hb dX12_hang_123 (by decide +kernel) ?_
            exact ih_29_14 ((k29_5 + 1), k29_4, k29_3, k29_2, z30, z31, z32, z33, z34, z35, z36, z37, z38, z39, z40, z41, z42, z43) ls H locs (show Int.toNat (256 - (k29_5 + 1).toInt) < Int.toNat (256 - k29_5.toInt) from g_up (show k29_5.toInt < (k29_5 + 1).toInt by omega) (show k29_5.toInt < 256 by omega)) ⟨lv_sub hl [1, 2, 3, 0, 4, 5] rfl, hP, hD, hS, ⟨by omega, by omega⟩, i_21, i_22, i_23, i_24, i_25, i_26, i_27, i_28⟩
          ·
            have i_45 : z29.toInt = 0 := g5_neN (a := z29.toInt) (b := 0) rfl (by decide +kernel) c_45
            refine lv_iload_n hx hb dX12_hang_66 rfl (lv_at hl 0 rfl) ?_
            refine lv_iconst (v := (-1)) hx hb dX12_hang_67 (by decide +kernel) ?_
            refine lv_icmp_eq (tgt := 80) hx hb dX12_hang_68 (by decide +kernel) (fun c_47 => ?_) (fun c_47 => ?_)
            ·
              have i_47 : k29_2.toInt = (-1) := g5_eq (a := k29_2.toInt) (b := (-1)) rfl (by decide +kernel) c_47
              refine lv_iconst (v := 1) hx hb dX12_hang_80 (by decide +kernel) ?_
              refine lv_goto (tgt := 85) hx hb dX12_hang_81 (by decide +kernel) ?_
              refine lv_istore (lv' := [(6, .int 1), (2, .int k29_2), (3, .int k29_3), (4, .int k29_4), (5, .int k29_5), (0, .ref b_o), (1, .int p_1)]) hx hb dX12_hang_85 hl (by decide +kernel) rfl ?_
              clear hl
              intro ls hl
              refine lv_iload hx hb dX12_hang_87 (lv_at hl 0 rfl) ?_
              refine W.eq (g2 := F0 m 89 ls [.int 1]) rfl ?_
              refine lv_if_eq (tgt := 96) hx hb dX12_hang_89 (by decide +kernel) (fun c_48 => ?_) (fun c_48 => ?_)
              ·
                exact absurd c_48 (by decide +kernel)
              ·
                refine lv_iconst (v := 1) hx hb dX12_hang_92 (by decide +kernel) ?_
                refine lv_goto (tgt := 99) hx hb dX12_hang_93 (by decide +kernel) ?_
                refine lv_istore_n (lv' := [(3, .int 1), (6, .int 1), (2, .int k29_2), (4, .int k29_4), (5, .int k29_5), (0, .ref b_o), (1, .int p_1)]) hx hb dX12_hang_99 rfl hl (by decide +kernel) rfl ?_
                clear hl
                intro ls hl
                refine lv_iload hx hb dX12_hang_100 (lv_at hl 1 rfl) ?_
                refine W.eq (g2 := F0 m 102 ls [.int 1]) rfl ?_
                refine lv_if_eq (tgt := 110) hx hb dX12_hang_102 (by decide +kernel) (fun c_49 => ?_) (fun c_49 => ?_)
                ·
                  exact absurd c_49 (by decide +kernel)
                ·
                  refine lv_iload hx hb dX12_hang_105 (lv_at hl 4 rfl) ?_
                  refine lv_goto (tgt := 112) hx hb dX12_hang_107 (by decide +kernel) ?_
                  refine lv_istore (lv' := [(4, .int k29_5), (3, .int 1), (6, .int 1), (2, .int k29_2), (5, .int k29_5), (0, .ref b_o), (1, .int p_1)]) hx hb dX12_hang_112 hl (by decide +kernel) rfl ?_
                  clear hl
                  intro ls hl
                  refine lv_iload hx hb dX12_hang_114 (lv_at hl 4 rfl) ?_
                  refine W.eq (g2 := F0 m 116 ls [.int k29_5]) rfl ?_
                  obtain ⟨hPc, hDc, hFc⟩ := g5_sub3 (wc := []) hP hD hS hA [] (by decide +kernel) rfl
                  refine va_calli (va_runS (As := [.int k29_5]) (rest := []) ⟨hx, hb, hml, hown, hts⟩ (n_bits l G H.size k29_5) (va_cwS 1 hts gS_X12_463 rfl rfl rfl hs_X12_bits ⟨Nat.le_of_ble_eq_true rfl, Nat.le_of_ble_eq_true rfl⟩) (g5_preS hPc hK hDc hN hT hS hFc) rfl rfl hl.1 rfl (lv_room (Nat.le_of_ble_eq_true rfl)) dX12_hang_116 ⟨Nat.le_of_ble_eq_true rfl, Nat.le_of_ble_eq_true rfl⟩) hS (fun q _ h => hFc q h) hFc (fun r u t H locs ht hvm hw hB hz1 hk1 hS => ?_)
                  obtain ⟨hP1, hD1⟩ := hB
                  have hP1 := g5_ht ht hP1
                  obtain ⟨z50, y51, rfl⟩ := hw
                  have hJ9 := g5_same hP hk1
                  clear hP hPc hDc hFc ht hvm hz1 hk1 hP1 hD1
                  have hP := hJ9
                  clear hJ9
                  refine g5_ti (v := z50) y51 ?_
                  refine lv_istore_n (lv' := [(2, .int z50), (4, .int k29_5), (3, .int 1), (6, .int 1), (5, .int k29_5), (0, .ref b_o), (1, .int p_1)]) hx hb dX12_hang_119 rfl hl (by decide +kernel) rfl ?_
                  clear hl
                  intro ls hl
                  refine lv_iinc (v := (k29_5 + 1)) (lv' := [(5, .int (k29_5 + 1)), (2, .int z50), (4, .int k29_5), (3, .int 1), (6, .int 1), (0, .ref b_o), (1, .int p_1)]) hx hb dX12_hang_120 hl (k := 4) rfl rfl (by decide +kernel) rfl ?_
                  clear hl
                  intro ls hl
                  have t_52 : (k29_5 + 1).toInt = k29_5.toInt + 1 := g5_iadd (a := k29_5.toInt) (b := 1) rfl (by decide +kernel) (by omega) (by omega)
                  refine lv_goto (tgt := 29) hx hb dX12_hang_123 (by decide +kernel) ?_
                  exact ih_29_14 ((k29_5 + 1), k29_5, 1, z50, z30, z31, z32, z33, z34, z35, z36, z37, z38, z39, z40, z41, z42, z43) ls H locs (show Int.toNat (256 - (k29_5 + 1).toInt) < Int.toNat (256 - k29_5.toInt) from g_up (show k29_5.toInt < (k29_5 + 1).toInt by omega) (show k29_5.toInt < 256 by omega)) ⟨lv_sub hl [1, 3, 2, 0, 5, 6] rfl, hP, hD, hS, ⟨by omega, by omega⟩, i_21, i_22, i_23, i_24, i_25, i_26, i_27, i_28⟩
            ·
              have i_47 : k29_2.toInt ≠ (-1) := g5_eqN (a := k29_2.toInt) (b := (-1)) rfl (by decide +kernel) c_47
              omega
        ·
          have n_20 : gNe (k29_2.toInt) ((-1)) := g5_eqN (a := k29_2.toInt) (b := (-1)) rfl (by decide +kernel) c_20
          refine lv_iload hx hb dX12_hang_48 (lv_at hl 3 rfl) ?_
          obtain ⟨hPc, hDc, hFc⟩ := g5_sub3 (wc := []) hP hD hS hA [] (by decide +kernel) rfl
          refine va_calli (va_runS (As := [.int k29_5]) (rest := []) ⟨hx, hb, hml, hown, hts⟩ (n_bits l G H.size k29_5) (va_cwS 1 hts gS_X12_463 rfl rfl rfl hs_X12_bits ⟨Nat.le_of_ble_eq_true rfl, Nat.le_of_ble_eq_true rfl⟩) (g5_preS hPc hK hDc hN hT hS hFc) rfl rfl hl.1 rfl (lv_room (Nat.le_of_ble_eq_true rfl)) dX12_hang_50 ⟨Nat.le_of_ble_eq_true rfl, Nat.le_of_ble_eq_true rfl⟩) hS (fun q _ h => hFc q h) hFc (fun r u t H locs ht hvm hw hB hz1 hk1 hS => ?_)
          obtain ⟨hP1, hD1⟩ := hB
          have hP1 := g5_ht ht hP1
          obtain ⟨z53, y54, rfl⟩ := hw
          have hJ9 := g5_same hP hk1
          clear hP hPc hDc hFc ht hvm hz1 hk1 hP1 hD1
          have hP := hJ9
          clear hJ9
          refine g5_ti (v := z53) y54 ?_
          refine lv_iload_n hx hb dX12_hang_53 rfl (lv_at hl 0 rfl) ?_
          refine lv_icmp_gt (tgt := 120) hx hb dX12_hang_54 (by decide +kernel) (fun c_55 => ?_) (fun c_55 => ?_)
          ·
            have i_55 : z53.toInt > k29_2.toInt := g5_gt (a := z53.toInt) (b := k29_2.toInt) rfl rfl c_55
            refine lv_iinc (v := (k29_5 + 1)) (lv' := [(5, .int (k29_5 + 1)), (2, .int k29_2), (3, .int k29_3), (4, .int k29_4), (0, .ref b_o), (1, .int p_1)]) hx hb dX12_hang_120 hl (k := 3) rfl rfl (by decide +kernel) rfl ?_
            clear hl
            intro ls hl
            have t_56 : (k29_5 + 1).toInt = k29_5.toInt + 1 := g5_iadd (a := k29_5.toInt) (b := 1) rfl (by decide +kernel) (by omega) (by omega)
            refine lv_goto (tgt := 29) hx hb dX12_hang_123 (by decide +kernel) ?_
            exact ih_29_14 ((k29_5 + 1), k29_4, k29_3, k29_2, k29_la, k29_bk, k29_va, k29_su, k29_ce, k29_ho, k29_wy, k29_bt, k29_ps, k29_tg, k29_sn, k29_se, k29_re, k29_pt) ls H locs (show Int.toNat (256 - (k29_5 + 1).toInt) < Int.toNat (256 - k29_5.toInt) from g_up (show k29_5.toInt < (k29_5 + 1).toInt by omega) (show k29_5.toInt < 256 by omega)) ⟨lv_sub hl [1, 2, 3, 0, 4, 5] rfl, hP, hD, hS, ⟨by omega, by omega⟩, i_6, i_7, i_8, i_9, i_10, i_11, i_12, i_13⟩
          ·
            have i_55 : z53.toInt ≤ k29_2.toInt := g5_gtN (a := z53.toInt) (b := k29_2.toInt) rfl rfl c_55
            refine lv_aload_n hx hb dX12_hang_57 rfl (lv_at hl 4 rfl) ?_
            refine lv_iload hx hb dX12_hang_58 (lv_at hl 3 rfl) ?_
            obtain ⟨hPc, hDc, hFc⟩ := g5_sub3 (wc := [(b_o, (oc12 0 u_sa b_rf b_ro b_im b_ke u_fd b_tp u_td u_fr u_to u_so u_wo u_fa u_bd u_nc b_nl u_co b_op b_ar u_le b_pi b_pa u_pd u_od b_ws b_hw k29_la b_se b_re k29_bk k29_va k29_su k29_ce k29_ho k29_wy k29_bt k29_ps b_pt k29_tg k29_sn b_ip u_ic b_ah b_be b_me u_wd b_tr b_ld u_st b_wn u_id)), (b_ro, (arI G 5740 v_ro)), (b_se, (arJ G 13 k29_se)), (b_re, (arJ G 400 k29_re)), (b_pt, (arI G 200 k29_pt))]) hP hD hS hA [0, 1, 2, 3, 4] (by decide +kernel) rfl
            refine va_calli (va_runV (As := [.int k29_5]) (rest := []) ⟨hx, hb, hml, hown, hts⟩ (n_lacking l G b_o b_ro b_se b_re b_pt b_rf b_im b_ke b_tp b_nl b_op b_ar b_pi b_pa b_ws b_hw b_ip b_ah b_be b_me b_tr b_ld b_wn H.size 0 u_sa u_fd u_td u_fr u_to u_so u_fa u_bd u_nc u_co u_le u_pd u_od k29_la k29_bk k29_ce k29_ho k29_wy k29_bt k29_ps k29_tg k29_sn u_ic u_wd u_id k29_5 u_wo k29_va k29_su u_st v_ro k29_se k29_re k29_pt h_u_td h_u_fr h_u_to h_u_bd h_u_nc h_u_co h_u_pd i_6 i_7 i_8 i_9 i_10 i_11 i_12 h_u_ic h_u_id (r_ro) (i_13)) (cwV 1 hts gV_X12_460 rfl rfl rfl hv_X12_lacking ⟨Nat.le_of_ble_eq_true rfl, Nat.le_of_ble_eq_true rfl⟩) (g5_preV hPc hK hDc hN hT hS hFc (ci := 12) (q0 := 0) rfl rfl) rfl rfl hl.1 rfl (lv_room (Nat.le_of_ble_eq_true rfl)) dX12_hang_60 ⟨Nat.le_of_ble_eq_true rfl, Nat.le_of_ble_eq_true rfl⟩) hS (fun q _ h => hFc q h) hFc (fun r u t H locs ht hvm hw hB hz1 hk1 hS => ?_)
            obtain ⟨hP1, hD1⟩ := hB
            have hP1 := g5_ht ht hP1
            obtain ⟨z65, z66, z67, z68, z69, z70, z71, z72, z73, z74, z75, z76, z77, z78, z79, (i_57 : 0 ≤ z66.toInt ∧ z66.toInt ≤ 4840), (i_58 : 0 ≤ z67.toInt ∧ z67.toInt ≤ 1), (i_59 : 0 ≤ z70.toInt ∧ z70.toInt ≤ 63), (i_60 : 0 ≤ z71.toInt ∧ z71.toInt ≤ 23), (i_61 : 0 ≤ z72.toInt ∧ z72.toInt ≤ 3), (i_62 : 0 ≤ z73.toInt ∧ z73.toInt ≤ 1000000), (i_63 : 0 ≤ z74.toInt ∧ z74.toInt ≤ 200), (i_64 : PTI z79), y80, rfl⟩ := hw
            have hJ9 := va_join (wr := []) hP hD [0, 1, 2, 3, 4] [] rfl rfl (by decide +kernel) (by decide +kernel) hk1 hFc hP1 hD1
            clear hP hD hPc hDc hFc ht hvm hz1 hk1 hP1 hD1
            obtain ⟨hP, hD⟩ := hJ9
            refine g5_rs [(b_o, (oc12 0 u_sa b_rf b_ro b_im b_ke u_fd b_tp u_td u_fr u_to u_so u_wo u_fa u_bd u_nc b_nl u_co b_op b_ar u_le b_pi b_pa u_pd u_od b_ws b_hw z66 b_se b_re z67 z68 z69 z70 z71 z72 z73 z74 b_pt z75 z76 b_ip u_ic b_ah b_be b_me u_wd b_tr b_ld u_st b_wn u_id)), (b_ro, (arI G 5740 v_ro)), (b_se, (arJ G 13 z77)), (b_re, (arJ G 400 z78)), (b_pt, (arI G 200 z79))] hP hD ?_
            clear hP hD
            intro hP hD
            refine g5_ti (v := z65) y80 ?_
            refine lv_if_ne (tgt := 120) hx hb dX12_hang_63 (by decide +kernel) (fun c_81 => ?_) (fun c_81 => ?_)
            ·
              have n_81 : gNe (z65.toInt) (0) := g5_ne (a := z65.toInt) (b := 0) rfl (by decide +kernel) c_81
              refine lv_iinc (v := (k29_5 + 1)) (lv' := [(5, .int (k29_5 + 1)), (2, .int k29_2), (3, .int k29_3), (4, .int k29_4), (0, .ref b_o), (1, .int p_1)]) hx hb dX12_hang_120 hl (k := 3) rfl rfl (by decide +kernel) rfl ?_
              clear hl
              intro ls hl
              have t_82 : (k29_5 + 1).toInt = k29_5.toInt + 1 := g5_iadd (a := k29_5.toInt) (b := 1) rfl (by decide +kernel) (by omega) (by omega)
              refine lv_goto (tgt := 29) hx hb dX12_hang_123 (by decide +kernel) ?_
              exact ih_29_14 ((k29_5 + 1), k29_4, k29_3, k29_2, z66, z67, z68, z69, z70, z71, z72, z73, z74, z75, z76, z77, z78, z79) ls H locs (show Int.toNat (256 - (k29_5 + 1).toInt) < Int.toNat (256 - k29_5.toInt) from g_up (show k29_5.toInt < (k29_5 + 1).toInt by omega) (show k29_5.toInt < 256 by omega)) ⟨lv_sub hl [1, 2, 3, 0, 4, 5] rfl, hP, hD, hS, ⟨by omega, by omega⟩, i_57, i_58, i_59, i_60, i_61, i_62, i_63, i_64⟩
            ·
              have i_81 : z65.toInt = 0 := g5_neN (a := z65.toInt) (b := 0) rfl (by decide +kernel) c_81
              refine lv_iload_n hx hb dX12_hang_66 rfl (lv_at hl 0 rfl) ?_
              refine lv_iconst (v := (-1)) hx hb dX12_hang_67 (by decide +kernel) ?_
              refine lv_icmp_eq (tgt := 80) hx hb dX12_hang_68 (by decide +kernel) (fun c_83 => ?_) (fun c_83 => ?_)
              ·
                have i_83 : k29_2.toInt = (-1) := g5_eq (a := k29_2.toInt) (b := (-1)) rfl (by decide +kernel) c_83
                refine lv_iconst (v := 1) hx hb dX12_hang_80 (by decide +kernel) ?_
                refine lv_goto (tgt := 85) hx hb dX12_hang_81 (by decide +kernel) ?_
                refine lv_istore (lv' := [(6, .int 1), (2, .int k29_2), (3, .int k29_3), (4, .int k29_4), (5, .int k29_5), (0, .ref b_o), (1, .int p_1)]) hx hb dX12_hang_85 hl (by decide +kernel) rfl ?_
                clear hl
                intro ls hl
                refine lv_iload hx hb dX12_hang_87 (lv_at hl 0 rfl) ?_
                refine W.eq (g2 := F0 m 89 ls [.int 1]) rfl ?_
                refine lv_if_eq (tgt := 96) hx hb dX12_hang_89 (by decide +kernel) (fun c_84 => ?_) (fun c_84 => ?_)
                ·
                  exact absurd c_84 (by decide +kernel)
                ·
                  refine lv_iconst (v := 1) hx hb dX12_hang_92 (by decide +kernel) ?_
                  refine lv_goto (tgt := 99) hx hb dX12_hang_93 (by decide +kernel) ?_
                  refine lv_istore_n (lv' := [(3, .int 1), (6, .int 1), (2, .int k29_2), (4, .int k29_4), (5, .int k29_5), (0, .ref b_o), (1, .int p_1)]) hx hb dX12_hang_99 rfl hl (by decide +kernel) rfl ?_
                  clear hl
                  intro ls hl
                  refine lv_iload hx hb dX12_hang_100 (lv_at hl 1 rfl) ?_
                  refine W.eq (g2 := F0 m 102 ls [.int 1]) rfl ?_
                  refine lv_if_eq (tgt := 110) hx hb dX12_hang_102 (by decide +kernel) (fun c_85 => ?_) (fun c_85 => ?_)
                  ·
                    exact absurd c_85 (by decide +kernel)
                  ·
                    refine lv_iload hx hb dX12_hang_105 (lv_at hl 4 rfl) ?_
                    refine lv_goto (tgt := 112) hx hb dX12_hang_107 (by decide +kernel) ?_
                    refine lv_istore (lv' := [(4, .int k29_5), (3, .int 1), (6, .int 1), (2, .int k29_2), (5, .int k29_5), (0, .ref b_o), (1, .int p_1)]) hx hb dX12_hang_112 hl (by decide +kernel) rfl ?_
                    clear hl
                    intro ls hl
                    refine lv_iload hx hb dX12_hang_114 (lv_at hl 4 rfl) ?_
                    refine W.eq (g2 := F0 m 116 ls [.int k29_5]) rfl ?_
                    obtain ⟨hPc, hDc, hFc⟩ := g5_sub3 (wc := []) hP hD hS hA [] (by decide +kernel) rfl
                    refine va_calli (va_runS (As := [.int k29_5]) (rest := []) ⟨hx, hb, hml, hown, hts⟩ (n_bits l G H.size k29_5) (va_cwS 1 hts gS_X12_463 rfl rfl rfl hs_X12_bits ⟨Nat.le_of_ble_eq_true rfl, Nat.le_of_ble_eq_true rfl⟩) (g5_preS hPc hK hDc hN hT hS hFc) rfl rfl hl.1 rfl (lv_room (Nat.le_of_ble_eq_true rfl)) dX12_hang_116 ⟨Nat.le_of_ble_eq_true rfl, Nat.le_of_ble_eq_true rfl⟩) hS (fun q _ h => hFc q h) hFc (fun r u t H locs ht hvm hw hB hz1 hk1 hS => ?_)
                    obtain ⟨hP1, hD1⟩ := hB
                    have hP1 := g5_ht ht hP1
                    obtain ⟨z86, y87, rfl⟩ := hw
                    have hJ9 := g5_same hP hk1
                    clear hP hPc hDc hFc ht hvm hz1 hk1 hP1 hD1
                    have hP := hJ9
                    clear hJ9
                    refine g5_ti (v := z86) y87 ?_
                    refine lv_istore_n (lv' := [(2, .int z86), (4, .int k29_5), (3, .int 1), (6, .int 1), (5, .int k29_5), (0, .ref b_o), (1, .int p_1)]) hx hb dX12_hang_119 rfl hl (by decide +kernel) rfl ?_
                    clear hl
                    intro ls hl
                    refine lv_iinc (v := (k29_5 + 1)) (lv' := [(5, .int (k29_5 + 1)), (2, .int z86), (4, .int k29_5), (3, .int 1), (6, .int 1), (0, .ref b_o), (1, .int p_1)]) hx hb dX12_hang_120 hl (k := 4) rfl rfl (by decide +kernel) rfl ?_
                    clear hl
                    intro ls hl
                    have t_88 : (k29_5 + 1).toInt = k29_5.toInt + 1 := g5_iadd (a := k29_5.toInt) (b := 1) rfl (by decide +kernel) (by omega) (by omega)
                    refine lv_goto (tgt := 29) hx hb dX12_hang_123 (by decide +kernel) ?_
                    exact ih_29_14 ((k29_5 + 1), k29_5, 1, z86, z66, z67, z68, z69, z70, z71, z72, z73, z74, z75, z76, z77, z78, z79) ls H locs (show Int.toNat (256 - (k29_5 + 1).toInt) < Int.toNat (256 - k29_5.toInt) from g_up (show k29_5.toInt < (k29_5 + 1).toInt by omega) (show k29_5.toInt < 256 by omega)) ⟨lv_sub hl [1, 3, 2, 0, 5, 6] rfl, hP, hD, hS, ⟨by omega, by omega⟩, i_57, i_58, i_59, i_60, i_61, i_62, i_63, i_64⟩
              ·
                have n_83 : gNe (k29_2.toInt) ((-1)) := g5_eqN (a := k29_2.toInt) (b := (-1)) rfl (by decide +kernel) c_83
                refine lv_iload hx hb dX12_hang_71 (lv_at hl 3 rfl) ?_
                obtain ⟨hPc, hDc, hFc⟩ := g5_sub3 (wc := []) hP hD hS hA [] (by decide +kernel) rfl
                refine va_calli (va_runS (As := [.int k29_5]) (rest := []) ⟨hx, hb, hml, hown, hts⟩ (n_bits l G H.size k29_5) (va_cwS 1 hts gS_X12_463 rfl rfl rfl hs_X12_bits ⟨Nat.le_of_ble_eq_true rfl, Nat.le_of_ble_eq_true rfl⟩) (g5_preS hPc hK hDc hN hT hS hFc) rfl rfl hl.1 rfl (lv_room (Nat.le_of_ble_eq_true rfl)) dX12_hang_73 ⟨Nat.le_of_ble_eq_true rfl, Nat.le_of_ble_eq_true rfl⟩) hS (fun q _ h => hFc q h) hFc (fun r u t H locs ht hvm hw hB hz1 hk1 hS => ?_)
                obtain ⟨hP1, hD1⟩ := hB
                have hP1 := g5_ht ht hP1
                obtain ⟨z89, y90, rfl⟩ := hw
                have hJ9 := g5_same hP hk1
                clear hP hPc hDc hFc ht hvm hz1 hk1 hP1 hD1
                have hP := hJ9
                clear hJ9
                refine g5_ti (v := z89) y90 ?_
                refine lv_iload_n hx hb dX12_hang_76 rfl (lv_at hl 0 rfl) ?_
                refine lv_icmp_ge (tgt := 84) hx hb dX12_hang_77 (by decide +kernel) (fun c_91 => ?_) (fun c_91 => ?_)
                ·
                  have i_91 : z89.toInt ≥ k29_2.toInt := g5_ge (a := z89.toInt) (b := k29_2.toInt) rfl rfl c_91
                  refine lv_iconst (v := 0) hx hb dX12_hang_84 (by decide +kernel) ?_
                  refine lv_istore (lv' := [(6, .int 0), (2, .int k29_2), (3, .int k29_3), (4, .int k29_4), (5, .int k29_5), (0, .ref b_o), (1, .int p_1)]) hx hb dX12_hang_85 hl (by decide +kernel) rfl ?_
                  clear hl
                  intro ls hl
                  refine lv_iload hx hb dX12_hang_87 (lv_at hl 0 rfl) ?_
                  refine lv_if_eq (tgt := 96) hx hb dX12_hang_89 (by decide +kernel) (fun c_92 => ?_) (fun c_92 => ?_)
                  ·
                    refine lv_iload_n hx hb dX12_hang_96 rfl (lv_at hl 2 rfl) ?_
                    refine lv_iconst (v := 1) hx hb dX12_hang_97 (by decide +kernel) ?_
                    refine lv_iadd hx hb dX12_hang_98 ?_
                    refine lv_istore_n (lv' := [(3, .int (k29_3 + 1)), (6, .int 0), (2, .int k29_2), (4, .int k29_4), (5, .int k29_5), (0, .ref b_o), (1, .int p_1)]) hx hb dX12_hang_99 rfl hl (by decide +kernel) rfl ?_
                    clear hl
                    intro ls hl
                    refine W.eq (g2 := F0 m 100 ls []) rfl ?_
                    refine lv_iload hx hb dX12_hang_100 (lv_at hl 1 rfl) ?_
                    refine lv_if_eq (tgt := 110) hx hb dX12_hang_102 (by decide +kernel) (fun c_93 => ?_) (fun c_93 => ?_)
                    ·
                      refine lv_iload hx hb dX12_hang_110 (lv_at hl 3 rfl) ?_
                      refine lv_istore (lv' := [(4, .int k29_4), (3, .int (k29_3 + 1)), (6, .int 0), (2, .int k29_2), (5, .int k29_5), (0, .ref b_o), (1, .int p_1)]) hx hb dX12_hang_112 hl (by decide +kernel) rfl ?_
                      clear hl
                      intro ls hl
                      refine lv_iload hx hb dX12_hang_114 (lv_at hl 4 rfl) ?_
                      obtain ⟨hPc, hDc, hFc⟩ := g5_sub3 (wc := []) hP hD hS hA [] (by decide +kernel) rfl
                      refine va_calli (va_runS (As := [.int k29_5]) (rest := []) ⟨hx, hb, hml, hown, hts⟩ (n_bits l G H.size k29_5) (va_cwS 1 hts gS_X12_463 rfl rfl rfl hs_X12_bits ⟨Nat.le_of_ble_eq_true rfl, Nat.le_of_ble_eq_true rfl⟩) (g5_preS hPc hK hDc hN hT hS hFc) rfl rfl hl.1 rfl (lv_room (Nat.le_of_ble_eq_true rfl)) dX12_hang_116 ⟨Nat.le_of_ble_eq_true rfl, Nat.le_of_ble_eq_true rfl⟩) hS (fun q _ h => hFc q h) hFc (fun r u t H locs ht hvm hw hB hz1 hk1 hS => ?_)
                      obtain ⟨hP1, hD1⟩ := hB
                      have hP1 := g5_ht ht hP1
                      obtain ⟨z94, y95, rfl⟩ := hw
                      have hJ9 := g5_same hP hk1
                      clear hP hPc hDc hFc ht hvm hz1 hk1 hP1 hD1
                      have hP := hJ9
                      clear hJ9
                      refine g5_ti (v := z94) y95 ?_
                      refine W.eq (g2 := F0 m 119 ls [.int z94]) rfl ?_
                      refine lv_istore_n (lv' := [(2, .int z94), (4, .int k29_4), (3, .int (k29_3 + 1)), (6, .int 0), (5, .int k29_5), (0, .ref b_o), (1, .int p_1)]) hx hb dX12_hang_119 rfl hl (by decide +kernel) rfl ?_
                      clear hl
                      intro ls hl
                      refine lv_iinc (v := (k29_5 + 1)) (lv' := [(5, .int (k29_5 + 1)), (2, .int z94), (4, .int k29_4), (3, .int (k29_3 + 1)), (6, .int 0), (0, .ref b_o), (1, .int p_1)]) hx hb dX12_hang_120 hl (k := 4) rfl rfl (by decide +kernel) rfl ?_
                      clear hl
                      intro ls hl
                      have t_96 : (k29_5 + 1).toInt = k29_5.toInt + 1 := g5_iadd (a := k29_5.toInt) (b := 1) rfl (by decide +kernel) (by omega) (by omega)
                      refine lv_goto (tgt := 29) hx hb dX12_hang_123 (by decide +kernel) ?_
                      exact ih_29_14 ((k29_5 + 1), k29_4, (k29_3 + 1), z94, z66, z67, z68, z69, z70, z71, z72, z73, z74, z75, z76, z77, z78, z79) ls H locs (show Int.toNat (256 - (k29_5 + 1).toInt) < Int.toNat (256 - k29_5.toInt) from g_up (show k29_5.toInt < (k29_5 + 1).toInt by omega) (show k29_5.toInt < 256 by omega)) ⟨lv_sub hl [1, 3, 2, 0, 5, 6] rfl, hP, hD, hS, ⟨by omega, by omega⟩, i_57, i_58, i_59, i_60, i_61, i_62, i_63, i_64⟩
                    ·
                      exact absurd c_93 (by decide +kernel)
                  ·
                    exact absurd c_92 (by decide +kernel)
                ·
                  have i_91 : z89.toInt < k29_2.toInt := g5_geN (a := z89.toInt) (b := k29_2.toInt) rfl rfl c_91
                  refine lv_iconst (v := 1) hx hb dX12_hang_80 (by decide +kernel) ?_
                  refine lv_goto (tgt := 85) hx hb dX12_hang_81 (by decide +kernel) ?_
                  refine lv_istore (lv' := [(6, .int 1), (2, .int k29_2), (3, .int k29_3), (4, .int k29_4), (5, .int k29_5), (0, .ref b_o), (1, .int p_1)]) hx hb dX12_hang_85 hl (by decide +kernel) rfl ?_
                  clear hl
                  intro ls hl
                  refine lv_iload hx hb dX12_hang_87 (lv_at hl 0 rfl) ?_
                  refine W.eq (g2 := F0 m 89 ls [.int 1]) rfl ?_
                  refine lv_if_eq (tgt := 96) hx hb dX12_hang_89 (by decide +kernel) (fun c_97 => ?_) (fun c_97 => ?_)
                  ·
                    exact absurd c_97 (by decide +kernel)
                  ·
                    refine lv_iconst (v := 1) hx hb dX12_hang_92 (by decide +kernel) ?_
                    refine lv_goto (tgt := 99) hx hb dX12_hang_93 (by decide +kernel) ?_
                    refine lv_istore_n (lv' := [(3, .int 1), (6, .int 1), (2, .int k29_2), (4, .int k29_4), (5, .int k29_5), (0, .ref b_o), (1, .int p_1)]) hx hb dX12_hang_99 rfl hl (by decide +kernel) rfl ?_
                    clear hl
                    intro ls hl
                    refine lv_iload hx hb dX12_hang_100 (lv_at hl 1 rfl) ?_
                    refine W.eq (g2 := F0 m 102 ls [.int 1]) rfl ?_
                    refine lv_if_eq (tgt := 110) hx hb dX12_hang_102 (by decide +kernel) (fun c_98 => ?_) (fun c_98 => ?_)
                    ·
                      exact absurd c_98 (by decide +kernel)
                    ·
                      refine lv_iload hx hb dX12_hang_105 (lv_at hl 4 rfl) ?_
                      refine lv_goto (tgt := 112) hx hb dX12_hang_107 (by decide +kernel) ?_
                      refine lv_istore (lv' := [(4, .int k29_5), (3, .int 1), (6, .int 1), (2, .int k29_2), (5, .int k29_5), (0, .ref b_o), (1, .int p_1)]) hx hb dX12_hang_112 hl (by decide +kernel) rfl ?_
                      clear hl
                      intro ls hl
                      refine lv_iload hx hb dX12_hang_114 (lv_at hl 4 rfl) ?_
                      refine W.eq (g2 := F0 m 116 ls [.int k29_5]) rfl ?_
                      obtain ⟨hPc, hDc, hFc⟩ := g5_sub3 (wc := []) hP hD hS hA [] (by decide +kernel) rfl
                      refine va_calli (va_runS (As := [.int k29_5]) (rest := []) ⟨hx, hb, hml, hown, hts⟩ (n_bits l G H.size k29_5) (va_cwS 1 hts gS_X12_463 rfl rfl rfl hs_X12_bits ⟨Nat.le_of_ble_eq_true rfl, Nat.le_of_ble_eq_true rfl⟩) (g5_preS hPc hK hDc hN hT hS hFc) rfl rfl hl.1 rfl (lv_room (Nat.le_of_ble_eq_true rfl)) dX12_hang_116 ⟨Nat.le_of_ble_eq_true rfl, Nat.le_of_ble_eq_true rfl⟩) hS (fun q _ h => hFc q h) hFc (fun r u t H locs ht hvm hw hB hz1 hk1 hS => ?_)
                      obtain ⟨hP1, hD1⟩ := hB
                      have hP1 := g5_ht ht hP1
                      obtain ⟨z99, y100, rfl⟩ := hw
                      have hJ9 := g5_same hP hk1
                      clear hP hPc hDc hFc ht hvm hz1 hk1 hP1 hD1
                      have hP := hJ9
                      clear hJ9
                      refine g5_ti (v := z99) y100 ?_
                      refine lv_istore_n (lv' := [(2, .int z99), (4, .int k29_5), (3, .int 1), (6, .int 1), (5, .int k29_5), (0, .ref b_o), (1, .int p_1)]) hx hb dX12_hang_119 rfl hl (by decide +kernel) rfl ?_
                      clear hl
                      intro ls hl
                      refine lv_iinc (v := (k29_5 + 1)) (lv' := [(5, .int (k29_5 + 1)), (2, .int z99), (4, .int k29_5), (3, .int 1), (6, .int 1), (0, .ref b_o), (1, .int p_1)]) hx hb dX12_hang_120 hl (k := 4) rfl rfl (by decide +kernel) rfl ?_
                      clear hl
                      intro ls hl
                      have t_101 : (k29_5 + 1).toInt = k29_5.toInt + 1 := g5_iadd (a := k29_5.toInt) (b := 1) rfl (by decide +kernel) (by omega) (by omega)
                      refine lv_goto (tgt := 29) hx hb dX12_hang_123 (by decide +kernel) ?_
                      exact ih_29_14 ((k29_5 + 1), k29_5, 1, z99, z66, z67, z68, z69, z70, z71, z72, z73, z74, z75, z76, z77, z78, z79) ls H locs (show Int.toNat (256 - (k29_5 + 1).toInt) < Int.toNat (256 - k29_5.toInt) from g_up (show k29_5.toInt < (k29_5 + 1).toInt by omega) (show k29_5.toInt < 256 by omega)) ⟨lv_sub hl [1, 3, 2, 0, 5, 6] rfl, hP, hD, hS, ⟨by omega, by omega⟩, i_57, i_58, i_59, i_60, i_61, i_62, i_63, i_64⟩
    ·
      exact absurd c_4 (by decide +kernel)
theorem dgX12_wander_0 : ∀ r ∈ ([(0, (.aload_n 0, 1)), (1, (.iconst 0, 1)), (2, (.putfield 107, 3)), (5, (.iload_n 1, 1)), (6, (.i2l, 1)), (7, (.lconst 0, 1)), (8, (.ldc2_w 190, 3)), (11, (.invokestatic 121, 3)), (14, (.ifCond .eq 10, 3)), (17, (.iload_n 2, 1)), (18, (.invokestatic 138, 3)), (21, (.ifCond .ne 9, 3)), (24, (.aload_n 0, 1)), (25, (.iconst (-1), 1)), (26, (.invokevirtual 125, 3)), (29, (.ireturn, 1)), (30, (.aload_n 0, 1)), (31, (.iload_n 2, 1)), (32, (.invokevirtual 160, 3)), (35, (.ifCond .eq 10, 3)), (38, (.aload_n 0, 1)), (39, (.bipush (-3), 2)), (41, (.invokevirtual 125, 3)), (44, (.ireturn, 1)), (45, (.aload_n 0, 1)), (46, (.iload_n 1, 1)), (47, (.i2l, 1)), (48, (.putfield 469, 3)), (51, (.iload_n 2, 1)), (52, (.istore_n 3, 1)), (53, (.iconst 0, 1)), (54, (.istore 4, 2)), (56, (.iload 4, 2)), (58, (.bipush 24, 2)), (60, (.if_icmp .ge 102, 3)), (63, (.iload 4, 2)), (65, (.ifCond .le 83, 3)), (68, (.aload_n 0, 1)), (69, (.aload_n 0, 1)), (70, (.getfield 469, 3))] : List (Nat × (Instr × Nat))), decode cX12_wander r.1 = .ok r.2 := by decide +kernel
theorem dX12_wander_0 : decode cX12_wander 0 = .ok (.aload_n 0, 1) := dgX12_wander_0 (0, (.aload_n 0, 1)) (List.mem_of_getElem? (i := 0) rfl)
theorem dX12_wander_1 : decode cX12_wander 1 = .ok (.iconst 0, 1) := dgX12_wander_0 (1, (.iconst 0, 1)) (List.mem_of_getElem? (i := 1) rfl)
theorem dX12_wander_2 : decode cX12_wander 2 = .ok (.putfield 107, 3) := dgX12_wander_0 (2, (.putfield 107, 3)) (List.mem_of_getElem? (i := 2) rfl)
theorem dX12_wander_5 : decode cX12_wander 5 = .ok (.iload_n 1, 1) := dgX12_wander_0 (5, (.iload_n 1, 1)) (List.mem_of_getElem? (i := 3) rfl)
theorem dX12_wander_6 : decode cX12_wander 6 = .ok (.i2l, 1) := dgX12_wander_0 (6, (.i2l, 1)) (List.mem_of_getElem? (i := 4) rfl)
theorem dX12_wander_7 : decode cX12_wander 7 = .ok (.lconst 0, 1) := dgX12_wander_0 (7, (.lconst 0, 1)) (List.mem_of_getElem? (i := 5) rfl)
theorem dX12_wander_8 : decode cX12_wander 8 = .ok (.ldc2_w 190, 3) := dgX12_wander_0 (8, (.ldc2_w 190, 3)) (List.mem_of_getElem? (i := 6) rfl)
theorem dX12_wander_11 : decode cX12_wander 11 = .ok (.invokestatic 121, 3) := dgX12_wander_0 (11, (.invokestatic 121, 3)) (List.mem_of_getElem? (i := 7) rfl)
theorem dX12_wander_14 : decode cX12_wander 14 = .ok (.ifCond .eq 10, 3) := dgX12_wander_0 (14, (.ifCond .eq 10, 3)) (List.mem_of_getElem? (i := 8) rfl)
theorem dX12_wander_17 : decode cX12_wander 17 = .ok (.iload_n 2, 1) := dgX12_wander_0 (17, (.iload_n 2, 1)) (List.mem_of_getElem? (i := 9) rfl)
theorem dX12_wander_18 : decode cX12_wander 18 = .ok (.invokestatic 138, 3) := dgX12_wander_0 (18, (.invokestatic 138, 3)) (List.mem_of_getElem? (i := 10) rfl)
theorem dX12_wander_21 : decode cX12_wander 21 = .ok (.ifCond .ne 9, 3) := dgX12_wander_0 (21, (.ifCond .ne 9, 3)) (List.mem_of_getElem? (i := 11) rfl)
theorem dX12_wander_24 : decode cX12_wander 24 = .ok (.aload_n 0, 1) := dgX12_wander_0 (24, (.aload_n 0, 1)) (List.mem_of_getElem? (i := 12) rfl)
theorem dX12_wander_25 : decode cX12_wander 25 = .ok (.iconst (-1), 1) := dgX12_wander_0 (25, (.iconst (-1), 1)) (List.mem_of_getElem? (i := 13) rfl)
theorem dX12_wander_26 : decode cX12_wander 26 = .ok (.invokevirtual 125, 3) := dgX12_wander_0 (26, (.invokevirtual 125, 3)) (List.mem_of_getElem? (i := 14) rfl)
theorem dX12_wander_29 : decode cX12_wander 29 = .ok (.ireturn, 1) := dgX12_wander_0 (29, (.ireturn, 1)) (List.mem_of_getElem? (i := 15) rfl)
theorem dX12_wander_30 : decode cX12_wander 30 = .ok (.aload_n 0, 1) := dgX12_wander_0 (30, (.aload_n 0, 1)) (List.mem_of_getElem? (i := 16) rfl)
theorem dX12_wander_31 : decode cX12_wander 31 = .ok (.iload_n 2, 1) := dgX12_wander_0 (31, (.iload_n 2, 1)) (List.mem_of_getElem? (i := 17) rfl)
theorem dX12_wander_32 : decode cX12_wander 32 = .ok (.invokevirtual 160, 3) := dgX12_wander_0 (32, (.invokevirtual 160, 3)) (List.mem_of_getElem? (i := 18) rfl)
theorem dX12_wander_35 : decode cX12_wander 35 = .ok (.ifCond .eq 10, 3) := dgX12_wander_0 (35, (.ifCond .eq 10, 3)) (List.mem_of_getElem? (i := 19) rfl)
theorem dX12_wander_38 : decode cX12_wander 38 = .ok (.aload_n 0, 1) := dgX12_wander_0 (38, (.aload_n 0, 1)) (List.mem_of_getElem? (i := 20) rfl)
theorem dX12_wander_39 : decode cX12_wander 39 = .ok (.bipush (-3), 2) := dgX12_wander_0 (39, (.bipush (-3), 2)) (List.mem_of_getElem? (i := 21) rfl)
theorem dX12_wander_41 : decode cX12_wander 41 = .ok (.invokevirtual 125, 3) := dgX12_wander_0 (41, (.invokevirtual 125, 3)) (List.mem_of_getElem? (i := 22) rfl)
theorem dX12_wander_44 : decode cX12_wander 44 = .ok (.ireturn, 1) := dgX12_wander_0 (44, (.ireturn, 1)) (List.mem_of_getElem? (i := 23) rfl)
theorem dX12_wander_45 : decode cX12_wander 45 = .ok (.aload_n 0, 1) := dgX12_wander_0 (45, (.aload_n 0, 1)) (List.mem_of_getElem? (i := 24) rfl)
theorem dX12_wander_46 : decode cX12_wander 46 = .ok (.iload_n 1, 1) := dgX12_wander_0 (46, (.iload_n 1, 1)) (List.mem_of_getElem? (i := 25) rfl)
theorem dX12_wander_47 : decode cX12_wander 47 = .ok (.i2l, 1) := dgX12_wander_0 (47, (.i2l, 1)) (List.mem_of_getElem? (i := 26) rfl)
theorem dX12_wander_48 : decode cX12_wander 48 = .ok (.putfield 469, 3) := dgX12_wander_0 (48, (.putfield 469, 3)) (List.mem_of_getElem? (i := 27) rfl)
theorem dX12_wander_51 : decode cX12_wander 51 = .ok (.iload_n 2, 1) := dgX12_wander_0 (51, (.iload_n 2, 1)) (List.mem_of_getElem? (i := 28) rfl)
theorem dX12_wander_52 : decode cX12_wander 52 = .ok (.istore_n 3, 1) := dgX12_wander_0 (52, (.istore_n 3, 1)) (List.mem_of_getElem? (i := 29) rfl)
theorem dX12_wander_53 : decode cX12_wander 53 = .ok (.iconst 0, 1) := dgX12_wander_0 (53, (.iconst 0, 1)) (List.mem_of_getElem? (i := 30) rfl)
theorem dX12_wander_54 : decode cX12_wander 54 = .ok (.istore 4, 2) := dgX12_wander_0 (54, (.istore 4, 2)) (List.mem_of_getElem? (i := 31) rfl)
theorem dX12_wander_56 : decode cX12_wander 56 = .ok (.iload 4, 2) := dgX12_wander_0 (56, (.iload 4, 2)) (List.mem_of_getElem? (i := 32) rfl)
theorem dX12_wander_58 : decode cX12_wander 58 = .ok (.bipush 24, 2) := dgX12_wander_0 (58, (.bipush 24, 2)) (List.mem_of_getElem? (i := 33) rfl)
theorem dX12_wander_60 : decode cX12_wander 60 = .ok (.if_icmp .ge 102, 3) := dgX12_wander_0 (60, (.if_icmp .ge 102, 3)) (List.mem_of_getElem? (i := 34) rfl)
theorem dX12_wander_63 : decode cX12_wander 63 = .ok (.iload 4, 2) := dgX12_wander_0 (63, (.iload 4, 2)) (List.mem_of_getElem? (i := 35) rfl)
theorem dX12_wander_65 : decode cX12_wander 65 = .ok (.ifCond .le 83, 3) := dgX12_wander_0 (65, (.ifCond .le 83, 3)) (List.mem_of_getElem? (i := 36) rfl)
theorem dX12_wander_68 : decode cX12_wander 68 = .ok (.aload_n 0, 1) := dgX12_wander_0 (68, (.aload_n 0, 1)) (List.mem_of_getElem? (i := 37) rfl)
theorem dX12_wander_69 : decode cX12_wander 69 = .ok (.aload_n 0, 1) := dgX12_wander_0 (69, (.aload_n 0, 1)) (List.mem_of_getElem? (i := 38) rfl)
theorem dX12_wander_70 : decode cX12_wander 70 = .ok (.getfield 469, 3) := dgX12_wander_0 (70, (.getfield 469, 3)) (List.mem_of_getElem? (i := 39) rfl)
theorem dgX12_wander_1 : ∀ r ∈ ([(73, (.ldc2_w 472, 3)), (76, (.lmul, 1)), (77, (.ldc2_w 474, 3)), (80, (.ladd, 1)), (81, (.ldc2_w 476, 3)), (84, (.lrem, 1)), (85, (.putfield 469, 3)), (88, (.aload_n 0, 1)), (89, (.getfield 469, 3)), (92, (.ldc2_w 154, 3)), (95, (.lrem, 1)), (96, (.l2i, 1)), (97, (.istore 5, 2)), (99, (.iload 5, 2)), (101, (.iconst 4, 1)), (102, (.if_icmp .ne 7, 3)), (105, (.iload_n 3, 1)), (106, (.goto 9, 3)), (109, (.iload_n 3, 1)), (110, (.iload 5, 2)), (112, (.invokestatic 374, 3)), (115, (.istore 6, 2)), (117, (.iload 6, 2)), (119, (.iconst (-1), 1)), (120, (.if_icmp .eq 26, 3)), (123, (.aload_n 0, 1)), (124, (.iload 6, 2)), (126, (.ifCond .ge 7, 3)), (129, (.iconst 0, 1)), (130, (.goto 5, 3)), (133, (.iload 6, 2)), (135, (.invokevirtual 160, 3)), (138, (.ifCond .ne 8, 3)), (141, (.iload 6, 2)), (143, (.goto 4, 3)), (146, (.iload_n 3, 1)), (147, (.istore_n 3, 1)), (148, (.aload_n 0, 1)), (149, (.getfield 104, 3)), (152, (.iload 4, 2))] : List (Nat × (Instr × Nat))), decode cX12_wander r.1 = .ok r.2 := by decide +kernel
theorem dX12_wander_73 : decode cX12_wander 73 = .ok (.ldc2_w 472, 3) := dgX12_wander_1 (73, (.ldc2_w 472, 3)) (List.mem_of_getElem? (i := 0) rfl)
theorem dX12_wander_76 : decode cX12_wander 76 = .ok (.lmul, 1) := dgX12_wander_1 (76, (.lmul, 1)) (List.mem_of_getElem? (i := 1) rfl)
theorem dX12_wander_77 : decode cX12_wander 77 = .ok (.ldc2_w 474, 3) := dgX12_wander_1 (77, (.ldc2_w 474, 3)) (List.mem_of_getElem? (i := 2) rfl)
theorem dX12_wander_80 : decode cX12_wander 80 = .ok (.ladd, 1) := dgX12_wander_1 (80, (.ladd, 1)) (List.mem_of_getElem? (i := 3) rfl)
theorem dX12_wander_81 : decode cX12_wander 81 = .ok (.ldc2_w 476, 3) := dgX12_wander_1 (81, (.ldc2_w 476, 3)) (List.mem_of_getElem? (i := 4) rfl)
theorem dX12_wander_84 : decode cX12_wander 84 = .ok (.lrem, 1) := dgX12_wander_1 (84, (.lrem, 1)) (List.mem_of_getElem? (i := 5) rfl)
theorem dX12_wander_85 : decode cX12_wander 85 = .ok (.putfield 469, 3) := dgX12_wander_1 (85, (.putfield 469, 3)) (List.mem_of_getElem? (i := 6) rfl)
theorem dX12_wander_88 : decode cX12_wander 88 = .ok (.aload_n 0, 1) := dgX12_wander_1 (88, (.aload_n 0, 1)) (List.mem_of_getElem? (i := 7) rfl)
theorem dX12_wander_89 : decode cX12_wander 89 = .ok (.getfield 469, 3) := dgX12_wander_1 (89, (.getfield 469, 3)) (List.mem_of_getElem? (i := 8) rfl)
theorem dX12_wander_92 : decode cX12_wander 92 = .ok (.ldc2_w 154, 3) := dgX12_wander_1 (92, (.ldc2_w 154, 3)) (List.mem_of_getElem? (i := 9) rfl)
theorem dX12_wander_95 : decode cX12_wander 95 = .ok (.lrem, 1) := dgX12_wander_1 (95, (.lrem, 1)) (List.mem_of_getElem? (i := 10) rfl)
theorem dX12_wander_96 : decode cX12_wander 96 = .ok (.l2i, 1) := dgX12_wander_1 (96, (.l2i, 1)) (List.mem_of_getElem? (i := 11) rfl)
theorem dX12_wander_97 : decode cX12_wander 97 = .ok (.istore 5, 2) := dgX12_wander_1 (97, (.istore 5, 2)) (List.mem_of_getElem? (i := 12) rfl)
theorem dX12_wander_99 : decode cX12_wander 99 = .ok (.iload 5, 2) := dgX12_wander_1 (99, (.iload 5, 2)) (List.mem_of_getElem? (i := 13) rfl)
theorem dX12_wander_101 : decode cX12_wander 101 = .ok (.iconst 4, 1) := dgX12_wander_1 (101, (.iconst 4, 1)) (List.mem_of_getElem? (i := 14) rfl)
theorem dX12_wander_102 : decode cX12_wander 102 = .ok (.if_icmp .ne 7, 3) := dgX12_wander_1 (102, (.if_icmp .ne 7, 3)) (List.mem_of_getElem? (i := 15) rfl)
theorem dX12_wander_105 : decode cX12_wander 105 = .ok (.iload_n 3, 1) := dgX12_wander_1 (105, (.iload_n 3, 1)) (List.mem_of_getElem? (i := 16) rfl)
theorem dX12_wander_106 : decode cX12_wander 106 = .ok (.goto 9, 3) := dgX12_wander_1 (106, (.goto 9, 3)) (List.mem_of_getElem? (i := 17) rfl)
theorem dX12_wander_109 : decode cX12_wander 109 = .ok (.iload_n 3, 1) := dgX12_wander_1 (109, (.iload_n 3, 1)) (List.mem_of_getElem? (i := 18) rfl)
theorem dX12_wander_110 : decode cX12_wander 110 = .ok (.iload 5, 2) := dgX12_wander_1 (110, (.iload 5, 2)) (List.mem_of_getElem? (i := 19) rfl)
theorem dX12_wander_112 : decode cX12_wander 112 = .ok (.invokestatic 374, 3) := dgX12_wander_1 (112, (.invokestatic 374, 3)) (List.mem_of_getElem? (i := 20) rfl)
theorem dX12_wander_115 : decode cX12_wander 115 = .ok (.istore 6, 2) := dgX12_wander_1 (115, (.istore 6, 2)) (List.mem_of_getElem? (i := 21) rfl)
theorem dX12_wander_117 : decode cX12_wander 117 = .ok (.iload 6, 2) := dgX12_wander_1 (117, (.iload 6, 2)) (List.mem_of_getElem? (i := 22) rfl)
theorem dX12_wander_119 : decode cX12_wander 119 = .ok (.iconst (-1), 1) := dgX12_wander_1 (119, (.iconst (-1), 1)) (List.mem_of_getElem? (i := 23) rfl)
theorem dX12_wander_120 : decode cX12_wander 120 = .ok (.if_icmp .eq 26, 3) := dgX12_wander_1 (120, (.if_icmp .eq 26, 3)) (List.mem_of_getElem? (i := 24) rfl)
theorem dX12_wander_123 : decode cX12_wander 123 = .ok (.aload_n 0, 1) := dgX12_wander_1 (123, (.aload_n 0, 1)) (List.mem_of_getElem? (i := 25) rfl)
theorem dX12_wander_124 : decode cX12_wander 124 = .ok (.iload 6, 2) := dgX12_wander_1 (124, (.iload 6, 2)) (List.mem_of_getElem? (i := 26) rfl)
theorem dX12_wander_126 : decode cX12_wander 126 = .ok (.ifCond .ge 7, 3) := dgX12_wander_1 (126, (.ifCond .ge 7, 3)) (List.mem_of_getElem? (i := 27) rfl)
theorem dX12_wander_133 : decode cX12_wander 133 = .ok (.iload 6, 2) := dgX12_wander_1 (133, (.iload 6, 2)) (List.mem_of_getElem? (i := 30) rfl)
theorem dX12_wander_135 : decode cX12_wander 135 = .ok (.invokevirtual 160, 3) := dgX12_wander_1 (135, (.invokevirtual 160, 3)) (List.mem_of_getElem? (i := 31) rfl)
theorem dX12_wander_138 : decode cX12_wander 138 = .ok (.ifCond .ne 8, 3) := dgX12_wander_1 (138, (.ifCond .ne 8, 3)) (List.mem_of_getElem? (i := 32) rfl)
theorem dX12_wander_141 : decode cX12_wander 141 = .ok (.iload 6, 2) := dgX12_wander_1 (141, (.iload 6, 2)) (List.mem_of_getElem? (i := 33) rfl)
theorem dX12_wander_143 : decode cX12_wander 143 = .ok (.goto 4, 3) := dgX12_wander_1 (143, (.goto 4, 3)) (List.mem_of_getElem? (i := 34) rfl)
theorem dX12_wander_146 : decode cX12_wander 146 = .ok (.iload_n 3, 1) := dgX12_wander_1 (146, (.iload_n 3, 1)) (List.mem_of_getElem? (i := 35) rfl)
theorem dX12_wander_147 : decode cX12_wander 147 = .ok (.istore_n 3, 1) := dgX12_wander_1 (147, (.istore_n 3, 1)) (List.mem_of_getElem? (i := 36) rfl)
theorem dX12_wander_148 : decode cX12_wander 148 = .ok (.aload_n 0, 1) := dgX12_wander_1 (148, (.aload_n 0, 1)) (List.mem_of_getElem? (i := 37) rfl)
theorem dX12_wander_149 : decode cX12_wander 149 = .ok (.getfield 104, 3) := dgX12_wander_1 (149, (.getfield 104, 3)) (List.mem_of_getElem? (i := 38) rfl)
theorem dX12_wander_152 : decode cX12_wander 152 = .ok (.iload 4, 2) := dgX12_wander_1 (152, (.iload 4, 2)) (List.mem_of_getElem? (i := 39) rfl)
theorem dgX12_wander_2 : ∀ r ∈ ([(154, (.iload_n 3, 1)), (155, (.iastore, 1)), (156, (.iinc 4 1, 3)), (159, (.goto (-103), 3)), (162, (.aload_n 0, 1)), (163, (.iconst 1, 1)), (164, (.putfield 478, 3)), (167, (.aload_n 0, 1)), (168, (.invokevirtual 419, 3)), (171, (.iconst 0, 1)), (172, (.istore 4, 2)), (174, (.iconst 0, 1)), (175, (.istore 5, 2)), (177, (.iload 5, 2)), (179, (.bipush 24, 2)), (181, (.if_icmp .ge 40, 3)), (184, (.iload 4, 2)), (186, (.aload_n 0, 1)), (187, (.getfield 85, 3)), (190, (.bipush 64, 2)), (192, (.iload 5, 2)), (194, (.imul, 1)), (195, (.aload_n 0, 1)), (196, (.getfield 104, 3)), (199, (.iload 5, 2)), (201, (.iaload, 1)), (202, (.iadd, 1)), (203, (.baload, 1)), (204, (.ifCond .eq 7, 3)), (207, (.iconst 1, 1)), (208, (.goto 4, 3)), (211, (.iconst 0, 1)), (212, (.iadd, 1)), (213, (.istore 4, 2)), (215, (.iinc 5 1, 3)), (218, (.goto (-41), 3)), (221, (.aload_n 0, 1)), (222, (.iload 4, 2)), (224, (.invokevirtual 125, 3)), (227, (.ireturn, 1))] : List (Nat × (Instr × Nat))), decode cX12_wander r.1 = .ok r.2 := by decide +kernel
theorem dX12_wander_154 : decode cX12_wander 154 = .ok (.iload_n 3, 1) := dgX12_wander_2 (154, (.iload_n 3, 1)) (List.mem_of_getElem? (i := 0) rfl)
theorem dX12_wander_155 : decode cX12_wander 155 = .ok (.iastore, 1) := dgX12_wander_2 (155, (.iastore, 1)) (List.mem_of_getElem? (i := 1) rfl)
theorem dX12_wander_156 : decode cX12_wander 156 = .ok (.iinc 4 1, 3) := dgX12_wander_2 (156, (.iinc 4 1, 3)) (List.mem_of_getElem? (i := 2) rfl)
theorem dX12_wander_159 : decode cX12_wander 159 = .ok (.goto (-103), 3) := dgX12_wander_2 (159, (.goto (-103), 3)) (List.mem_of_getElem? (i := 3) rfl)
theorem dX12_wander_162 : decode cX12_wander 162 = .ok (.aload_n 0, 1) := dgX12_wander_2 (162, (.aload_n 0, 1)) (List.mem_of_getElem? (i := 4) rfl)
theorem dX12_wander_163 : decode cX12_wander 163 = .ok (.iconst 1, 1) := dgX12_wander_2 (163, (.iconst 1, 1)) (List.mem_of_getElem? (i := 5) rfl)
theorem dX12_wander_164 : decode cX12_wander 164 = .ok (.putfield 478, 3) := dgX12_wander_2 (164, (.putfield 478, 3)) (List.mem_of_getElem? (i := 6) rfl)
theorem dX12_wander_167 : decode cX12_wander 167 = .ok (.aload_n 0, 1) := dgX12_wander_2 (167, (.aload_n 0, 1)) (List.mem_of_getElem? (i := 7) rfl)
theorem dX12_wander_168 : decode cX12_wander 168 = .ok (.invokevirtual 419, 3) := dgX12_wander_2 (168, (.invokevirtual 419, 3)) (List.mem_of_getElem? (i := 8) rfl)
theorem dX12_wander_171 : decode cX12_wander 171 = .ok (.iconst 0, 1) := dgX12_wander_2 (171, (.iconst 0, 1)) (List.mem_of_getElem? (i := 9) rfl)
theorem dX12_wander_172 : decode cX12_wander 172 = .ok (.istore 4, 2) := dgX12_wander_2 (172, (.istore 4, 2)) (List.mem_of_getElem? (i := 10) rfl)
theorem dX12_wander_174 : decode cX12_wander 174 = .ok (.iconst 0, 1) := dgX12_wander_2 (174, (.iconst 0, 1)) (List.mem_of_getElem? (i := 11) rfl)
theorem dX12_wander_175 : decode cX12_wander 175 = .ok (.istore 5, 2) := dgX12_wander_2 (175, (.istore 5, 2)) (List.mem_of_getElem? (i := 12) rfl)
theorem dX12_wander_177 : decode cX12_wander 177 = .ok (.iload 5, 2) := dgX12_wander_2 (177, (.iload 5, 2)) (List.mem_of_getElem? (i := 13) rfl)
theorem dX12_wander_179 : decode cX12_wander 179 = .ok (.bipush 24, 2) := dgX12_wander_2 (179, (.bipush 24, 2)) (List.mem_of_getElem? (i := 14) rfl)
theorem dX12_wander_181 : decode cX12_wander 181 = .ok (.if_icmp .ge 40, 3) := dgX12_wander_2 (181, (.if_icmp .ge 40, 3)) (List.mem_of_getElem? (i := 15) rfl)
theorem dX12_wander_184 : decode cX12_wander 184 = .ok (.iload 4, 2) := dgX12_wander_2 (184, (.iload 4, 2)) (List.mem_of_getElem? (i := 16) rfl)
theorem dX12_wander_186 : decode cX12_wander 186 = .ok (.aload_n 0, 1) := dgX12_wander_2 (186, (.aload_n 0, 1)) (List.mem_of_getElem? (i := 17) rfl)
theorem dX12_wander_187 : decode cX12_wander 187 = .ok (.getfield 85, 3) := dgX12_wander_2 (187, (.getfield 85, 3)) (List.mem_of_getElem? (i := 18) rfl)
theorem dX12_wander_190 : decode cX12_wander 190 = .ok (.bipush 64, 2) := dgX12_wander_2 (190, (.bipush 64, 2)) (List.mem_of_getElem? (i := 19) rfl)
theorem dX12_wander_192 : decode cX12_wander 192 = .ok (.iload 5, 2) := dgX12_wander_2 (192, (.iload 5, 2)) (List.mem_of_getElem? (i := 20) rfl)
theorem dX12_wander_194 : decode cX12_wander 194 = .ok (.imul, 1) := dgX12_wander_2 (194, (.imul, 1)) (List.mem_of_getElem? (i := 21) rfl)
theorem dX12_wander_195 : decode cX12_wander 195 = .ok (.aload_n 0, 1) := dgX12_wander_2 (195, (.aload_n 0, 1)) (List.mem_of_getElem? (i := 22) rfl)
theorem dX12_wander_196 : decode cX12_wander 196 = .ok (.getfield 104, 3) := dgX12_wander_2 (196, (.getfield 104, 3)) (List.mem_of_getElem? (i := 23) rfl)
theorem dX12_wander_199 : decode cX12_wander 199 = .ok (.iload 5, 2) := dgX12_wander_2 (199, (.iload 5, 2)) (List.mem_of_getElem? (i := 24) rfl)
theorem dX12_wander_201 : decode cX12_wander 201 = .ok (.iaload, 1) := dgX12_wander_2 (201, (.iaload, 1)) (List.mem_of_getElem? (i := 25) rfl)
theorem dX12_wander_202 : decode cX12_wander 202 = .ok (.iadd, 1) := dgX12_wander_2 (202, (.iadd, 1)) (List.mem_of_getElem? (i := 26) rfl)
theorem dX12_wander_203 : decode cX12_wander 203 = .ok (.baload, 1) := dgX12_wander_2 (203, (.baload, 1)) (List.mem_of_getElem? (i := 27) rfl)
theorem dX12_wander_204 : decode cX12_wander 204 = .ok (.ifCond .eq 7, 3) := dgX12_wander_2 (204, (.ifCond .eq 7, 3)) (List.mem_of_getElem? (i := 28) rfl)
theorem dX12_wander_207 : decode cX12_wander 207 = .ok (.iconst 1, 1) := dgX12_wander_2 (207, (.iconst 1, 1)) (List.mem_of_getElem? (i := 29) rfl)
theorem dX12_wander_208 : decode cX12_wander 208 = .ok (.goto 4, 3) := dgX12_wander_2 (208, (.goto 4, 3)) (List.mem_of_getElem? (i := 30) rfl)
theorem dX12_wander_211 : decode cX12_wander 211 = .ok (.iconst 0, 1) := dgX12_wander_2 (211, (.iconst 0, 1)) (List.mem_of_getElem? (i := 31) rfl)
theorem dX12_wander_212 : decode cX12_wander 212 = .ok (.iadd, 1) := dgX12_wander_2 (212, (.iadd, 1)) (List.mem_of_getElem? (i := 32) rfl)
theorem dX12_wander_213 : decode cX12_wander 213 = .ok (.istore 4, 2) := dgX12_wander_2 (213, (.istore 4, 2)) (List.mem_of_getElem? (i := 33) rfl)
theorem dX12_wander_215 : decode cX12_wander 215 = .ok (.iinc 5 1, 3) := dgX12_wander_2 (215, (.iinc 5 1, 3)) (List.mem_of_getElem? (i := 34) rfl)
theorem dX12_wander_218 : decode cX12_wander 218 = .ok (.goto (-41), 3) := dgX12_wander_2 (218, (.goto (-41), 3)) (List.mem_of_getElem? (i := 35) rfl)
theorem dX12_wander_221 : decode cX12_wander 221 = .ok (.aload_n 0, 1) := dgX12_wander_2 (221, (.aload_n 0, 1)) (List.mem_of_getElem? (i := 36) rfl)
theorem dX12_wander_222 : decode cX12_wander 222 = .ok (.iload 4, 2) := dgX12_wander_2 (222, (.iload 4, 2)) (List.mem_of_getElem? (i := 37) rfl)
theorem dX12_wander_224 : decode cX12_wander 224 = .ok (.invokevirtual 125, 3) := dgX12_wander_2 (224, (.invokevirtual 125, 3)) (List.mem_of_getElem? (i := 38) rfl)
theorem dX12_wander_227 : decode cX12_wander 227 = .ok (.ireturn, 1) := dgX12_wander_2 (227, (.ireturn, 1)) (List.mem_of_getElem? (i := 39) rfl)
theorem fl_X12_469 : Cond.fieldLink RX12 469 "LateGlassModel" "state" "J" ∈ tblG := tg 1252 (by decide +kernel) (by decide +kernel)
theorem kl_X12_472 : Cond.constantLong RX12 472 1103 ∈ tblG := tg 1818 (by decide +kernel) (by decide +kernel)
theorem kl_X12_474 : Cond.constantLong RX12 474 12345 ∈ tblG := tg 1819 (by decide +kernel) (by decide +kernel)
theorem kl_X12_476 : Cond.constantLong RX12 476 1000003 ∈ tblG := tg 1820 (by decide +kernel) (by decide +kernel)
set_option maxHeartbeats 4000000 in
set_option maxRecDepth 100000 in
theorem n_besideW (l : Launch) (G : g5_G) (sz : Nat) (p_0 : Int32) (p_1 : Int32) (h_p_0 : (-1) ≤ p_0.toInt ∧ p_0.toInt ≤ 63) : Met l yX12_beside (wsG yX12_beside cX12_beside 2 (some .int)) ({ frames := 0, cells := 0, slots := 0, locals := 0 }) (va_Pc [.int p_0, .int p_1] (g5_P G [] sz)) (va_Qi (fun (r : Int32) (u : va_W) => (∃ (o_r : Int32), (r = o_r) ∧ (u = []))) (g5_B G (va_A [] sz)) (va_A [] sz)) 0 0 (va_A [] sz) := by
  refine Met.ofW (cc := cX12_beside) (maxL := 2) (ret := (some .int)) (by decide) rfl ?_
  intro p e s m args below meth c s₁ B hml hv
  obtain ⟨rfl, hsz, hP, hK, hD0, hN, hT⟩ := hv
  have hx := B.exec
  have hb := B.bytes
  have hr := B.returns
  have hts : ∀ w ∈ tblG, w.before _ s = true := fun w h => atoms_spec (ws := (wsG yX12_beside cX12_beside 2 (some .int))) B.pre w (List.mem_cons_of_mem _ h)
  have hown : s.vm.findClass RX12 = some m.cls := findClass_of_methodNamed B.named
  have hlocks := B.notSynchronized
  subst hsz
  have hD := hD0.self (sz := s.heap.size)
  generalize hAe : va_A [] s.heap.size = A at hD hT ⊢
  have hA : ∀ q : Nat, s.heap.size ≤ q → A q := fun q h => by rw [← hAe]; exact Or.inr h
  have hS : va_S A s.heap s.heap [] := va_S.rf
  have hP : va_P G.1 vwCl [] s.heap := hP
  have hl := lv_entry ([.int p_0, .int p_1]) (n := 2) (Nat.le_of_ble_eq_true rfl)
  rw [lg_entry_eq]
  generalize (lg_sl ([.int p_0, .int p_1]) ++ List.replicate (2 - (lg_sl ([.int p_0, .int p_1])).length) Slot.unset).toArray = ls at hl ⊢
  have hl : lv_has ls 2 [(0, .int p_0), (1, .int p_1)] := hl
  refine lv_iload_n hx hb dX12_beside_0 rfl (lv_at hl 1 rfl) ?_
  rcases (show p_1.toInt = 0 ∨ p_1.toInt = 1 ∨ p_1.toInt = 2 ∨ p_1.toInt < 0 ∨ p_1.toInt > 2 by omega) with s_1 | s_1 | s_1 | s_1 | s_1
  ·
    have i_1 : p_1.toInt = 0 := by omega
    refine lv_tableIn (tgt := 28) hx hb dX12_beside_1 (by omega) (by omega) (by rw [s_1]; rfl) (by decide) ?_
    refine lv_iload_n hx hb dX12_beside_28 rfl (lv_at hl 0 rfl) ?_
    refine lv_bipush (v := 8) hx hb dX12_beside_29 (by decide) ?_
    refine lv_icmp_lt (tgt := 41) hx hb dX12_beside_31 (by decide) (fun c_2 => ?_) (fun c_2 => ?_)
    ·
      have i_2 : p_0.toInt < 8 := by have z := g5_lt (a := p_0.toInt) (b := 8) (by rfl) (by decide) c_2; omega
      refine lv_iconst (v := (-1)) hx hb dX12_beside_41 (by decide) ?_
      exact W.iret (v := (-1)) hx hb hr (fun t ht hW => ⟨⟨(-1), [], rfl, ⟨(-1), rfl, rfl⟩, by rw [ht]; exact hP.sub [] rfl, hD.sub [] (by decide) rfl⟩, hS.F ht⟩) hS.2.2 dX12_beside_42
    ·
      have i_2 : p_0.toInt ≥ 8 := by have z := g5_ltN (a := p_0.toInt) (b := 8) (by rfl) (by decide) c_2; omega
      refine lv_iload_n hx hb dX12_beside_34 rfl (lv_at hl 0 rfl) ?_
      refine lv_bipush (v := 8) hx hb dX12_beside_35 (by decide) ?_
      refine lv_isub hx hb dX12_beside_37 ?_
      have t_3 : (p_0 - 8).toInt = p_0.toInt - 8 := g5_isub (a := p_0.toInt) (b := 8) (by rfl) (by decide) (by omega) (by omega)
      refine lv_goto (tgt := 42) hx hb dX12_beside_38 (by decide) ?_
      refine W.eq (g2 := F0 m 42 ls [.int (p_0 - 8)]) rfl ?_
      exact W.iret (v := (p_0 - 8)) hx hb hr (fun t ht hW => ⟨⟨(p_0 - 8), [], rfl, ⟨(p_0 - 8), rfl, rfl⟩, by rw [ht]; exact hP.sub [] rfl, hD.sub [] (by decide) rfl⟩, hS.F ht⟩) hS.2.2 dX12_beside_42
  ·
    have i_1 : p_1.toInt = 1 := by omega
    refine lv_tableIn (tgt := 43) hx hb dX12_beside_1 (by omega) (by omega) (by rw [s_1]; rfl) (by decide) ?_
    refine lv_iload_n hx hb dX12_beside_43 rfl (lv_at hl 0 rfl) ?_
    refine lv_bipush (v := 8) hx hb dX12_beside_44 (by decide) ?_
    refine lv_irem hx hb dX12_beside_46 (by decide) ?_
    refine lv_bipush (v := 7) hx hb dX12_beside_47 (by decide) ?_
    refine W.eq (g2 := F0 m 49 ls [.int 7, .int (p_0 - p_0 / 8 * 8)]) rfl ?_
    refine lv_icmp_ge (tgt := 58) hx hb dX12_beside_49 (by decide) (fun c_4 => ?_) (fun c_4 => ?_)
    ·
      have i_4 : (p_0 - p_0 / 8 * 8).toInt ≥ 7 := by have z := g5_ge (a := (p_0 - p_0 / 8 * 8).toInt) (b := 7) (by rfl) (by decide) c_4; omega
      refine lv_iconst (v := (-1)) hx hb dX12_beside_58 (by decide) ?_
      exact W.iret (v := (-1)) hx hb hr (fun t ht hW => ⟨⟨(-1), [], rfl, ⟨(-1), rfl, rfl⟩, by rw [ht]; exact hP.sub [] rfl, hD.sub [] (by decide) rfl⟩, hS.F ht⟩) hS.2.2 dX12_beside_59
    ·
      have i_4 : (p_0 - p_0 / 8 * 8).toInt < 7 := by have z := g5_geN (a := (p_0 - p_0 / 8 * 8).toInt) (b := 7) (by rfl) (by decide) c_4; omega
      refine lv_iload_n hx hb dX12_beside_52 rfl (lv_at hl 0 rfl) ?_
      refine lv_iconst (v := 1) hx hb dX12_beside_53 (by decide) ?_
      refine lv_iadd hx hb dX12_beside_54 ?_
      have t_5 : (p_0 + 1).toInt = p_0.toInt + 1 := g5_iadd (a := p_0.toInt) (b := 1) (by rfl) (by decide) (by omega) (by omega)
      refine lv_goto (tgt := 59) hx hb dX12_beside_55 (by decide) ?_
      refine W.eq (g2 := F0 m 59 ls [.int (p_0 + 1)]) rfl ?_
      exact W.iret (v := (p_0 + 1)) hx hb hr (fun t ht hW => ⟨⟨(p_0 + 1), [], rfl, ⟨(p_0 + 1), rfl, rfl⟩, by rw [ht]; exact hP.sub [] rfl, hD.sub [] (by decide) rfl⟩, hS.F ht⟩) hS.2.2 dX12_beside_59
  ·
    have i_1 : p_1.toInt = 2 := by omega
    refine lv_tableIn (tgt := 60) hx hb dX12_beside_1 (by omega) (by omega) (by rw [s_1]; rfl) (by decide) ?_
    refine lv_iload_n hx hb dX12_beside_60 rfl (lv_at hl 0 rfl) ?_
    refine lv_bipush (v := 56) hx hb dX12_beside_61 (by decide) ?_
    refine lv_icmp_ge (tgt := 73) hx hb dX12_beside_63 (by decide) (fun c_6 => ?_) (fun c_6 => ?_)
    ·
      have i_6 : p_0.toInt ≥ 56 := by have z := g5_ge (a := p_0.toInt) (b := 56) (by rfl) (by decide) c_6; omega
      refine lv_iconst (v := (-1)) hx hb dX12_beside_73 (by decide) ?_
      exact W.iret (v := (-1)) hx hb hr (fun t ht hW => ⟨⟨(-1), [], rfl, ⟨(-1), rfl, rfl⟩, by rw [ht]; exact hP.sub [] rfl, hD.sub [] (by decide) rfl⟩, hS.F ht⟩) hS.2.2 dX12_beside_74
    ·
      have i_6 : p_0.toInt < 56 := by have z := g5_geN (a := p_0.toInt) (b := 56) (by rfl) (by decide) c_6; omega
      refine lv_iload_n hx hb dX12_beside_66 rfl (lv_at hl 0 rfl) ?_
      refine lv_bipush (v := 8) hx hb dX12_beside_67 (by decide) ?_
      refine lv_iadd hx hb dX12_beside_69 ?_
      have t_7 : (p_0 + 8).toInt = p_0.toInt + 8 := g5_iadd (a := p_0.toInt) (b := 8) (by rfl) (by decide) (by omega) (by omega)
      refine lv_goto (tgt := 74) hx hb dX12_beside_70 (by decide) ?_
      refine W.eq (g2 := F0 m 74 ls [.int (p_0 + 8)]) rfl ?_
      exact W.iret (v := (p_0 + 8)) hx hb hr (fun t ht hW => ⟨⟨(p_0 + 8), [], rfl, ⟨(p_0 + 8), rfl, rfl⟩, by rw [ht]; exact hP.sub [] rfl, hD.sub [] (by decide) rfl⟩, hS.F ht⟩) hS.2.2 dX12_beside_74
  ·
    have i_1 : p_1.toInt < 0 := by omega
    refine lv_tableOut (tgt := 75) hx hb dX12_beside_1 (by omega) (by decide) ?_
    refine lv_iload_n hx hb dX12_beside_75 rfl (lv_at hl 0 rfl) ?_
    refine lv_bipush (v := 8) hx hb dX12_beside_76 (by decide) ?_
    refine lv_irem hx hb dX12_beside_78 (by decide) ?_
    refine lv_if_le (tgt := 88) hx hb dX12_beside_79 (by decide) (fun c_8 => ?_) (fun c_8 => ?_)
    ·
      have i_8 : (p_0 - p_0 / 8 * 8).toInt ≤ 0 := by have z := g5_le (a := (p_0 - p_0 / 8 * 8).toInt) (b := 0) (by rfl) (by decide) c_8; omega
      refine lv_iconst (v := (-1)) hx hb dX12_beside_88 (by decide) ?_
      exact W.iret (v := (-1)) hx hb hr (fun t ht hW => ⟨⟨(-1), [], rfl, ⟨(-1), rfl, rfl⟩, by rw [ht]; exact hP.sub [] rfl, hD.sub [] (by decide) rfl⟩, hS.F ht⟩) hS.2.2 dX12_beside_89
    ·
      have i_8 : (p_0 - p_0 / 8 * 8).toInt > 0 := by have z := g5_leN (a := (p_0 - p_0 / 8 * 8).toInt) (b := 0) (by rfl) (by decide) c_8; omega
      refine lv_iload_n hx hb dX12_beside_82 rfl (lv_at hl 0 rfl) ?_
      refine lv_iconst (v := 1) hx hb dX12_beside_83 (by decide) ?_
      refine lv_isub hx hb dX12_beside_84 ?_
      have t_9 : (p_0 - 1).toInt = p_0.toInt - 1 := g5_isub (a := p_0.toInt) (b := 1) (by rfl) (by decide) (by omega) (by omega)
      refine lv_goto (tgt := 89) hx hb dX12_beside_85 (by decide) ?_
      refine W.eq (g2 := F0 m 89 ls [.int (p_0 - 1)]) rfl ?_
      exact W.iret (v := (p_0 - 1)) hx hb hr (fun t ht hW => ⟨⟨(p_0 - 1), [], rfl, ⟨(p_0 - 1), rfl, rfl⟩, by rw [ht]; exact hP.sub [] rfl, hD.sub [] (by decide) rfl⟩, hS.F ht⟩) hS.2.2 dX12_beside_89
  ·
    have i_1 : p_1.toInt > 2 := by omega
    refine lv_tableOut (tgt := 75) hx hb dX12_beside_1 (by omega) (by decide) ?_
    refine lv_iload_n hx hb dX12_beside_75 rfl (lv_at hl 0 rfl) ?_
    refine lv_bipush (v := 8) hx hb dX12_beside_76 (by decide) ?_
    refine lv_irem hx hb dX12_beside_78 (by decide) ?_
    refine lv_if_le (tgt := 88) hx hb dX12_beside_79 (by decide) (fun c_10 => ?_) (fun c_10 => ?_)
    ·
      have i_10 : (p_0 - p_0 / 8 * 8).toInt ≤ 0 := by have z := g5_le (a := (p_0 - p_0 / 8 * 8).toInt) (b := 0) (by rfl) (by decide) c_10; omega
      refine lv_iconst (v := (-1)) hx hb dX12_beside_88 (by decide) ?_
      exact W.iret (v := (-1)) hx hb hr (fun t ht hW => ⟨⟨(-1), [], rfl, ⟨(-1), rfl, rfl⟩, by rw [ht]; exact hP.sub [] rfl, hD.sub [] (by decide) rfl⟩, hS.F ht⟩) hS.2.2 dX12_beside_89
    ·
      have i_10 : (p_0 - p_0 / 8 * 8).toInt > 0 := by have z := g5_leN (a := (p_0 - p_0 / 8 * 8).toInt) (b := 0) (by rfl) (by decide) c_10; omega
      refine lv_iload_n hx hb dX12_beside_82 rfl (lv_at hl 0 rfl) ?_
      refine lv_iconst (v := 1) hx hb dX12_beside_83 (by decide) ?_
      refine lv_isub hx hb dX12_beside_84 ?_
      have t_11 : (p_0 - 1).toInt = p_0.toInt - 1 := g5_isub (a := p_0.toInt) (b := 1) (by rfl) (by decide) (by omega) (by omega)
      refine lv_goto (tgt := 89) hx hb dX12_beside_85 (by decide) ?_
      refine W.eq (g2 := F0 m 89 ls [.int (p_0 - 1)]) rfl ?_
      exact W.iret (v := (p_0 - 1)) hx hb hr (fun t ht hW => ⟨⟨(p_0 - 1), [], rfl, ⟨(p_0 - 1), rfl, rfl⟩, by rw [ht]; exact hP.sub [] rfl, hD.sub [] (by decide) rfl⟩, hS.F ht⟩) hS.2.2 dX12_beside_89
set_option maxHeartbeats 4000000 in
set_option maxRecDepth 100000 in
theorem n_in3 (l : Launch) (G : g5_G) (sz : Nat) (p_x : Int32) (p_l : Int32) (p_h : Int32) : Met l yX12_in (wsG yX12_in cX12_in 6 (some .boolean)) ({ frames := 0, cells := 0, slots := 0, locals := 0 }) (va_Pc [.long p_x.toInt64, .long p_l.toInt64, .long p_h.toInt64] (g5_P G [] sz)) (va_Qi (fun (r : Int32) (u : va_W) => ((p_x.toInt < p_l.toInt ∨ p_h.toInt < p_x.toInt) ∧ (r = 0) ∧ (u = [])) ∨ ((p_l.toInt ≤ p_x.toInt ∧ p_x.toInt ≤ p_h.toInt) ∧ (r = 1) ∧ (u = []))) (g5_B G (va_A [] sz)) (va_A [] sz)) 0 0 (va_A [] sz) := by
  refine Met.ofW (cc := cX12_in) (maxL := 6) (ret := (some .boolean)) (by decide) rfl ?_
  intro p e s m args below meth c s₁ B hml hv
  obtain ⟨rfl, hsz, hP, hK, hD0, hN, hT⟩ := hv
  have hx := B.exec
  have hb := B.bytes
  have hr := B.returns
  have hts : ∀ w ∈ tblG, w.before _ s = true := fun w h => atoms_spec (ws := (wsG yX12_in cX12_in 6 (some .boolean))) B.pre w (List.mem_cons_of_mem _ h)
  have hown : s.vm.findClass RX12 = some m.cls := findClass_of_methodNamed B.named
  have hlocks := B.notSynchronized
  subst hsz
  have hD := hD0.self (sz := s.heap.size)
  generalize hAe : va_A [] s.heap.size = A at hD hT ⊢
  have hA : ∀ q : Nat, s.heap.size ≤ q → A q := fun q h => by rw [← hAe]; exact Or.inr h
  have hS : va_S A s.heap s.heap [] := va_S.rf
  have hP : va_P G.1 vwCl [] s.heap := hP
  have hl := lv_entry ([.long p_x.toInt64, .long p_l.toInt64, .long p_h.toInt64]) (n := 6) (Nat.le_of_ble_eq_true rfl)
  rw [lg_entry_eq]
  generalize (lg_sl ([.long p_x.toInt64, .long p_l.toInt64, .long p_h.toInt64]) ++ List.replicate (6 - (lg_sl ([.long p_x.toInt64, .long p_l.toInt64, .long p_h.toInt64])).length) Slot.unset).toArray = ls at hl ⊢
  have hl : lv_has ls 6 [(0, .long p_x.toInt64), (2, .long p_l.toInt64), (4, .long p_h.toInt64)] := hl
  refine lv_lload_n hx hb dX12_in_0 rfl (lv_at hl 0 rfl) ?_
  refine lv_lload_n hx hb dX12_in_1 rfl (lv_at hl 1 rfl) ?_
  have tl_1 : p_x.toInt64.toInt = p_x.toInt := Int32.toInt_toInt64 _
  have tl_2 : p_l.toInt64.toInt = p_l.toInt := Int32.toInt_toInt64 _
  have tc_3 := g5_cmpI p_x.toInt64 p_l.toInt64
  refine W.lcmp hx hb dX12_in_2 ?_
  refine lv_if_lt (tgt := 17) hx hb dX12_in_3 (by decide) (fun c_4 => ?_) (fun c_4 => ?_)
  ·
    have i_4 : (lg_cmp p_x.toInt64 p_l.toInt64).toInt < 0 := by have z := g5_lt (a := (lg_cmp p_x.toInt64 p_l.toInt64).toInt) (b := 0) (by rfl) (by decide) c_4; omega
    refine lv_iconst (v := 0) hx hb dX12_in_17 (by decide) ?_
    exact W.zret (v := 0) hx hb hr rfl (fun t ht hW => ⟨⟨0, [], rfl, Or.inl (⟨by omega, rfl, rfl⟩), by rw [ht]; exact hP.sub [] rfl, hD.sub [] (by decide) rfl⟩, hS.F ht⟩) hS.2.2 dX12_in_18
  ·
    have i_4 : (lg_cmp p_x.toInt64 p_l.toInt64).toInt ≥ 0 := by have z := g5_ltN (a := (lg_cmp p_x.toInt64 p_l.toInt64).toInt) (b := 0) (by rfl) (by decide) c_4; omega
    refine lv_lload_n hx hb dX12_in_6 rfl (lv_at hl 0 rfl) ?_
    refine lv_lload hx hb dX12_in_7 (lv_at hl 2 rfl) ?_
    have tl_5 : p_x.toInt64.toInt = p_x.toInt := Int32.toInt_toInt64 _
    have tl_6 : p_h.toInt64.toInt = p_h.toInt := Int32.toInt_toInt64 _
    have tc_7 := g5_cmpI p_x.toInt64 p_h.toInt64
    refine W.lcmp hx hb dX12_in_9 ?_
    refine lv_if_gt (tgt := 17) hx hb dX12_in_10 (by decide) (fun c_8 => ?_) (fun c_8 => ?_)
    ·
      have i_8 : (lg_cmp p_x.toInt64 p_h.toInt64).toInt > 0 := by have z := g5_gt (a := (lg_cmp p_x.toInt64 p_h.toInt64).toInt) (b := 0) (by rfl) (by decide) c_8; omega
      refine lv_iconst (v := 0) hx hb dX12_in_17 (by decide) ?_
      exact W.zret (v := 0) hx hb hr rfl (fun t ht hW => ⟨⟨0, [], rfl, Or.inl (⟨by omega, rfl, rfl⟩), by rw [ht]; exact hP.sub [] rfl, hD.sub [] (by decide) rfl⟩, hS.F ht⟩) hS.2.2 dX12_in_18
    ·
      have i_8 : (lg_cmp p_x.toInt64 p_h.toInt64).toInt ≤ 0 := by have z := g5_gtN (a := (lg_cmp p_x.toInt64 p_h.toInt64).toInt) (b := 0) (by rfl) (by decide) c_8; omega
      refine lv_iconst (v := 1) hx hb dX12_in_13 (by decide) ?_
      refine lv_goto (tgt := 18) hx hb dX12_in_14 (by decide) ?_
      exact W.zret (v := 1) hx hb hr rfl (fun t ht hW => ⟨⟨1, [], rfl, Or.inr (⟨by omega, rfl, rfl⟩), by rw [ht]; exact hP.sub [] rfl, hD.sub [] (by decide) rfl⟩, hS.F ht⟩) hS.2.2 dX12_in_18
theorem dgX12_isStep_0 : ∀ r ∈ ([(0, (.iload_n 0, 1)), (1, (.iload_n 1, 1)), (2, (.if_icmp .ne 7, 3)), (5, (.iconst 1, 1)), (6, (.goto 4, 3)), (9, (.iconst 0, 1)), (10, (.istore_n 2, 1)), (11, (.iconst 0, 1)), (12, (.istore_n 3, 1)), (13, (.iload_n 3, 1)), (14, (.iconst 4, 1)), (15, (.if_icmp .ge 28, 3)), (18, (.iload_n 2, 1)), (19, (.ifCond .ne 12, 3)), (22, (.iload_n 0, 1)), (23, (.iload_n 3, 1)), (24, (.invokestatic 374, 3)), (27, (.iload_n 1, 1)), (28, (.if_icmp .ne 7, 3)), (31, (.iconst 1, 1)), (32, (.goto 4, 3)), (35, (.iconst 0, 1)), (36, (.istore_n 2, 1)), (37, (.iinc 3 1, 3)), (40, (.goto (-27), 3)), (43, (.iload_n 2, 1)), (44, (.ireturn, 1))] : List (Nat × (Instr × Nat))), decode cX12_isStep r.1 = .ok r.2 := by decide +kernel
theorem dX12_isStep_0 : decode cX12_isStep 0 = .ok (.iload_n 0, 1) := dgX12_isStep_0 (0, (.iload_n 0, 1)) (List.mem_of_getElem? (i := 0) rfl)
theorem dX12_isStep_1 : decode cX12_isStep 1 = .ok (.iload_n 1, 1) := dgX12_isStep_0 (1, (.iload_n 1, 1)) (List.mem_of_getElem? (i := 1) rfl)
theorem dX12_isStep_2 : decode cX12_isStep 2 = .ok (.if_icmp .ne 7, 3) := dgX12_isStep_0 (2, (.if_icmp .ne 7, 3)) (List.mem_of_getElem? (i := 2) rfl)
theorem dX12_isStep_5 : decode cX12_isStep 5 = .ok (.iconst 1, 1) := dgX12_isStep_0 (5, (.iconst 1, 1)) (List.mem_of_getElem? (i := 3) rfl)
theorem dX12_isStep_6 : decode cX12_isStep 6 = .ok (.goto 4, 3) := dgX12_isStep_0 (6, (.goto 4, 3)) (List.mem_of_getElem? (i := 4) rfl)
theorem dX12_isStep_9 : decode cX12_isStep 9 = .ok (.iconst 0, 1) := dgX12_isStep_0 (9, (.iconst 0, 1)) (List.mem_of_getElem? (i := 5) rfl)
theorem dX12_isStep_10 : decode cX12_isStep 10 = .ok (.istore_n 2, 1) := dgX12_isStep_0 (10, (.istore_n 2, 1)) (List.mem_of_getElem? (i := 6) rfl)
theorem dX12_isStep_11 : decode cX12_isStep 11 = .ok (.iconst 0, 1) := dgX12_isStep_0 (11, (.iconst 0, 1)) (List.mem_of_getElem? (i := 7) rfl)
theorem dX12_isStep_12 : decode cX12_isStep 12 = .ok (.istore_n 3, 1) := dgX12_isStep_0 (12, (.istore_n 3, 1)) (List.mem_of_getElem? (i := 8) rfl)
theorem dX12_isStep_13 : decode cX12_isStep 13 = .ok (.iload_n 3, 1) := dgX12_isStep_0 (13, (.iload_n 3, 1)) (List.mem_of_getElem? (i := 9) rfl)
theorem dX12_isStep_14 : decode cX12_isStep 14 = .ok (.iconst 4, 1) := dgX12_isStep_0 (14, (.iconst 4, 1)) (List.mem_of_getElem? (i := 10) rfl)
theorem dX12_isStep_15 : decode cX12_isStep 15 = .ok (.if_icmp .ge 28, 3) := dgX12_isStep_0 (15, (.if_icmp .ge 28, 3)) (List.mem_of_getElem? (i := 11) rfl)
theorem dX12_isStep_18 : decode cX12_isStep 18 = .ok (.iload_n 2, 1) := dgX12_isStep_0 (18, (.iload_n 2, 1)) (List.mem_of_getElem? (i := 12) rfl)
theorem dX12_isStep_19 : decode cX12_isStep 19 = .ok (.ifCond .ne 12, 3) := dgX12_isStep_0 (19, (.ifCond .ne 12, 3)) (List.mem_of_getElem? (i := 13) rfl)
theorem dX12_isStep_22 : decode cX12_isStep 22 = .ok (.iload_n 0, 1) := dgX12_isStep_0 (22, (.iload_n 0, 1)) (List.mem_of_getElem? (i := 14) rfl)
theorem dX12_isStep_23 : decode cX12_isStep 23 = .ok (.iload_n 3, 1) := dgX12_isStep_0 (23, (.iload_n 3, 1)) (List.mem_of_getElem? (i := 15) rfl)
theorem dX12_isStep_24 : decode cX12_isStep 24 = .ok (.invokestatic 374, 3) := dgX12_isStep_0 (24, (.invokestatic 374, 3)) (List.mem_of_getElem? (i := 16) rfl)
theorem dX12_isStep_27 : decode cX12_isStep 27 = .ok (.iload_n 1, 1) := dgX12_isStep_0 (27, (.iload_n 1, 1)) (List.mem_of_getElem? (i := 17) rfl)
theorem dX12_isStep_28 : decode cX12_isStep 28 = .ok (.if_icmp .ne 7, 3) := dgX12_isStep_0 (28, (.if_icmp .ne 7, 3)) (List.mem_of_getElem? (i := 18) rfl)
theorem dX12_isStep_31 : decode cX12_isStep 31 = .ok (.iconst 1, 1) := dgX12_isStep_0 (31, (.iconst 1, 1)) (List.mem_of_getElem? (i := 19) rfl)
theorem dX12_isStep_32 : decode cX12_isStep 32 = .ok (.goto 4, 3) := dgX12_isStep_0 (32, (.goto 4, 3)) (List.mem_of_getElem? (i := 20) rfl)
theorem dX12_isStep_35 : decode cX12_isStep 35 = .ok (.iconst 0, 1) := dgX12_isStep_0 (35, (.iconst 0, 1)) (List.mem_of_getElem? (i := 21) rfl)
theorem dX12_isStep_36 : decode cX12_isStep 36 = .ok (.istore_n 2, 1) := dgX12_isStep_0 (36, (.istore_n 2, 1)) (List.mem_of_getElem? (i := 22) rfl)
theorem dX12_isStep_37 : decode cX12_isStep 37 = .ok (.iinc 3 1, 3) := dgX12_isStep_0 (37, (.iinc 3 1, 3)) (List.mem_of_getElem? (i := 23) rfl)
theorem dX12_isStep_40 : decode cX12_isStep 40 = .ok (.goto (-27), 3) := dgX12_isStep_0 (40, (.goto (-27), 3)) (List.mem_of_getElem? (i := 24) rfl)
theorem dX12_isStep_43 : decode cX12_isStep 43 = .ok (.iload_n 2, 1) := dgX12_isStep_0 (43, (.iload_n 2, 1)) (List.mem_of_getElem? (i := 25) rfl)
theorem dX12_isStep_44 : decode cX12_isStep 44 = .ok (.ireturn, 1) := dgX12_isStep_0 (44, (.ireturn, 1)) (List.mem_of_getElem? (i := 26) rfl)
set_option maxHeartbeats 4000000 in
set_option maxRecDepth 100000 in
theorem n_isStep (l : Launch) (G : g5_G) (sz : Nat) (p_0 : Int32) (p_1 : Int32) (h_p_0 : (-1) ≤ p_0.toInt ∧ p_0.toInt ≤ 63) (h_p_1 : 0 ≤ p_1.toInt ∧ p_1.toInt ≤ 63) : Met l yX12_isStep (wsG yX12_isStep cX12_isStep 4 (some .boolean)) ({ frames := 1, cells := 0, slots := 0, locals := 21 }) (va_Pc [.int p_0, .int p_1] (g5_P G [] sz)) (va_Qi (fun (r : Int32) (u : va_W) => (∃ (o_r : Int32), (0 ≤ o_r.toInt ∧ o_r.toInt ≤ 1) ∧ (r = o_r) ∧ (u = []))) (g5_B G (va_A [] sz)) (va_A [] sz)) 0 0 (va_A [] sz) := by
  refine Met.ofW (cc := cX12_isStep) (maxL := 4) (ret := (some .boolean)) (by decide +kernel) rfl ?_
  intro p e s m args below meth c s₁ B hml hv
  obtain ⟨rfl, hsz, hP, hK, hD0, hN, hT⟩ := hv
  have hx := B.exec
  have hb := B.bytes
  have hr := B.returns
  have hts : ∀ w ∈ tblG, w.before _ s = true := fun w h => atoms_spec (ws := (wsG yX12_isStep cX12_isStep 4 (some .boolean))) B.pre w (List.mem_cons_of_mem _ h)
  have hown : s.vm.findClass RX12 = some m.cls := findClass_of_methodNamed B.named
  have hlocks := B.notSynchronized
  subst hsz
  have hD := hD0.self (sz := s.heap.size)
  generalize hAe : va_A [] s.heap.size = A at hD hT ⊢
  have hA : ∀ q : Nat, s.heap.size ≤ q → A q := fun q h => by rw [← hAe]; exact Or.inr h
  have hS : va_S A s.heap s.heap [] := va_S.rf
  replace hP : va_P G.1 vwCl [] s.heap := hP
  have hl := lv_entry ([.int p_0, .int p_1]) (n := 4) (Nat.le_of_ble_eq_true rfl)
  rw [lg_entry_eq]
  generalize (lg_sl ([.int p_0, .int p_1]) ++ List.replicate (4 - (lg_sl ([.int p_0, .int p_1])).length) Slot.unset).toArray = ls at hl ⊢
  replace hl : lv_has ls 4 [(0, .int p_0), (1, .int p_1)] := hl
  refine lv_iload_n hx hb dX12_isStep_0 rfl (lv_at hl 0 rfl) ?_
  refine lv_iload_n hx hb dX12_isStep_1 rfl (lv_at hl 1 rfl) ?_
  refine lv_icmp_ne (tgt := 9) hx hb dX12_isStep_2 (by decide +kernel) (fun c_1 => ?_) (fun c_1 => ?_)
  ·
    have n_1 : gNe (p_0.toInt) (p_1.toInt) := g5_ne (a := p_0.toInt) (b := p_1.toInt) rfl rfl c_1
    refine lv_iconst (v := 0) hx hb dX12_isStep_9 (by decide +kernel) ?_
    refine lv_istore_n (lv' := [(2, .int 0), (0, .int p_0), (1, .int p_1)]) hx hb dX12_isStep_10 rfl hl (by decide +kernel) rfl ?_
    clear hl
    intro ls hl
    refine lv_iconst (v := 0) hx hb dX12_isStep_11 (by decide +kernel) ?_
    refine lv_istore_n (lv' := [(3, .int 0), (2, .int 0), (0, .int p_0), (1, .int p_1)]) hx hb dX12_isStep_12 rfl hl (by decide +kernel) rfl ?_
    clear hl
    intro ls hl
    refine g5_loop (α := (Int32) × (Int32)) (fun (q : (Int32) × (Int32)) (ls : Array Slot) (H : Heap) (locs : List Loc) => match q with | (k13_3, k13_2) => lv_has ls 4 [(2, .int k13_2), (3, .int k13_3), (0, .int p_0), (1, .int p_1)] ∧ va_P G.1 vwCl [] H ∧ va_D A [] ∧ va_S A s.heap H locs ∧ (0 ≤ k13_3.toInt ∧ k13_3.toInt ≤ 4) ∧ (0 ≤ k13_2.toInt ∧ k13_2.toInt ≤ 1)) (fun (q : (Int32) × (Int32)) => match q with | (k13_3, k13_2) => Int.toNat (4 - k13_3.toInt)) (0, 0) ⟨lv_sub hl [1, 0, 2, 3] rfl, hP, hD, hS, ⟨by decide, by decide⟩, ⟨by decide, by decide⟩⟩ ?_
    rintro ⟨k13_3, k13_2⟩ ls H locs ⟨hl, hP, hD, hS, (i_2 : 0 ≤ k13_3.toInt ∧ k13_3.toInt ≤ 4), (i_3 : 0 ≤ k13_2.toInt ∧ k13_2.toInt ≤ 1)⟩ ih_13_4
    replace hl : lv_has ls 4 [(2, .int k13_2), (3, .int k13_3), (0, .int p_0), (1, .int p_1)] := hl
    refine g5_rs [] hP hD ?_
    clear hP hD
    intro hP hD
    refine lv_iload_n hx hb dX12_isStep_13 rfl (lv_at hl 1 rfl) ?_
    refine lv_iconst (v := 4) hx hb dX12_isStep_14 (by decide +kernel) ?_
    refine lv_icmp_ge (tgt := 43) hx hb dX12_isStep_15 (by decide +kernel) (fun c_5 => ?_) (fun c_5 => ?_)
    ·
      have i_5 : k13_3.toInt ≥ 4 := g5_ge (a := k13_3.toInt) (b := 4) rfl (by decide +kernel) c_5
      refine lv_iload_n hx hb dX12_isStep_43 rfl (lv_at hl 0 rfl) ?_
      exact W.zret (v := k13_2) hx hb hr (g_nb (by omega) (by omega)) (fun t ht hW => ⟨⟨k13_2, [], rfl, ⟨k13_2, i_3, rfl, rfl⟩, by rw [ht]; exact hP.sub [] rfl, hD.sub [] (by decide +kernel) rfl⟩, hS.F ht⟩) hS.2.2 dX12_isStep_44
    ·
      have i_5 : k13_3.toInt < 4 := g5_geN (a := k13_3.toInt) (b := 4) rfl (by decide +kernel) c_5
      refine lv_iload_n hx hb dX12_isStep_18 rfl (lv_at hl 0 rfl) ?_
      refine lv_if_ne (tgt := 31) hx hb dX12_isStep_19 (by decide +kernel) (fun c_6 => ?_) (fun c_6 => ?_)
      ·
        have n_6 : gNe (k13_2.toInt) (0) := g5_ne (a := k13_2.toInt) (b := 0) rfl (by decide +kernel) c_6
        have i_6 : k13_2.toInt ≥ 1 := by have z := g5_ne (a := k13_2.toInt) (b := 0) (by rfl) (by decide +kernel) c_6; omega
        refine lv_iconst (v := 1) hx hb dX12_isStep_31 (by decide +kernel) ?_
        refine lv_goto (tgt := 36) hx hb dX12_isStep_32 (by decide +kernel) ?_
        refine lv_istore_n (lv' := [(2, .int 1), (3, .int k13_3), (0, .int p_0), (1, .int p_1)]) hx hb dX12_isStep_36 rfl hl (by decide +kernel) rfl ?_
        clear hl
        intro ls hl
        refine lv_iinc (v := (k13_3 + 1)) (lv' := [(3, .int (k13_3 + 1)), (2, .int 1), (0, .int p_0), (1, .int p_1)]) hx hb dX12_isStep_37 hl (k := 1) rfl rfl (by decide +kernel) rfl ?_
        clear hl
        intro ls hl
        have t_7 : (k13_3 + 1).toInt = k13_3.toInt + 1 := g5_iadd (a := k13_3.toInt) (b := 1) rfl (by decide +kernel) (by omega) (by omega)
        refine W.eq (g2 := F0 m 40 ls []) rfl ?_
        refine lv_goto (tgt := 13) hx hb dX12_isStep_40 (by decide +kernel) ?_
        exact ih_13_4 ((k13_3 + 1), 1) ls H locs (show Int.toNat (4 - (k13_3 + 1).toInt) < Int.toNat (4 - k13_3.toInt) from g_up (show k13_3.toInt < (k13_3 + 1).toInt by omega) (show k13_3.toInt < 4 by omega)) ⟨lv_sub hl [1, 0, 2, 3] rfl, hP, hD, hS, ⟨by omega, by omega⟩, ⟨by decide, by decide⟩⟩
      ·
        have i_6 : k13_2.toInt = 0 := g5_neN (a := k13_2.toInt) (b := 0) rfl (by decide +kernel) c_6
        refine lv_iload_n hx hb dX12_isStep_22 rfl (lv_at hl 2 rfl) ?_
        refine lv_iload_n hx hb dX12_isStep_23 rfl (lv_at hl 1 rfl) ?_
        obtain ⟨hPc, hDc, hFc⟩ := g5_sub3 (wc := []) hP hD hS hA [] (by decide +kernel) rfl
        refine va_calli (va_runS (As := [.int p_0, .int k13_3]) (rest := []) ⟨hx, hb, hml, hown, hts⟩ (n_besideW l G H.size p_0 k13_3 h_p_0) (va_cwS 2 hts gS_X12_374 rfl rfl rfl hs_X12_beside ⟨Nat.le_of_ble_eq_true rfl, Nat.le_of_ble_eq_true rfl⟩) (g5_preS hPc hK hDc hN hT hS hFc) rfl rfl hl.1 rfl (lv_room (Nat.le_of_ble_eq_true rfl)) dX12_isStep_24 ⟨Nat.le_of_ble_eq_true rfl, Nat.le_of_ble_eq_true rfl⟩) hS (fun q _ h => hFc q h) hFc (fun r u t H locs ht hvm hw hB hz1 hk1 hS => ?_)
        obtain ⟨hP1, hD1⟩ := hB
        have hP1 := g5_ht ht hP1
        obtain ⟨z8, y9, rfl⟩ := hw
        have hJ9 := g5_same hP hk1
        clear hP hPc hDc hFc ht hvm hz1 hk1 hP1 hD1
        have hP := hJ9
        clear hJ9
        refine g5_ti (v := z8) y9 ?_
        refine lv_iload_n hx hb dX12_isStep_27 rfl (lv_at hl 3 rfl) ?_
        refine W.eq (g2 := F0 m 28 ls [.int p_1, .int z8]) rfl ?_
        refine lv_icmp_ne (tgt := 35) hx hb dX12_isStep_28 (by decide +kernel) (fun c_10 => ?_) (fun c_10 => ?_)
        ·
          have n_10 : gNe (z8.toInt) (p_1.toInt) := g5_ne (a := z8.toInt) (b := p_1.toInt) rfl rfl c_10
          refine lv_iconst (v := 0) hx hb dX12_isStep_35 (by decide +kernel) ?_
          refine lv_istore_n (lv' := [(2, .int 0), (3, .int k13_3), (0, .int p_0), (1, .int p_1)]) hx hb dX12_isStep_36 rfl hl (by decide +kernel) rfl ?_
          clear hl
          intro ls hl
          refine lv_iinc (v := (k13_3 + 1)) (lv' := [(3, .int (k13_3 + 1)), (2, .int 0), (0, .int p_0), (1, .int p_1)]) hx hb dX12_isStep_37 hl (k := 1) rfl rfl (by decide +kernel) rfl ?_
          clear hl
          intro ls hl
          have t_11 : (k13_3 + 1).toInt = k13_3.toInt + 1 := g5_iadd (a := k13_3.toInt) (b := 1) rfl (by decide +kernel) (by omega) (by omega)
          refine lv_goto (tgt := 13) hx hb dX12_isStep_40 (by decide +kernel) ?_
          exact ih_13_4 ((k13_3 + 1), 0) ls H locs (show Int.toNat (4 - (k13_3 + 1).toInt) < Int.toNat (4 - k13_3.toInt) from g_up (show k13_3.toInt < (k13_3 + 1).toInt by omega) (show k13_3.toInt < 4 by omega)) ⟨lv_sub hl [1, 0, 2, 3] rfl, hP, hD, hS, ⟨by omega, by omega⟩, ⟨by decide, by decide⟩⟩
        ·
          have i_10 : z8.toInt = p_1.toInt := g5_neN (a := z8.toInt) (b := p_1.toInt) rfl rfl c_10
          refine lv_iconst (v := 1) hx hb dX12_isStep_31 (by decide +kernel) ?_
          refine lv_goto (tgt := 36) hx hb dX12_isStep_32 (by decide +kernel) ?_
          refine lv_istore_n (lv' := [(2, .int 1), (3, .int k13_3), (0, .int p_0), (1, .int p_1)]) hx hb dX12_isStep_36 rfl hl (by decide +kernel) rfl ?_
          clear hl
          intro ls hl
          refine lv_iinc (v := (k13_3 + 1)) (lv' := [(3, .int (k13_3 + 1)), (2, .int 1), (0, .int p_0), (1, .int p_1)]) hx hb dX12_isStep_37 hl (k := 1) rfl rfl (by decide +kernel) rfl ?_
          clear hl
          intro ls hl
          have t_12 : (k13_3 + 1).toInt = k13_3.toInt + 1 := g5_iadd (a := k13_3.toInt) (b := 1) rfl (by decide +kernel) (by omega) (by omega)
          refine W.eq (g2 := F0 m 40 ls []) rfl ?_
          refine lv_goto (tgt := 13) hx hb dX12_isStep_40 (by decide +kernel) ?_
          exact ih_13_4 ((k13_3 + 1), 1) ls H locs (show Int.toNat (4 - (k13_3 + 1).toInt) < Int.toNat (4 - k13_3.toInt) from g_up (show k13_3.toInt < (k13_3 + 1).toInt by omega) (show k13_3.toInt < 4 by omega)) ⟨lv_sub hl [1, 0, 2, 3] rfl, hP, hD, hS, ⟨by omega, by omega⟩, ⟨by decide, by decide⟩⟩
  ·
    have i_1 : p_0.toInt = p_1.toInt := g5_neN (a := p_0.toInt) (b := p_1.toInt) rfl rfl c_1
    refine lv_iconst (v := 1) hx hb dX12_isStep_5 (by decide +kernel) ?_
    refine lv_goto (tgt := 10) hx hb dX12_isStep_6 (by decide +kernel) ?_
    refine lv_istore_n (lv' := [(2, .int 1), (0, .int p_0), (1, .int p_1)]) hx hb dX12_isStep_10 rfl hl (by decide +kernel) rfl ?_
    clear hl
    intro ls hl
    refine lv_iconst (v := 0) hx hb dX12_isStep_11 (by decide +kernel) ?_
    refine W.eq (g2 := F0 m 12 ls [.int 0]) rfl ?_
    refine lv_istore_n (lv' := [(3, .int 0), (2, .int 1), (0, .int p_0), (1, .int p_1)]) hx hb dX12_isStep_12 rfl hl (by decide +kernel) rfl ?_
    clear hl
    intro ls hl
    refine g5_loop (α := (Int32) × (Int32)) (fun (q : (Int32) × (Int32)) (ls : Array Slot) (H : Heap) (locs : List Loc) => match q with | (k13_3, k13_2) => lv_has ls 4 [(2, .int k13_2), (3, .int k13_3), (0, .int p_0), (1, .int p_1)] ∧ va_P G.1 vwCl [] H ∧ va_D A [] ∧ va_S A s.heap H locs ∧ (0 ≤ k13_3.toInt ∧ k13_3.toInt ≤ 4) ∧ (0 ≤ k13_2.toInt ∧ k13_2.toInt ≤ 1)) (fun (q : (Int32) × (Int32)) => match q with | (k13_3, k13_2) => Int.toNat (4 - k13_3.toInt)) (0, 1) ⟨lv_sub hl [1, 0, 2, 3] rfl, hP, hD, hS, ⟨by decide, by decide⟩, ⟨by decide, by decide⟩⟩ ?_
    rintro ⟨k13_3, k13_2⟩ ls H locs ⟨hl, hP, hD, hS, (i_13 : 0 ≤ k13_3.toInt ∧ k13_3.toInt ≤ 4), (i_14 : 0 ≤ k13_2.toInt ∧ k13_2.toInt ≤ 1)⟩ ih_13_15
    replace hl : lv_has ls 4 [(2, .int k13_2), (3, .int k13_3), (0, .int p_0), (1, .int p_1)] := hl
    refine g5_rs [] hP hD ?_
    clear hP hD
    intro hP hD
    refine lv_iload_n hx hb dX12_isStep_13 rfl (lv_at hl 1 rfl) ?_
    refine lv_iconst (v := 4) hx hb dX12_isStep_14 (by decide +kernel) ?_
    refine lv_icmp_ge (tgt := 43) hx hb dX12_isStep_15 (by decide +kernel) (fun c_16 => ?_) (fun c_16 => ?_)
    ·
      have i_16 : k13_3.toInt ≥ 4 := g5_ge (a := k13_3.toInt) (b := 4) rfl (by decide +kernel) c_16
      refine lv_iload_n hx hb dX12_isStep_43 rfl (lv_at hl 0 rfl) ?_
      exact W.zret (v := k13_2) hx hb hr (g_nb (by omega) (by omega)) (fun t ht hW => ⟨⟨k13_2, [], rfl, ⟨k13_2, i_14, rfl, rfl⟩, by rw [ht]; exact hP.sub [] rfl, hD.sub [] (by decide +kernel) rfl⟩, hS.F ht⟩) hS.2.2 dX12_isStep_44
    ·
      have i_16 : k13_3.toInt < 4 := g5_geN (a := k13_3.toInt) (b := 4) rfl (by decide +kernel) c_16
      refine lv_iload_n hx hb dX12_isStep_18 rfl (lv_at hl 0 rfl) ?_
      refine lv_if_ne (tgt := 31) hx hb dX12_isStep_19 (by decide +kernel) (fun c_17 => ?_) (fun c_17 => ?_)
      ·
        have n_17 : gNe (k13_2.toInt) (0) := g5_ne (a := k13_2.toInt) (b := 0) rfl (by decide +kernel) c_17
        have i_17 : k13_2.toInt ≥ 1 := by have z := g5_ne (a := k13_2.toInt) (b := 0) (by rfl) (by decide +kernel) c_17; omega
        refine lv_iconst (v := 1) hx hb dX12_isStep_31 (by decide +kernel) ?_
        refine lv_goto (tgt := 36) hx hb dX12_isStep_32 (by decide +kernel) ?_
        refine lv_istore_n (lv' := [(2, .int 1), (3, .int k13_3), (0, .int p_0), (1, .int p_1)]) hx hb dX12_isStep_36 rfl hl (by decide +kernel) rfl ?_
        clear hl
        intro ls hl
        refine lv_iinc (v := (k13_3 + 1)) (lv' := [(3, .int (k13_3 + 1)), (2, .int 1), (0, .int p_0), (1, .int p_1)]) hx hb dX12_isStep_37 hl (k := 1) rfl rfl (by decide +kernel) rfl ?_
        clear hl
        intro ls hl
        have t_18 : (k13_3 + 1).toInt = k13_3.toInt + 1 := g5_iadd (a := k13_3.toInt) (b := 1) rfl (by decide +kernel) (by omega) (by omega)
        refine W.eq (g2 := F0 m 40 ls []) rfl ?_
        refine lv_goto (tgt := 13) hx hb dX12_isStep_40 (by decide +kernel) ?_
        exact ih_13_15 ((k13_3 + 1), 1) ls H locs (show Int.toNat (4 - (k13_3 + 1).toInt) < Int.toNat (4 - k13_3.toInt) from g_up (show k13_3.toInt < (k13_3 + 1).toInt by omega) (show k13_3.toInt < 4 by omega)) ⟨lv_sub hl [1, 0, 2, 3] rfl, hP, hD, hS, ⟨by omega, by omega⟩, ⟨by decide, by decide⟩⟩
      ·
        have i_17 : k13_2.toInt = 0 := g5_neN (a := k13_2.toInt) (b := 0) rfl (by decide +kernel) c_17
        refine lv_iload_n hx hb dX12_isStep_22 rfl (lv_at hl 2 rfl) ?_
        refine lv_iload_n hx hb dX12_isStep_23 rfl (lv_at hl 1 rfl) ?_
        obtain ⟨hPc, hDc, hFc⟩ := g5_sub3 (wc := []) hP hD hS hA [] (by decide +kernel) rfl
        refine va_calli (va_runS (As := [.int p_0, .int k13_3]) (rest := []) ⟨hx, hb, hml, hown, hts⟩ (n_beside l G H.size p_0 k13_3 ⟨by omega, by omega⟩) (va_cwS 2 hts gS_X12_374 rfl rfl rfl hs_X12_beside ⟨Nat.le_of_ble_eq_true rfl, Nat.le_of_ble_eq_true rfl⟩) (g5_preS hPc hK hDc hN hT hS hFc) rfl rfl hl.1 rfl (lv_room (Nat.le_of_ble_eq_true rfl)) dX12_isStep_24 ⟨Nat.le_of_ble_eq_true rfl, Nat.le_of_ble_eq_true rfl⟩) hS (fun q _ h => hFc q h) hFc (fun r u t H locs ht hvm hw hB hz1 hk1 hS => ?_)
        obtain ⟨hP1, hD1⟩ := hB
        have hP1 := g5_ht ht hP1
        obtain ⟨z20, (i_19 : -1 ≤ z20.toInt ∧ z20.toInt ≤ 63), y21, rfl⟩ := hw
        have hJ9 := g5_same hP hk1
        clear hP hPc hDc hFc ht hvm hz1 hk1 hP1 hD1
        have hP := hJ9
        clear hJ9
        refine g5_ti (v := z20) y21 ?_
        refine lv_iload_n hx hb dX12_isStep_27 rfl (lv_at hl 3 rfl) ?_
        refine W.eq (g2 := F0 m 28 ls [.int p_1, .int z20]) rfl ?_
        refine lv_icmp_ne (tgt := 35) hx hb dX12_isStep_28 (by decide +kernel) (fun c_22 => ?_) (fun c_22 => ?_)
        ·
          have n_22 : gNe (z20.toInt) (p_1.toInt) := g5_ne (a := z20.toInt) (b := p_1.toInt) rfl rfl c_22
          refine lv_iconst (v := 0) hx hb dX12_isStep_35 (by decide +kernel) ?_
          refine lv_istore_n (lv' := [(2, .int 0), (3, .int k13_3), (0, .int p_0), (1, .int p_1)]) hx hb dX12_isStep_36 rfl hl (by decide +kernel) rfl ?_
          clear hl
          intro ls hl
          refine lv_iinc (v := (k13_3 + 1)) (lv' := [(3, .int (k13_3 + 1)), (2, .int 0), (0, .int p_0), (1, .int p_1)]) hx hb dX12_isStep_37 hl (k := 1) rfl rfl (by decide +kernel) rfl ?_
          clear hl
          intro ls hl
          have t_23 : (k13_3 + 1).toInt = k13_3.toInt + 1 := g5_iadd (a := k13_3.toInt) (b := 1) rfl (by decide +kernel) (by omega) (by omega)
          refine lv_goto (tgt := 13) hx hb dX12_isStep_40 (by decide +kernel) ?_
          exact ih_13_15 ((k13_3 + 1), 0) ls H locs (show Int.toNat (4 - (k13_3 + 1).toInt) < Int.toNat (4 - k13_3.toInt) from g_up (show k13_3.toInt < (k13_3 + 1).toInt by omega) (show k13_3.toInt < 4 by omega)) ⟨lv_sub hl [1, 0, 2, 3] rfl, hP, hD, hS, ⟨by omega, by omega⟩, ⟨by decide, by decide⟩⟩
        ·
          have i_22 : z20.toInt = p_1.toInt := g5_neN (a := z20.toInt) (b := p_1.toInt) rfl rfl c_22
          refine lv_iconst (v := 1) hx hb dX12_isStep_31 (by decide +kernel) ?_
          refine lv_goto (tgt := 36) hx hb dX12_isStep_32 (by decide +kernel) ?_
          refine lv_istore_n (lv' := [(2, .int 1), (3, .int k13_3), (0, .int p_0), (1, .int p_1)]) hx hb dX12_isStep_36 rfl hl (by decide +kernel) rfl ?_
          clear hl
          intro ls hl
          refine lv_iinc (v := (k13_3 + 1)) (lv' := [(3, .int (k13_3 + 1)), (2, .int 1), (0, .int p_0), (1, .int p_1)]) hx hb dX12_isStep_37 hl (k := 1) rfl rfl (by decide +kernel) rfl ?_
          clear hl
          intro ls hl
          have t_24 : (k13_3 + 1).toInt = k13_3.toInt + 1 := g5_iadd (a := k13_3.toInt) (b := 1) rfl (by decide +kernel) (by omega) (by omega)
          refine W.eq (g2 := F0 m 40 ls []) rfl ?_
          refine lv_goto (tgt := 13) hx hb dX12_isStep_40 (by decide +kernel) ?_
          exact ih_13_15 ((k13_3 + 1), 1) ls H locs (show Int.toNat (4 - (k13_3 + 1).toInt) < Int.toNat (4 - k13_3.toInt) from g_up (show k13_3.toInt < (k13_3 + 1).toInt by omega) (show k13_3.toInt < 4 by omega)) ⟨lv_sub hl [1, 0, 2, 3] rfl, hP, hD, hS, ⟨by omega, by omega⟩, ⟨by decide, by decide⟩⟩
theorem dgX12_findSoonest_0 : ∀ r ∈ ([(0, (.iconst 0, 1)), (1, (.istore 4, 2)), (3, (.iload 4, 2)), (5, (.sipush 1536, 3)), (8, (.if_icmp .ge 48, 3)), (11, (.aload_n 0, 1)), (12, (.getfield 98, 3)), (15, (.iload 4, 2)), (17, (.iload 4, 2)), (19, (.bipush 64, 2)), (21, (.iload_n 3, 1)), (22, (.imul, 1)), (23, (.iload_n 2, 1)), (24, (.iadd, 1)), (25, (.if_icmp .ne 15, 3)), (28, (.aload_n 0, 1)), (29, (.iload_n 2, 1)), (30, (.invokevirtual 160, 3)), (33, (.ifCond .ne 7, 3)), (36, (.iconst 1, 1)), (37, (.goto 4, 3)), (40, (.iconst 0, 1)), (41, (.bastore, 1)), (42, (.aload_n 0, 1)), (43, (.getfield 101, 3)), (46, (.iload 4, 2)), (48, (.iconst 0, 1)), (49, (.bastore, 1)), (50, (.iinc 4 1, 3)), (53, (.goto (-50), 3)), (56, (.iconst (-1), 1)), (57, (.istore 4, 2)), (59, (.iload_n 3, 1)), (60, (.istore 5, 2)), (62, (.iload 5, 2)), (64, (.bipush 24, 2)), (66, (.if_icmp .ge 162, 3)), (69, (.iload 4, 2)), (71, (.iconst (-1), 1)), (72, (.if_icmp .ne 156, 3))] : List (Nat × (Instr × Nat))), decode cX12_findSoonest r.1 = .ok r.2 := by decide +kernel
theorem dX12_findSoonest_0 : decode cX12_findSoonest 0 = .ok (.iconst 0, 1) := dgX12_findSoonest_0 (0, (.iconst 0, 1)) (List.mem_of_getElem? (i := 0) rfl)
theorem dX12_findSoonest_1 : decode cX12_findSoonest 1 = .ok (.istore 4, 2) := dgX12_findSoonest_0 (1, (.istore 4, 2)) (List.mem_of_getElem? (i := 1) rfl)
theorem dX12_findSoonest_3 : decode cX12_findSoonest 3 = .ok (.iload 4, 2) := dgX12_findSoonest_0 (3, (.iload 4, 2)) (List.mem_of_getElem? (i := 2) rfl)
theorem dX12_findSoonest_5 : decode cX12_findSoonest 5 = .ok (.sipush 1536, 3) := dgX12_findSoonest_0 (5, (.sipush 1536, 3)) (List.mem_of_getElem? (i := 3) rfl)
theorem dX12_findSoonest_8 : decode cX12_findSoonest 8 = .ok (.if_icmp .ge 48, 3) := dgX12_findSoonest_0 (8, (.if_icmp .ge 48, 3)) (List.mem_of_getElem? (i := 4) rfl)
theorem dX12_findSoonest_11 : decode cX12_findSoonest 11 = .ok (.aload_n 0, 1) := dgX12_findSoonest_0 (11, (.aload_n 0, 1)) (List.mem_of_getElem? (i := 5) rfl)
theorem dX12_findSoonest_12 : decode cX12_findSoonest 12 = .ok (.getfield 98, 3) := dgX12_findSoonest_0 (12, (.getfield 98, 3)) (List.mem_of_getElem? (i := 6) rfl)
theorem dX12_findSoonest_15 : decode cX12_findSoonest 15 = .ok (.iload 4, 2) := dgX12_findSoonest_0 (15, (.iload 4, 2)) (List.mem_of_getElem? (i := 7) rfl)
theorem dX12_findSoonest_17 : decode cX12_findSoonest 17 = .ok (.iload 4, 2) := dgX12_findSoonest_0 (17, (.iload 4, 2)) (List.mem_of_getElem? (i := 8) rfl)
theorem dX12_findSoonest_19 : decode cX12_findSoonest 19 = .ok (.bipush 64, 2) := dgX12_findSoonest_0 (19, (.bipush 64, 2)) (List.mem_of_getElem? (i := 9) rfl)
theorem dX12_findSoonest_21 : decode cX12_findSoonest 21 = .ok (.iload_n 3, 1) := dgX12_findSoonest_0 (21, (.iload_n 3, 1)) (List.mem_of_getElem? (i := 10) rfl)
theorem dX12_findSoonest_22 : decode cX12_findSoonest 22 = .ok (.imul, 1) := dgX12_findSoonest_0 (22, (.imul, 1)) (List.mem_of_getElem? (i := 11) rfl)
theorem dX12_findSoonest_23 : decode cX12_findSoonest 23 = .ok (.iload_n 2, 1) := dgX12_findSoonest_0 (23, (.iload_n 2, 1)) (List.mem_of_getElem? (i := 12) rfl)
theorem dX12_findSoonest_24 : decode cX12_findSoonest 24 = .ok (.iadd, 1) := dgX12_findSoonest_0 (24, (.iadd, 1)) (List.mem_of_getElem? (i := 13) rfl)
theorem dX12_findSoonest_25 : decode cX12_findSoonest 25 = .ok (.if_icmp .ne 15, 3) := dgX12_findSoonest_0 (25, (.if_icmp .ne 15, 3)) (List.mem_of_getElem? (i := 14) rfl)
theorem dX12_findSoonest_28 : decode cX12_findSoonest 28 = .ok (.aload_n 0, 1) := dgX12_findSoonest_0 (28, (.aload_n 0, 1)) (List.mem_of_getElem? (i := 15) rfl)
theorem dX12_findSoonest_29 : decode cX12_findSoonest 29 = .ok (.iload_n 2, 1) := dgX12_findSoonest_0 (29, (.iload_n 2, 1)) (List.mem_of_getElem? (i := 16) rfl)
theorem dX12_findSoonest_30 : decode cX12_findSoonest 30 = .ok (.invokevirtual 160, 3) := dgX12_findSoonest_0 (30, (.invokevirtual 160, 3)) (List.mem_of_getElem? (i := 17) rfl)
theorem dX12_findSoonest_33 : decode cX12_findSoonest 33 = .ok (.ifCond .ne 7, 3) := dgX12_findSoonest_0 (33, (.ifCond .ne 7, 3)) (List.mem_of_getElem? (i := 18) rfl)
theorem dX12_findSoonest_36 : decode cX12_findSoonest 36 = .ok (.iconst 1, 1) := dgX12_findSoonest_0 (36, (.iconst 1, 1)) (List.mem_of_getElem? (i := 19) rfl)
theorem dX12_findSoonest_37 : decode cX12_findSoonest 37 = .ok (.goto 4, 3) := dgX12_findSoonest_0 (37, (.goto 4, 3)) (List.mem_of_getElem? (i := 20) rfl)
theorem dX12_findSoonest_40 : decode cX12_findSoonest 40 = .ok (.iconst 0, 1) := dgX12_findSoonest_0 (40, (.iconst 0, 1)) (List.mem_of_getElem? (i := 21) rfl)
theorem dX12_findSoonest_41 : decode cX12_findSoonest 41 = .ok (.bastore, 1) := dgX12_findSoonest_0 (41, (.bastore, 1)) (List.mem_of_getElem? (i := 22) rfl)
theorem dX12_findSoonest_42 : decode cX12_findSoonest 42 = .ok (.aload_n 0, 1) := dgX12_findSoonest_0 (42, (.aload_n 0, 1)) (List.mem_of_getElem? (i := 23) rfl)
theorem dX12_findSoonest_43 : decode cX12_findSoonest 43 = .ok (.getfield 101, 3) := dgX12_findSoonest_0 (43, (.getfield 101, 3)) (List.mem_of_getElem? (i := 24) rfl)
theorem dX12_findSoonest_46 : decode cX12_findSoonest 46 = .ok (.iload 4, 2) := dgX12_findSoonest_0 (46, (.iload 4, 2)) (List.mem_of_getElem? (i := 25) rfl)
theorem dX12_findSoonest_48 : decode cX12_findSoonest 48 = .ok (.iconst 0, 1) := dgX12_findSoonest_0 (48, (.iconst 0, 1)) (List.mem_of_getElem? (i := 26) rfl)
theorem dX12_findSoonest_49 : decode cX12_findSoonest 49 = .ok (.bastore, 1) := dgX12_findSoonest_0 (49, (.bastore, 1)) (List.mem_of_getElem? (i := 27) rfl)
theorem dX12_findSoonest_50 : decode cX12_findSoonest 50 = .ok (.iinc 4 1, 3) := dgX12_findSoonest_0 (50, (.iinc 4 1, 3)) (List.mem_of_getElem? (i := 28) rfl)
theorem dX12_findSoonest_53 : decode cX12_findSoonest 53 = .ok (.goto (-50), 3) := dgX12_findSoonest_0 (53, (.goto (-50), 3)) (List.mem_of_getElem? (i := 29) rfl)
theorem dX12_findSoonest_56 : decode cX12_findSoonest 56 = .ok (.iconst (-1), 1) := dgX12_findSoonest_0 (56, (.iconst (-1), 1)) (List.mem_of_getElem? (i := 30) rfl)
theorem dX12_findSoonest_57 : decode cX12_findSoonest 57 = .ok (.istore 4, 2) := dgX12_findSoonest_0 (57, (.istore 4, 2)) (List.mem_of_getElem? (i := 31) rfl)
theorem dX12_findSoonest_59 : decode cX12_findSoonest 59 = .ok (.iload_n 3, 1) := dgX12_findSoonest_0 (59, (.iload_n 3, 1)) (List.mem_of_getElem? (i := 32) rfl)
theorem dX12_findSoonest_60 : decode cX12_findSoonest 60 = .ok (.istore 5, 2) := dgX12_findSoonest_0 (60, (.istore 5, 2)) (List.mem_of_getElem? (i := 33) rfl)
theorem dX12_findSoonest_62 : decode cX12_findSoonest 62 = .ok (.iload 5, 2) := dgX12_findSoonest_0 (62, (.iload 5, 2)) (List.mem_of_getElem? (i := 34) rfl)
theorem dX12_findSoonest_64 : decode cX12_findSoonest 64 = .ok (.bipush 24, 2) := dgX12_findSoonest_0 (64, (.bipush 24, 2)) (List.mem_of_getElem? (i := 35) rfl)
theorem dX12_findSoonest_66 : decode cX12_findSoonest 66 = .ok (.if_icmp .ge 162, 3) := dgX12_findSoonest_0 (66, (.if_icmp .ge 162, 3)) (List.mem_of_getElem? (i := 36) rfl)
theorem dX12_findSoonest_69 : decode cX12_findSoonest 69 = .ok (.iload 4, 2) := dgX12_findSoonest_0 (69, (.iload 4, 2)) (List.mem_of_getElem? (i := 37) rfl)
theorem dX12_findSoonest_71 : decode cX12_findSoonest 71 = .ok (.iconst (-1), 1) := dgX12_findSoonest_0 (71, (.iconst (-1), 1)) (List.mem_of_getElem? (i := 38) rfl)
theorem dX12_findSoonest_72 : decode cX12_findSoonest 72 = .ok (.if_icmp .ne 156, 3) := dgX12_findSoonest_0 (72, (.if_icmp .ne 156, 3)) (List.mem_of_getElem? (i := 39) rfl)
theorem dgX12_findSoonest_1 : ∀ r ∈ ([(75, (.iconst 0, 1)), (76, (.istore 6, 2)), (78, (.iload 6, 2)), (80, (.bipush 64, 2)), (82, (.if_icmp .ge 140, 3)), (85, (.aload_n 0, 1)), (86, (.getfield 98, 3)), (89, (.bipush 64, 2)), (91, (.iload 5, 2)), (93, (.imul, 1)), (94, (.iload 6, 2)), (96, (.iadd, 1)), (97, (.baload, 1)), (98, (.ifCond .eq 118, 3)), (101, (.aload_n 0, 1)), (102, (.iload 6, 2)), (104, (.iload 5, 2)), (106, (.invokevirtual 404, 3)), (109, (.iload_n 1, 1)), (110, (.invokestatic 387, 3)), (113, (.ifCond .eq 21, 3)), (116, (.aload_n 0, 1)), (117, (.getfield 101, 3)), (120, (.bipush 64, 2)), (122, (.iload 5, 2)), (124, (.imul, 1)), (125, (.iload 6, 2)), (127, (.iadd, 1)), (128, (.iconst 1, 1)), (129, (.bastore, 1)), (130, (.iload 5, 2)), (132, (.istore 4, 2)), (134, (.iconst 0, 1)), (135, (.istore 7, 2)), (137, (.iload 7, 2)), (139, (.iconst 5, 1)), (140, (.if_icmp .ge 76, 3)), (143, (.iload 5, 2)), (145, (.bipush 23, 2)), (147, (.if_icmp .ge 69, 3))] : List (Nat × (Instr × Nat))), decode cX12_findSoonest r.1 = .ok r.2 := by decide +kernel
theorem dX12_findSoonest_75 : decode cX12_findSoonest 75 = .ok (.iconst 0, 1) := dgX12_findSoonest_1 (75, (.iconst 0, 1)) (List.mem_of_getElem? (i := 0) rfl)
theorem dX12_findSoonest_76 : decode cX12_findSoonest 76 = .ok (.istore 6, 2) := dgX12_findSoonest_1 (76, (.istore 6, 2)) (List.mem_of_getElem? (i := 1) rfl)
theorem dX12_findSoonest_78 : decode cX12_findSoonest 78 = .ok (.iload 6, 2) := dgX12_findSoonest_1 (78, (.iload 6, 2)) (List.mem_of_getElem? (i := 2) rfl)
theorem dX12_findSoonest_80 : decode cX12_findSoonest 80 = .ok (.bipush 64, 2) := dgX12_findSoonest_1 (80, (.bipush 64, 2)) (List.mem_of_getElem? (i := 3) rfl)
theorem dX12_findSoonest_82 : decode cX12_findSoonest 82 = .ok (.if_icmp .ge 140, 3) := dgX12_findSoonest_1 (82, (.if_icmp .ge 140, 3)) (List.mem_of_getElem? (i := 4) rfl)
theorem dX12_findSoonest_85 : decode cX12_findSoonest 85 = .ok (.aload_n 0, 1) := dgX12_findSoonest_1 (85, (.aload_n 0, 1)) (List.mem_of_getElem? (i := 5) rfl)
theorem dX12_findSoonest_86 : decode cX12_findSoonest 86 = .ok (.getfield 98, 3) := dgX12_findSoonest_1 (86, (.getfield 98, 3)) (List.mem_of_getElem? (i := 6) rfl)
theorem dX12_findSoonest_89 : decode cX12_findSoonest 89 = .ok (.bipush 64, 2) := dgX12_findSoonest_1 (89, (.bipush 64, 2)) (List.mem_of_getElem? (i := 7) rfl)
theorem dX12_findSoonest_91 : decode cX12_findSoonest 91 = .ok (.iload 5, 2) := dgX12_findSoonest_1 (91, (.iload 5, 2)) (List.mem_of_getElem? (i := 8) rfl)
theorem dX12_findSoonest_93 : decode cX12_findSoonest 93 = .ok (.imul, 1) := dgX12_findSoonest_1 (93, (.imul, 1)) (List.mem_of_getElem? (i := 9) rfl)
theorem dX12_findSoonest_94 : decode cX12_findSoonest 94 = .ok (.iload 6, 2) := dgX12_findSoonest_1 (94, (.iload 6, 2)) (List.mem_of_getElem? (i := 10) rfl)
theorem dX12_findSoonest_96 : decode cX12_findSoonest 96 = .ok (.iadd, 1) := dgX12_findSoonest_1 (96, (.iadd, 1)) (List.mem_of_getElem? (i := 11) rfl)
theorem dX12_findSoonest_97 : decode cX12_findSoonest 97 = .ok (.baload, 1) := dgX12_findSoonest_1 (97, (.baload, 1)) (List.mem_of_getElem? (i := 12) rfl)
theorem dX12_findSoonest_98 : decode cX12_findSoonest 98 = .ok (.ifCond .eq 118, 3) := dgX12_findSoonest_1 (98, (.ifCond .eq 118, 3)) (List.mem_of_getElem? (i := 13) rfl)
theorem dX12_findSoonest_101 : decode cX12_findSoonest 101 = .ok (.aload_n 0, 1) := dgX12_findSoonest_1 (101, (.aload_n 0, 1)) (List.mem_of_getElem? (i := 14) rfl)
theorem dX12_findSoonest_102 : decode cX12_findSoonest 102 = .ok (.iload 6, 2) := dgX12_findSoonest_1 (102, (.iload 6, 2)) (List.mem_of_getElem? (i := 15) rfl)
theorem dX12_findSoonest_104 : decode cX12_findSoonest 104 = .ok (.iload 5, 2) := dgX12_findSoonest_1 (104, (.iload 5, 2)) (List.mem_of_getElem? (i := 16) rfl)
theorem dX12_findSoonest_106 : decode cX12_findSoonest 106 = .ok (.invokevirtual 404, 3) := dgX12_findSoonest_1 (106, (.invokevirtual 404, 3)) (List.mem_of_getElem? (i := 17) rfl)
theorem dX12_findSoonest_109 : decode cX12_findSoonest 109 = .ok (.iload_n 1, 1) := dgX12_findSoonest_1 (109, (.iload_n 1, 1)) (List.mem_of_getElem? (i := 18) rfl)
theorem dX12_findSoonest_110 : decode cX12_findSoonest 110 = .ok (.invokestatic 387, 3) := dgX12_findSoonest_1 (110, (.invokestatic 387, 3)) (List.mem_of_getElem? (i := 19) rfl)
theorem dX12_findSoonest_113 : decode cX12_findSoonest 113 = .ok (.ifCond .eq 21, 3) := dgX12_findSoonest_1 (113, (.ifCond .eq 21, 3)) (List.mem_of_getElem? (i := 20) rfl)
theorem dX12_findSoonest_116 : decode cX12_findSoonest 116 = .ok (.aload_n 0, 1) := dgX12_findSoonest_1 (116, (.aload_n 0, 1)) (List.mem_of_getElem? (i := 21) rfl)
theorem dX12_findSoonest_117 : decode cX12_findSoonest 117 = .ok (.getfield 101, 3) := dgX12_findSoonest_1 (117, (.getfield 101, 3)) (List.mem_of_getElem? (i := 22) rfl)
theorem dX12_findSoonest_120 : decode cX12_findSoonest 120 = .ok (.bipush 64, 2) := dgX12_findSoonest_1 (120, (.bipush 64, 2)) (List.mem_of_getElem? (i := 23) rfl)
theorem dX12_findSoonest_122 : decode cX12_findSoonest 122 = .ok (.iload 5, 2) := dgX12_findSoonest_1 (122, (.iload 5, 2)) (List.mem_of_getElem? (i := 24) rfl)
theorem dX12_findSoonest_124 : decode cX12_findSoonest 124 = .ok (.imul, 1) := dgX12_findSoonest_1 (124, (.imul, 1)) (List.mem_of_getElem? (i := 25) rfl)
theorem dX12_findSoonest_125 : decode cX12_findSoonest 125 = .ok (.iload 6, 2) := dgX12_findSoonest_1 (125, (.iload 6, 2)) (List.mem_of_getElem? (i := 26) rfl)
theorem dX12_findSoonest_127 : decode cX12_findSoonest 127 = .ok (.iadd, 1) := dgX12_findSoonest_1 (127, (.iadd, 1)) (List.mem_of_getElem? (i := 27) rfl)
theorem dX12_findSoonest_128 : decode cX12_findSoonest 128 = .ok (.iconst 1, 1) := dgX12_findSoonest_1 (128, (.iconst 1, 1)) (List.mem_of_getElem? (i := 28) rfl)
theorem dX12_findSoonest_129 : decode cX12_findSoonest 129 = .ok (.bastore, 1) := dgX12_findSoonest_1 (129, (.bastore, 1)) (List.mem_of_getElem? (i := 29) rfl)
theorem dX12_findSoonest_130 : decode cX12_findSoonest 130 = .ok (.iload 5, 2) := dgX12_findSoonest_1 (130, (.iload 5, 2)) (List.mem_of_getElem? (i := 30) rfl)
theorem dX12_findSoonest_132 : decode cX12_findSoonest 132 = .ok (.istore 4, 2) := dgX12_findSoonest_1 (132, (.istore 4, 2)) (List.mem_of_getElem? (i := 31) rfl)
theorem dX12_findSoonest_134 : decode cX12_findSoonest 134 = .ok (.iconst 0, 1) := dgX12_findSoonest_1 (134, (.iconst 0, 1)) (List.mem_of_getElem? (i := 32) rfl)
theorem dX12_findSoonest_135 : decode cX12_findSoonest 135 = .ok (.istore 7, 2) := dgX12_findSoonest_1 (135, (.istore 7, 2)) (List.mem_of_getElem? (i := 33) rfl)
theorem dX12_findSoonest_137 : decode cX12_findSoonest 137 = .ok (.iload 7, 2) := dgX12_findSoonest_1 (137, (.iload 7, 2)) (List.mem_of_getElem? (i := 34) rfl)
theorem dX12_findSoonest_139 : decode cX12_findSoonest 139 = .ok (.iconst 5, 1) := dgX12_findSoonest_1 (139, (.iconst 5, 1)) (List.mem_of_getElem? (i := 35) rfl)
theorem dX12_findSoonest_140 : decode cX12_findSoonest 140 = .ok (.if_icmp .ge 76, 3) := dgX12_findSoonest_1 (140, (.if_icmp .ge 76, 3)) (List.mem_of_getElem? (i := 36) rfl)
theorem dX12_findSoonest_143 : decode cX12_findSoonest 143 = .ok (.iload 5, 2) := dgX12_findSoonest_1 (143, (.iload 5, 2)) (List.mem_of_getElem? (i := 37) rfl)
theorem dX12_findSoonest_145 : decode cX12_findSoonest 145 = .ok (.bipush 23, 2) := dgX12_findSoonest_1 (145, (.bipush 23, 2)) (List.mem_of_getElem? (i := 38) rfl)
theorem dX12_findSoonest_147 : decode cX12_findSoonest 147 = .ok (.if_icmp .ge 69, 3) := dgX12_findSoonest_1 (147, (.if_icmp .ge 69, 3)) (List.mem_of_getElem? (i := 39) rfl)
theorem dgX12_findSoonest_2 : ∀ r ∈ ([(150, (.iload 7, 2)), (152, (.iconst 4, 1)), (153, (.if_icmp .ne 8, 3)), (156, (.iload 6, 2)), (158, (.goto 10, 3)), (161, (.iload 6, 2)), (163, (.iload 7, 2)), (165, (.invokestatic 374, 3)), (168, (.istore 8, 2)), (170, (.iload 8, 2)), (172, (.iconst (-1), 1)), (173, (.if_icmp .eq 37, 3)), (176, (.aload_n 0, 1)), (177, (.iload 8, 2)), (179, (.ifCond .ge 7, 3)), (182, (.iconst 0, 1)), (183, (.goto 5, 3)), (186, (.iload 8, 2)), (188, (.invokevirtual 160, 3)), (191, (.ifCond .ne 19, 3)), (194, (.aload_n 0, 1)), (195, (.getfield 98, 3)), (198, (.bipush 64, 2)), (200, (.iload 5, 2)), (202, (.iconst 1, 1)), (203, (.iadd, 1)), (204, (.imul, 1)), (205, (.iload 8, 2)), (207, (.iadd, 1)), (208, (.iconst 1, 1)), (209, (.bastore, 1)), (210, (.iinc 7 1, 3)), (213, (.goto (-76), 3)), (216, (.iinc 6 1, 3)), (219, (.goto (-141), 3)), (222, (.iinc 5 1, 3)), (225, (.goto (-163), 3)), (228, (.iload 4, 2)), (230, (.iconst 1, 1)), (231, (.isub, 1))] : List (Nat × (Instr × Nat))), decode cX12_findSoonest r.1 = .ok r.2 := by decide +kernel
theorem dX12_findSoonest_150 : decode cX12_findSoonest 150 = .ok (.iload 7, 2) := dgX12_findSoonest_2 (150, (.iload 7, 2)) (List.mem_of_getElem? (i := 0) rfl)
theorem dX12_findSoonest_152 : decode cX12_findSoonest 152 = .ok (.iconst 4, 1) := dgX12_findSoonest_2 (152, (.iconst 4, 1)) (List.mem_of_getElem? (i := 1) rfl)
theorem dX12_findSoonest_153 : decode cX12_findSoonest 153 = .ok (.if_icmp .ne 8, 3) := dgX12_findSoonest_2 (153, (.if_icmp .ne 8, 3)) (List.mem_of_getElem? (i := 2) rfl)
theorem dX12_findSoonest_156 : decode cX12_findSoonest 156 = .ok (.iload 6, 2) := dgX12_findSoonest_2 (156, (.iload 6, 2)) (List.mem_of_getElem? (i := 3) rfl)
theorem dX12_findSoonest_158 : decode cX12_findSoonest 158 = .ok (.goto 10, 3) := dgX12_findSoonest_2 (158, (.goto 10, 3)) (List.mem_of_getElem? (i := 4) rfl)
theorem dX12_findSoonest_161 : decode cX12_findSoonest 161 = .ok (.iload 6, 2) := dgX12_findSoonest_2 (161, (.iload 6, 2)) (List.mem_of_getElem? (i := 5) rfl)
theorem dX12_findSoonest_163 : decode cX12_findSoonest 163 = .ok (.iload 7, 2) := dgX12_findSoonest_2 (163, (.iload 7, 2)) (List.mem_of_getElem? (i := 6) rfl)
theorem dX12_findSoonest_165 : decode cX12_findSoonest 165 = .ok (.invokestatic 374, 3) := dgX12_findSoonest_2 (165, (.invokestatic 374, 3)) (List.mem_of_getElem? (i := 7) rfl)
theorem dX12_findSoonest_168 : decode cX12_findSoonest 168 = .ok (.istore 8, 2) := dgX12_findSoonest_2 (168, (.istore 8, 2)) (List.mem_of_getElem? (i := 8) rfl)
theorem dX12_findSoonest_170 : decode cX12_findSoonest 170 = .ok (.iload 8, 2) := dgX12_findSoonest_2 (170, (.iload 8, 2)) (List.mem_of_getElem? (i := 9) rfl)
theorem dX12_findSoonest_172 : decode cX12_findSoonest 172 = .ok (.iconst (-1), 1) := dgX12_findSoonest_2 (172, (.iconst (-1), 1)) (List.mem_of_getElem? (i := 10) rfl)
theorem dX12_findSoonest_173 : decode cX12_findSoonest 173 = .ok (.if_icmp .eq 37, 3) := dgX12_findSoonest_2 (173, (.if_icmp .eq 37, 3)) (List.mem_of_getElem? (i := 11) rfl)
theorem dX12_findSoonest_176 : decode cX12_findSoonest 176 = .ok (.aload_n 0, 1) := dgX12_findSoonest_2 (176, (.aload_n 0, 1)) (List.mem_of_getElem? (i := 12) rfl)
theorem dX12_findSoonest_177 : decode cX12_findSoonest 177 = .ok (.iload 8, 2) := dgX12_findSoonest_2 (177, (.iload 8, 2)) (List.mem_of_getElem? (i := 13) rfl)
theorem dX12_findSoonest_179 : decode cX12_findSoonest 179 = .ok (.ifCond .ge 7, 3) := dgX12_findSoonest_2 (179, (.ifCond .ge 7, 3)) (List.mem_of_getElem? (i := 14) rfl)
theorem dX12_findSoonest_186 : decode cX12_findSoonest 186 = .ok (.iload 8, 2) := dgX12_findSoonest_2 (186, (.iload 8, 2)) (List.mem_of_getElem? (i := 17) rfl)
theorem dX12_findSoonest_188 : decode cX12_findSoonest 188 = .ok (.invokevirtual 160, 3) := dgX12_findSoonest_2 (188, (.invokevirtual 160, 3)) (List.mem_of_getElem? (i := 18) rfl)
theorem dX12_findSoonest_191 : decode cX12_findSoonest 191 = .ok (.ifCond .ne 19, 3) := dgX12_findSoonest_2 (191, (.ifCond .ne 19, 3)) (List.mem_of_getElem? (i := 19) rfl)
theorem dX12_findSoonest_194 : decode cX12_findSoonest 194 = .ok (.aload_n 0, 1) := dgX12_findSoonest_2 (194, (.aload_n 0, 1)) (List.mem_of_getElem? (i := 20) rfl)
theorem dX12_findSoonest_195 : decode cX12_findSoonest 195 = .ok (.getfield 98, 3) := dgX12_findSoonest_2 (195, (.getfield 98, 3)) (List.mem_of_getElem? (i := 21) rfl)
theorem dX12_findSoonest_198 : decode cX12_findSoonest 198 = .ok (.bipush 64, 2) := dgX12_findSoonest_2 (198, (.bipush 64, 2)) (List.mem_of_getElem? (i := 22) rfl)
theorem dX12_findSoonest_200 : decode cX12_findSoonest 200 = .ok (.iload 5, 2) := dgX12_findSoonest_2 (200, (.iload 5, 2)) (List.mem_of_getElem? (i := 23) rfl)
theorem dX12_findSoonest_202 : decode cX12_findSoonest 202 = .ok (.iconst 1, 1) := dgX12_findSoonest_2 (202, (.iconst 1, 1)) (List.mem_of_getElem? (i := 24) rfl)
theorem dX12_findSoonest_203 : decode cX12_findSoonest 203 = .ok (.iadd, 1) := dgX12_findSoonest_2 (203, (.iadd, 1)) (List.mem_of_getElem? (i := 25) rfl)
theorem dX12_findSoonest_204 : decode cX12_findSoonest 204 = .ok (.imul, 1) := dgX12_findSoonest_2 (204, (.imul, 1)) (List.mem_of_getElem? (i := 26) rfl)
theorem dX12_findSoonest_205 : decode cX12_findSoonest 205 = .ok (.iload 8, 2) := dgX12_findSoonest_2 (205, (.iload 8, 2)) (List.mem_of_getElem? (i := 27) rfl)
theorem dX12_findSoonest_207 : decode cX12_findSoonest 207 = .ok (.iadd, 1) := dgX12_findSoonest_2 (207, (.iadd, 1)) (List.mem_of_getElem? (i := 28) rfl)
theorem dX12_findSoonest_208 : decode cX12_findSoonest 208 = .ok (.iconst 1, 1) := dgX12_findSoonest_2 (208, (.iconst 1, 1)) (List.mem_of_getElem? (i := 29) rfl)
theorem dX12_findSoonest_209 : decode cX12_findSoonest 209 = .ok (.bastore, 1) := dgX12_findSoonest_2 (209, (.bastore, 1)) (List.mem_of_getElem? (i := 30) rfl)
theorem dX12_findSoonest_210 : decode cX12_findSoonest 210 = .ok (.iinc 7 1, 3) := dgX12_findSoonest_2 (210, (.iinc 7 1, 3)) (List.mem_of_getElem? (i := 31) rfl)
theorem dX12_findSoonest_213 : decode cX12_findSoonest 213 = .ok (.goto (-76), 3) := dgX12_findSoonest_2 (213, (.goto (-76), 3)) (List.mem_of_getElem? (i := 32) rfl)
theorem dX12_findSoonest_216 : decode cX12_findSoonest 216 = .ok (.iinc 6 1, 3) := dgX12_findSoonest_2 (216, (.iinc 6 1, 3)) (List.mem_of_getElem? (i := 33) rfl)
theorem dX12_findSoonest_219 : decode cX12_findSoonest 219 = .ok (.goto (-141), 3) := dgX12_findSoonest_2 (219, (.goto (-141), 3)) (List.mem_of_getElem? (i := 34) rfl)
theorem dX12_findSoonest_222 : decode cX12_findSoonest 222 = .ok (.iinc 5 1, 3) := dgX12_findSoonest_2 (222, (.iinc 5 1, 3)) (List.mem_of_getElem? (i := 35) rfl)
theorem dX12_findSoonest_225 : decode cX12_findSoonest 225 = .ok (.goto (-163), 3) := dgX12_findSoonest_2 (225, (.goto (-163), 3)) (List.mem_of_getElem? (i := 36) rfl)
theorem dX12_findSoonest_228 : decode cX12_findSoonest 228 = .ok (.iload 4, 2) := dgX12_findSoonest_2 (228, (.iload 4, 2)) (List.mem_of_getElem? (i := 37) rfl)
theorem dX12_findSoonest_230 : decode cX12_findSoonest 230 = .ok (.iconst 1, 1) := dgX12_findSoonest_2 (230, (.iconst 1, 1)) (List.mem_of_getElem? (i := 38) rfl)
theorem dX12_findSoonest_231 : decode cX12_findSoonest 231 = .ok (.isub, 1) := dgX12_findSoonest_2 (231, (.isub, 1)) (List.mem_of_getElem? (i := 39) rfl)
theorem dgX12_findSoonest_3 : ∀ r ∈ ([(232, (.istore 5, 2)), (234, (.iload 5, 2)), (236, (.iload_n 3, 1)), (237, (.if_icmp .lt 143, 3)), (240, (.iconst 0, 1)), (241, (.istore 6, 2)), (243, (.iload 6, 2)), (245, (.bipush 64, 2)), (247, (.if_icmp .ge 127, 3)), (250, (.iconst 0, 1)), (251, (.istore 7, 2)), (253, (.iload 7, 2)), (255, (.iconst 5, 1)), (256, (.if_icmp .ge 112, 3)), (259, (.iload 7, 2)), (261, (.iconst 4, 1)), (262, (.if_icmp .ne 8, 3)), (265, (.iload 6, 2)), (267, (.goto 10, 3)), (270, (.iload 6, 2)), (272, (.iload 7, 2)), (274, (.invokestatic 374, 3)), (277, (.istore 8, 2)), (279, (.aload_n 0, 1)), (280, (.getfield 101, 3)), (283, (.bipush 64, 2)), (285, (.iload 5, 2)), (287, (.imul, 1)), (288, (.iload 6, 2)), (290, (.iadd, 1)), (291, (.aload_n 0, 1)), (292, (.getfield 101, 3)), (295, (.bipush 64, 2)), (297, (.iload 5, 2)), (299, (.imul, 1)), (300, (.iload 6, 2)), (302, (.iadd, 1)), (303, (.baload, 1)), (304, (.ifCond .ne 52, 3)), (307, (.aload_n 0, 1))] : List (Nat × (Instr × Nat))), decode cX12_findSoonest r.1 = .ok r.2 := by decide +kernel
theorem dX12_findSoonest_232 : decode cX12_findSoonest 232 = .ok (.istore 5, 2) := dgX12_findSoonest_3 (232, (.istore 5, 2)) (List.mem_of_getElem? (i := 0) rfl)
theorem dX12_findSoonest_234 : decode cX12_findSoonest 234 = .ok (.iload 5, 2) := dgX12_findSoonest_3 (234, (.iload 5, 2)) (List.mem_of_getElem? (i := 1) rfl)
theorem dX12_findSoonest_236 : decode cX12_findSoonest 236 = .ok (.iload_n 3, 1) := dgX12_findSoonest_3 (236, (.iload_n 3, 1)) (List.mem_of_getElem? (i := 2) rfl)
theorem dX12_findSoonest_237 : decode cX12_findSoonest 237 = .ok (.if_icmp .lt 143, 3) := dgX12_findSoonest_3 (237, (.if_icmp .lt 143, 3)) (List.mem_of_getElem? (i := 3) rfl)
theorem dX12_findSoonest_240 : decode cX12_findSoonest 240 = .ok (.iconst 0, 1) := dgX12_findSoonest_3 (240, (.iconst 0, 1)) (List.mem_of_getElem? (i := 4) rfl)
theorem dX12_findSoonest_241 : decode cX12_findSoonest 241 = .ok (.istore 6, 2) := dgX12_findSoonest_3 (241, (.istore 6, 2)) (List.mem_of_getElem? (i := 5) rfl)
theorem dX12_findSoonest_243 : decode cX12_findSoonest 243 = .ok (.iload 6, 2) := dgX12_findSoonest_3 (243, (.iload 6, 2)) (List.mem_of_getElem? (i := 6) rfl)
theorem dX12_findSoonest_245 : decode cX12_findSoonest 245 = .ok (.bipush 64, 2) := dgX12_findSoonest_3 (245, (.bipush 64, 2)) (List.mem_of_getElem? (i := 7) rfl)
theorem dX12_findSoonest_247 : decode cX12_findSoonest 247 = .ok (.if_icmp .ge 127, 3) := dgX12_findSoonest_3 (247, (.if_icmp .ge 127, 3)) (List.mem_of_getElem? (i := 8) rfl)
theorem dX12_findSoonest_250 : decode cX12_findSoonest 250 = .ok (.iconst 0, 1) := dgX12_findSoonest_3 (250, (.iconst 0, 1)) (List.mem_of_getElem? (i := 9) rfl)
theorem dX12_findSoonest_251 : decode cX12_findSoonest 251 = .ok (.istore 7, 2) := dgX12_findSoonest_3 (251, (.istore 7, 2)) (List.mem_of_getElem? (i := 10) rfl)
theorem dX12_findSoonest_253 : decode cX12_findSoonest 253 = .ok (.iload 7, 2) := dgX12_findSoonest_3 (253, (.iload 7, 2)) (List.mem_of_getElem? (i := 11) rfl)
theorem dX12_findSoonest_255 : decode cX12_findSoonest 255 = .ok (.iconst 5, 1) := dgX12_findSoonest_3 (255, (.iconst 5, 1)) (List.mem_of_getElem? (i := 12) rfl)
theorem dX12_findSoonest_256 : decode cX12_findSoonest 256 = .ok (.if_icmp .ge 112, 3) := dgX12_findSoonest_3 (256, (.if_icmp .ge 112, 3)) (List.mem_of_getElem? (i := 13) rfl)
theorem dX12_findSoonest_259 : decode cX12_findSoonest 259 = .ok (.iload 7, 2) := dgX12_findSoonest_3 (259, (.iload 7, 2)) (List.mem_of_getElem? (i := 14) rfl)
theorem dX12_findSoonest_261 : decode cX12_findSoonest 261 = .ok (.iconst 4, 1) := dgX12_findSoonest_3 (261, (.iconst 4, 1)) (List.mem_of_getElem? (i := 15) rfl)
theorem dX12_findSoonest_262 : decode cX12_findSoonest 262 = .ok (.if_icmp .ne 8, 3) := dgX12_findSoonest_3 (262, (.if_icmp .ne 8, 3)) (List.mem_of_getElem? (i := 16) rfl)
theorem dX12_findSoonest_265 : decode cX12_findSoonest 265 = .ok (.iload 6, 2) := dgX12_findSoonest_3 (265, (.iload 6, 2)) (List.mem_of_getElem? (i := 17) rfl)
theorem dX12_findSoonest_267 : decode cX12_findSoonest 267 = .ok (.goto 10, 3) := dgX12_findSoonest_3 (267, (.goto 10, 3)) (List.mem_of_getElem? (i := 18) rfl)
theorem dX12_findSoonest_270 : decode cX12_findSoonest 270 = .ok (.iload 6, 2) := dgX12_findSoonest_3 (270, (.iload 6, 2)) (List.mem_of_getElem? (i := 19) rfl)
theorem dX12_findSoonest_272 : decode cX12_findSoonest 272 = .ok (.iload 7, 2) := dgX12_findSoonest_3 (272, (.iload 7, 2)) (List.mem_of_getElem? (i := 20) rfl)
theorem dX12_findSoonest_274 : decode cX12_findSoonest 274 = .ok (.invokestatic 374, 3) := dgX12_findSoonest_3 (274, (.invokestatic 374, 3)) (List.mem_of_getElem? (i := 21) rfl)
theorem dX12_findSoonest_277 : decode cX12_findSoonest 277 = .ok (.istore 8, 2) := dgX12_findSoonest_3 (277, (.istore 8, 2)) (List.mem_of_getElem? (i := 22) rfl)
theorem dX12_findSoonest_279 : decode cX12_findSoonest 279 = .ok (.aload_n 0, 1) := dgX12_findSoonest_3 (279, (.aload_n 0, 1)) (List.mem_of_getElem? (i := 23) rfl)
theorem dX12_findSoonest_280 : decode cX12_findSoonest 280 = .ok (.getfield 101, 3) := dgX12_findSoonest_3 (280, (.getfield 101, 3)) (List.mem_of_getElem? (i := 24) rfl)
theorem dX12_findSoonest_283 : decode cX12_findSoonest 283 = .ok (.bipush 64, 2) := dgX12_findSoonest_3 (283, (.bipush 64, 2)) (List.mem_of_getElem? (i := 25) rfl)
theorem dX12_findSoonest_285 : decode cX12_findSoonest 285 = .ok (.iload 5, 2) := dgX12_findSoonest_3 (285, (.iload 5, 2)) (List.mem_of_getElem? (i := 26) rfl)
theorem dX12_findSoonest_287 : decode cX12_findSoonest 287 = .ok (.imul, 1) := dgX12_findSoonest_3 (287, (.imul, 1)) (List.mem_of_getElem? (i := 27) rfl)
theorem dX12_findSoonest_288 : decode cX12_findSoonest 288 = .ok (.iload 6, 2) := dgX12_findSoonest_3 (288, (.iload 6, 2)) (List.mem_of_getElem? (i := 28) rfl)
theorem dX12_findSoonest_290 : decode cX12_findSoonest 290 = .ok (.iadd, 1) := dgX12_findSoonest_3 (290, (.iadd, 1)) (List.mem_of_getElem? (i := 29) rfl)
theorem dX12_findSoonest_291 : decode cX12_findSoonest 291 = .ok (.aload_n 0, 1) := dgX12_findSoonest_3 (291, (.aload_n 0, 1)) (List.mem_of_getElem? (i := 30) rfl)
theorem dX12_findSoonest_292 : decode cX12_findSoonest 292 = .ok (.getfield 101, 3) := dgX12_findSoonest_3 (292, (.getfield 101, 3)) (List.mem_of_getElem? (i := 31) rfl)
theorem dX12_findSoonest_295 : decode cX12_findSoonest 295 = .ok (.bipush 64, 2) := dgX12_findSoonest_3 (295, (.bipush 64, 2)) (List.mem_of_getElem? (i := 32) rfl)
theorem dX12_findSoonest_297 : decode cX12_findSoonest 297 = .ok (.iload 5, 2) := dgX12_findSoonest_3 (297, (.iload 5, 2)) (List.mem_of_getElem? (i := 33) rfl)
theorem dX12_findSoonest_299 : decode cX12_findSoonest 299 = .ok (.imul, 1) := dgX12_findSoonest_3 (299, (.imul, 1)) (List.mem_of_getElem? (i := 34) rfl)
theorem dX12_findSoonest_300 : decode cX12_findSoonest 300 = .ok (.iload 6, 2) := dgX12_findSoonest_3 (300, (.iload 6, 2)) (List.mem_of_getElem? (i := 35) rfl)
theorem dX12_findSoonest_302 : decode cX12_findSoonest 302 = .ok (.iadd, 1) := dgX12_findSoonest_3 (302, (.iadd, 1)) (List.mem_of_getElem? (i := 36) rfl)
theorem dX12_findSoonest_303 : decode cX12_findSoonest 303 = .ok (.baload, 1) := dgX12_findSoonest_3 (303, (.baload, 1)) (List.mem_of_getElem? (i := 37) rfl)
theorem dX12_findSoonest_304 : decode cX12_findSoonest 304 = .ok (.ifCond .ne 52, 3) := dgX12_findSoonest_3 (304, (.ifCond .ne 52, 3)) (List.mem_of_getElem? (i := 38) rfl)
theorem dX12_findSoonest_307 : decode cX12_findSoonest 307 = .ok (.aload_n 0, 1) := dgX12_findSoonest_3 (307, (.aload_n 0, 1)) (List.mem_of_getElem? (i := 39) rfl)
theorem dgX12_findSoonest_4 : ∀ r ∈ ([(308, (.getfield 98, 3)), (311, (.bipush 64, 2)), (313, (.iload 5, 2)), (315, (.imul, 1)), (316, (.iload 6, 2)), (318, (.iadd, 1)), (319, (.baload, 1)), (320, (.ifCond .eq 40, 3)), (323, (.iload 8, 2)), (325, (.iconst (-1), 1)), (326, (.if_icmp .eq 34, 3)), (329, (.aload_n 0, 1)), (330, (.getfield 101, 3)), (333, (.bipush 64, 2)), (335, (.iload 5, 2)), (337, (.iconst 1, 1)), (338, (.iadd, 1)), (339, (.imul, 1)), (340, (.iload 8, 2)), (342, (.ifCond .ge 7, 3)), (345, (.iconst 0, 1)), (346, (.goto 5, 3)), (349, (.iload 8, 2)), (351, (.iadd, 1)), (352, (.baload, 1)), (353, (.ifCond .eq 7, 3)), (356, (.iconst 1, 1)), (357, (.goto 4, 3)), (360, (.iconst 0, 1)), (361, (.bastore, 1)), (362, (.iinc 7 1, 3)), (365, (.goto (-112), 3)), (368, (.iinc 6 1, 3)), (371, (.goto (-128), 3)), (374, (.iinc 5 (-1), 3)), (377, (.goto (-143), 3)), (380, (.iload 4, 2)), (382, (.ireturn, 1))] : List (Nat × (Instr × Nat))), decode cX12_findSoonest r.1 = .ok r.2 := by decide +kernel
theorem dX12_findSoonest_308 : decode cX12_findSoonest 308 = .ok (.getfield 98, 3) := dgX12_findSoonest_4 (308, (.getfield 98, 3)) (List.mem_of_getElem? (i := 0) rfl)
theorem dX12_findSoonest_311 : decode cX12_findSoonest 311 = .ok (.bipush 64, 2) := dgX12_findSoonest_4 (311, (.bipush 64, 2)) (List.mem_of_getElem? (i := 1) rfl)
theorem dX12_findSoonest_313 : decode cX12_findSoonest 313 = .ok (.iload 5, 2) := dgX12_findSoonest_4 (313, (.iload 5, 2)) (List.mem_of_getElem? (i := 2) rfl)
theorem dX12_findSoonest_315 : decode cX12_findSoonest 315 = .ok (.imul, 1) := dgX12_findSoonest_4 (315, (.imul, 1)) (List.mem_of_getElem? (i := 3) rfl)
theorem dX12_findSoonest_316 : decode cX12_findSoonest 316 = .ok (.iload 6, 2) := dgX12_findSoonest_4 (316, (.iload 6, 2)) (List.mem_of_getElem? (i := 4) rfl)
theorem dX12_findSoonest_318 : decode cX12_findSoonest 318 = .ok (.iadd, 1) := dgX12_findSoonest_4 (318, (.iadd, 1)) (List.mem_of_getElem? (i := 5) rfl)
theorem dX12_findSoonest_319 : decode cX12_findSoonest 319 = .ok (.baload, 1) := dgX12_findSoonest_4 (319, (.baload, 1)) (List.mem_of_getElem? (i := 6) rfl)
theorem dX12_findSoonest_320 : decode cX12_findSoonest 320 = .ok (.ifCond .eq 40, 3) := dgX12_findSoonest_4 (320, (.ifCond .eq 40, 3)) (List.mem_of_getElem? (i := 7) rfl)
theorem dX12_findSoonest_323 : decode cX12_findSoonest 323 = .ok (.iload 8, 2) := dgX12_findSoonest_4 (323, (.iload 8, 2)) (List.mem_of_getElem? (i := 8) rfl)
theorem dX12_findSoonest_325 : decode cX12_findSoonest 325 = .ok (.iconst (-1), 1) := dgX12_findSoonest_4 (325, (.iconst (-1), 1)) (List.mem_of_getElem? (i := 9) rfl)
theorem dX12_findSoonest_326 : decode cX12_findSoonest 326 = .ok (.if_icmp .eq 34, 3) := dgX12_findSoonest_4 (326, (.if_icmp .eq 34, 3)) (List.mem_of_getElem? (i := 10) rfl)
theorem dX12_findSoonest_329 : decode cX12_findSoonest 329 = .ok (.aload_n 0, 1) := dgX12_findSoonest_4 (329, (.aload_n 0, 1)) (List.mem_of_getElem? (i := 11) rfl)
theorem dX12_findSoonest_330 : decode cX12_findSoonest 330 = .ok (.getfield 101, 3) := dgX12_findSoonest_4 (330, (.getfield 101, 3)) (List.mem_of_getElem? (i := 12) rfl)
theorem dX12_findSoonest_333 : decode cX12_findSoonest 333 = .ok (.bipush 64, 2) := dgX12_findSoonest_4 (333, (.bipush 64, 2)) (List.mem_of_getElem? (i := 13) rfl)
theorem dX12_findSoonest_335 : decode cX12_findSoonest 335 = .ok (.iload 5, 2) := dgX12_findSoonest_4 (335, (.iload 5, 2)) (List.mem_of_getElem? (i := 14) rfl)
theorem dX12_findSoonest_337 : decode cX12_findSoonest 337 = .ok (.iconst 1, 1) := dgX12_findSoonest_4 (337, (.iconst 1, 1)) (List.mem_of_getElem? (i := 15) rfl)
theorem dX12_findSoonest_338 : decode cX12_findSoonest 338 = .ok (.iadd, 1) := dgX12_findSoonest_4 (338, (.iadd, 1)) (List.mem_of_getElem? (i := 16) rfl)
theorem dX12_findSoonest_339 : decode cX12_findSoonest 339 = .ok (.imul, 1) := dgX12_findSoonest_4 (339, (.imul, 1)) (List.mem_of_getElem? (i := 17) rfl)
theorem dX12_findSoonest_340 : decode cX12_findSoonest 340 = .ok (.iload 8, 2) := dgX12_findSoonest_4 (340, (.iload 8, 2)) (List.mem_of_getElem? (i := 18) rfl)
theorem dX12_findSoonest_342 : decode cX12_findSoonest 342 = .ok (.ifCond .ge 7, 3) := dgX12_findSoonest_4 (342, (.ifCond .ge 7, 3)) (List.mem_of_getElem? (i := 19) rfl)
theorem dX12_findSoonest_349 : decode cX12_findSoonest 349 = .ok (.iload 8, 2) := dgX12_findSoonest_4 (349, (.iload 8, 2)) (List.mem_of_getElem? (i := 22) rfl)
theorem dX12_findSoonest_351 : decode cX12_findSoonest 351 = .ok (.iadd, 1) := dgX12_findSoonest_4 (351, (.iadd, 1)) (List.mem_of_getElem? (i := 23) rfl)
theorem dX12_findSoonest_352 : decode cX12_findSoonest 352 = .ok (.baload, 1) := dgX12_findSoonest_4 (352, (.baload, 1)) (List.mem_of_getElem? (i := 24) rfl)
theorem dX12_findSoonest_353 : decode cX12_findSoonest 353 = .ok (.ifCond .eq 7, 3) := dgX12_findSoonest_4 (353, (.ifCond .eq 7, 3)) (List.mem_of_getElem? (i := 25) rfl)
theorem dX12_findSoonest_356 : decode cX12_findSoonest 356 = .ok (.iconst 1, 1) := dgX12_findSoonest_4 (356, (.iconst 1, 1)) (List.mem_of_getElem? (i := 26) rfl)
theorem dX12_findSoonest_357 : decode cX12_findSoonest 357 = .ok (.goto 4, 3) := dgX12_findSoonest_4 (357, (.goto 4, 3)) (List.mem_of_getElem? (i := 27) rfl)
theorem dX12_findSoonest_360 : decode cX12_findSoonest 360 = .ok (.iconst 0, 1) := dgX12_findSoonest_4 (360, (.iconst 0, 1)) (List.mem_of_getElem? (i := 28) rfl)
theorem dX12_findSoonest_361 : decode cX12_findSoonest 361 = .ok (.bastore, 1) := dgX12_findSoonest_4 (361, (.bastore, 1)) (List.mem_of_getElem? (i := 29) rfl)
theorem dX12_findSoonest_362 : decode cX12_findSoonest 362 = .ok (.iinc 7 1, 3) := dgX12_findSoonest_4 (362, (.iinc 7 1, 3)) (List.mem_of_getElem? (i := 30) rfl)
theorem dX12_findSoonest_365 : decode cX12_findSoonest 365 = .ok (.goto (-112), 3) := dgX12_findSoonest_4 (365, (.goto (-112), 3)) (List.mem_of_getElem? (i := 31) rfl)
theorem dX12_findSoonest_368 : decode cX12_findSoonest 368 = .ok (.iinc 6 1, 3) := dgX12_findSoonest_4 (368, (.iinc 6 1, 3)) (List.mem_of_getElem? (i := 32) rfl)
theorem dX12_findSoonest_371 : decode cX12_findSoonest 371 = .ok (.goto (-128), 3) := dgX12_findSoonest_4 (371, (.goto (-128), 3)) (List.mem_of_getElem? (i := 33) rfl)
theorem dX12_findSoonest_374 : decode cX12_findSoonest 374 = .ok (.iinc 5 (-1), 3) := dgX12_findSoonest_4 (374, (.iinc 5 (-1), 3)) (List.mem_of_getElem? (i := 34) rfl)
theorem dX12_findSoonest_377 : decode cX12_findSoonest 377 = .ok (.goto (-143), 3) := dgX12_findSoonest_4 (377, (.goto (-143), 3)) (List.mem_of_getElem? (i := 35) rfl)
theorem dX12_findSoonest_380 : decode cX12_findSoonest 380 = .ok (.iload 4, 2) := dgX12_findSoonest_4 (380, (.iload 4, 2)) (List.mem_of_getElem? (i := 36) rfl)
theorem dX12_findSoonest_382 : decode cX12_findSoonest 382 = .ok (.ireturn, 1) := dgX12_findSoonest_4 (382, (.ireturn, 1)) (List.mem_of_getElem? (i := 37) rfl)
theorem fl_X12_101 : Cond.fieldLink RX12 101 "LateGlassModel" "leads" "[Z" ∈ tblG := tg 1251 (by decide +kernel) (by decide +kernel)
theorem fl_X12_98 : Cond.fieldLink RX12 98 "LateGlassModel" "there" "[Z" ∈ tblG := tg 1250 (by decide +kernel) (by decide +kernel)
set_option maxHeartbeats 4000000 in
set_option maxRecDepth 100000 in
theorem n_findSoonest (l : Launch) (G : g5_G) (b_o b_ro b_se b_re b_pt b_tr b_ld b_rf b_im b_ke b_tp b_nl b_op b_ar b_pi b_pa b_ws b_hw b_ip b_ah b_be b_me b_wn : Nat) (sz : Nat) (u_th : Int32) (u_sa : Int32) (u_fd : Int32) (u_td : Int32) (u_fr : Int32) (u_to : Int32) (u_so : Int32) (u_fa : Int32) (u_bd : Int32) (u_nc : Int32) (u_co : Int32) (u_le : Int32) (u_pd : Int32) (u_od : Int32) (u_la : Int32) (u_bk : Int32) (u_ce : Int32) (u_ho : Int32) (u_wy : Int32) (u_bt : Int32) (u_ps : Int32) (u_tg : Int32) (u_sn : Int32) (u_ic : Int32) (u_wd : Int32) (u_id : Int32) (p_1 : Int32) (p_2 : Int32) (p_3 : Int32) (u_wo : Int64) (u_va : Int64) (u_su : Int64) (u_st : Int64) (v_ro : Nat → Int32) (v_se : Nat → Int64) (v_re : Nat → Int64) (v_pt : Nat → Int32) (v_tr : Nat → Int32) (v_ld : Nat → Int32) (h_u_td : 0 ≤ u_td.toInt ∧ u_td.toInt ≤ 400) (h_u_fr : 0 ≤ u_fr.toInt ∧ u_fr.toInt ≤ 400) (h_u_to : 0 ≤ u_to.toInt ∧ u_to.toInt ≤ 400) (h_u_bd : 0 ≤ u_bd.toInt ∧ u_bd.toInt ≤ 1) (h_u_nc : 0 ≤ u_nc.toInt ∧ u_nc.toInt ≤ 12) (h_u_co : 0 ≤ u_co.toInt ∧ u_co.toInt ≤ 400) (h_u_pd : 0 ≤ u_pd.toInt ∧ u_pd.toInt ≤ 400) (h_u_la : 0 ≤ u_la.toInt ∧ u_la.toInt ≤ 4840) (h_u_bk : 0 ≤ u_bk.toInt ∧ u_bk.toInt ≤ 1) (h_u_ce : 0 ≤ u_ce.toInt ∧ u_ce.toInt ≤ 63) (h_u_ho : 0 ≤ u_ho.toInt ∧ u_ho.toInt ≤ 23) (h_u_wy : 0 ≤ u_wy.toInt ∧ u_wy.toInt ≤ 3) (h_u_bt : 0 ≤ u_bt.toInt ∧ u_bt.toInt ≤ 1000000) (h_u_ps : 0 ≤ u_ps.toInt ∧ u_ps.toInt ≤ 200) (h_u_ic : 0 ≤ u_ic.toInt ∧ u_ic.toInt ≤ 1) (h_u_id : 0 ≤ u_id.toInt ∧ u_id.toInt ≤ 1) (h_p_2 : 0 ≤ p_2.toInt ∧ p_2.toInt ≤ 63) (h_p_3 : 0 ≤ p_3.toInt ∧ p_3.toInt ≤ 23) (r_ro : MI v_ro) (r_pt : PTI v_pt) : Met l yX12_findSoonest (wsG yX12_findSoonest cX12_findSoonest 9 (some .int)) ({ frames := 8, cells := 0, slots := 0, locals := 200 }) (va_Pc [.ref b_o, .int p_1, .int p_2, .int p_3] (g5_P G [(b_o, (oc12 u_th u_sa b_rf b_ro b_im b_ke u_fd b_tp u_td u_fr u_to u_so u_wo u_fa u_bd u_nc b_nl u_co b_op b_ar u_le b_pi b_pa u_pd u_od b_ws b_hw u_la b_se b_re u_bk u_va u_su u_ce u_ho u_wy u_bt u_ps b_pt u_tg u_sn b_ip u_ic b_ah b_be b_me u_wd b_tr b_ld u_st b_wn u_id)), (b_ro, (arI G 5740 v_ro)), (b_se, (arJ G 13 v_se)), (b_re, (arJ G 400 v_re)), (b_pt, (arI G 200 v_pt)), (b_tr, (arZ G 1536 v_tr)), (b_ld, (arZ G 1536 v_ld))] sz)) (va_Qi (fun (r : Int32) (u : va_W) => (∃ (o_r : Int32) (o_la : Int32) (o_bk : Int32) (o_va : Int64) (o_su : Int64) (o_ce : Int32) (o_ho : Int32) (o_wy : Int32) (o_bt : Int32) (o_ps : Int32) (o_tg : Int32) (o_sn : Int32) (o_se : Nat → Int64) (o_re : Nat → Int64) (o_pt : Nat → Int32) (o_tr : Nat → Int32) (o_ld : Nat → Int32), ((-1) ≤ o_r.toInt ∧ o_r.toInt ≤ 23) ∧ (0 ≤ o_la.toInt ∧ o_la.toInt ≤ 4840) ∧ (0 ≤ o_bk.toInt ∧ o_bk.toInt ≤ 1) ∧ (0 ≤ o_ce.toInt ∧ o_ce.toInt ≤ 63) ∧ (0 ≤ o_ho.toInt ∧ o_ho.toInt ≤ 23) ∧ (0 ≤ o_wy.toInt ∧ o_wy.toInt ≤ 3) ∧ (0 ≤ o_bt.toInt ∧ o_bt.toInt ≤ 1000000) ∧ (0 ≤ o_ps.toInt ∧ o_ps.toInt ≤ 200) ∧ (PTI o_pt) ∧ (r = o_r) ∧ (u = [(b_o, (oc12 u_th u_sa b_rf b_ro b_im b_ke u_fd b_tp u_td u_fr u_to u_so u_wo u_fa u_bd u_nc b_nl u_co b_op b_ar u_le b_pi b_pa u_pd u_od b_ws b_hw o_la b_se b_re o_bk o_va o_su o_ce o_ho o_wy o_bt o_ps b_pt o_tg o_sn b_ip u_ic b_ah b_be b_me u_wd b_tr b_ld u_st b_wn u_id)), (b_ro, (arI G 5740 v_ro)), (b_se, (arJ G 13 o_se)), (b_re, (arJ G 400 o_re)), (b_pt, (arI G 200 o_pt)), (b_tr, (arZ G 1536 o_tr)), (b_ld, (arZ G 1536 o_ld))]))) (g5_B G (va_A [(b_o, (oc12 u_th u_sa b_rf b_ro b_im b_ke u_fd b_tp u_td u_fr u_to u_so u_wo u_fa u_bd u_nc b_nl u_co b_op b_ar u_le b_pi b_pa u_pd u_od b_ws b_hw u_la b_se b_re u_bk u_va u_su u_ce u_ho u_wy u_bt u_ps b_pt u_tg u_sn b_ip u_ic b_ah b_be b_me u_wd b_tr b_ld u_st b_wn u_id)), (b_ro, (arI G 5740 v_ro)), (b_se, (arJ G 13 v_se)), (b_re, (arJ G 400 v_re)), (b_pt, (arI G 200 v_pt)), (b_tr, (arZ G 1536 v_tr)), (b_ld, (arZ G 1536 v_ld))] sz)) (va_A [(b_o, (oc12 u_th u_sa b_rf b_ro b_im b_ke u_fd b_tp u_td u_fr u_to u_so u_wo u_fa u_bd u_nc b_nl u_co b_op b_ar u_le b_pi b_pa u_pd u_od b_ws b_hw u_la b_se b_re u_bk u_va u_su u_ce u_ho u_wy u_bt u_ps b_pt u_tg u_sn b_ip u_ic b_ah b_be b_me u_wd b_tr b_ld u_st b_wn u_id)), (b_ro, (arI G 5740 v_ro)), (b_se, (arJ G 13 v_se)), (b_re, (arJ G 400 v_re)), (b_pt, (arI G 200 v_pt)), (b_tr, (arZ G 1536 v_tr)), (b_ld, (arZ G 1536 v_ld))] sz)) 0 0 (va_A [(b_o, (oc12 u_th u_sa b_rf b_ro b_im b_ke u_fd b_tp u_td u_fr u_to u_so u_wo u_fa u_bd u_nc b_nl u_co b_op b_ar u_le b_pi b_pa u_pd u_od b_ws b_hw u_la b_se b_re u_bk u_va u_su u_ce u_ho u_wy u_bt u_ps b_pt u_tg u_sn b_ip u_ic b_ah b_be b_me u_wd b_tr b_ld u_st b_wn u_id)), (b_ro, (arI G 5740 v_ro)), (b_se, (arJ G 13 v_se)), (b_re, (arJ G 400 v_re)), (b_pt, (arI G 200 v_pt)), (b_tr, (arZ G 1536 v_tr)), (b_ld, (arZ G 1536 v_ld))] sz) := by
  refine Met.ofW (cc := cX12_findSoonest) (maxL := 9) (ret := (some .int)) (by decide +kernel) rfl ?_
  intro p e s m args below meth c s₁ B hml hv
  obtain ⟨rfl, hsz, hP, hK, hD0, hN, hT⟩ := hv
  have hx := B.exec
  have hb := B.bytes
  have hr := B.returns
  have hts : ∀ w ∈ tblG, w.before _ s = true := fun w h => atoms_spec (ws := (wsG yX12_findSoonest cX12_findSoonest 9 (some .int))) B.pre w (List.mem_cons_of_mem _ h)
  have hown : s.vm.findClass RX12 = some m.cls := findClass_of_methodNamed B.named
  have hlocks := B.notSynchronized
  subst hsz
  have hD := hD0.self (sz := s.heap.size)
  generalize hAe : va_A [(b_o, (oc12 u_th u_sa b_rf b_ro b_im b_ke u_fd b_tp u_td u_fr u_to u_so u_wo u_fa u_bd u_nc b_nl u_co b_op b_ar u_le b_pi b_pa u_pd u_od b_ws b_hw u_la b_se b_re u_bk u_va u_su u_ce u_ho u_wy u_bt u_ps b_pt u_tg u_sn b_ip u_ic b_ah b_be b_me u_wd b_tr b_ld u_st b_wn u_id)), (b_ro, (arI G 5740 v_ro)), (b_se, (arJ G 13 v_se)), (b_re, (arJ G 400 v_re)), (b_pt, (arI G 200 v_pt)), (b_tr, (arZ G 1536 v_tr)), (b_ld, (arZ G 1536 v_ld))] s.heap.size = A at hD hT ⊢
  have hA : ∀ q : Nat, s.heap.size ≤ q → A q := fun q h => by rw [← hAe]; exact Or.inr h
  have hS : va_S A s.heap s.heap [] := va_S.rf
  replace hP : va_P G.1 vwCl [(b_o, (oc12 u_th u_sa b_rf b_ro b_im b_ke u_fd b_tp u_td u_fr u_to u_so u_wo u_fa u_bd u_nc b_nl u_co b_op b_ar u_le b_pi b_pa u_pd u_od b_ws b_hw u_la b_se b_re u_bk u_va u_su u_ce u_ho u_wy u_bt u_ps b_pt u_tg u_sn b_ip u_ic b_ah b_be b_me u_wd b_tr b_ld u_st b_wn u_id)), (b_ro, (arI G 5740 v_ro)), (b_se, (arJ G 13 v_se)), (b_re, (arJ G 400 v_re)), (b_pt, (arI G 200 v_pt)), (b_tr, (arZ G 1536 v_tr)), (b_ld, (arZ G 1536 v_ld))] s.heap := hP
  have hl := lv_entry ([.ref b_o, .int p_1, .int p_2, .int p_3]) (n := 9) (Nat.le_of_ble_eq_true rfl)
  rw [lg_entry_eq]
  generalize (lg_sl ([.ref b_o, .int p_1, .int p_2, .int p_3]) ++ List.replicate (9 - (lg_sl ([.ref b_o, .int p_1, .int p_2, .int p_3])).length) Slot.unset).toArray = ls at hl ⊢
  replace hl : lv_has ls 9 [(0, .ref b_o), (1, .int p_1), (2, .int p_2), (3, .int p_3)] := hl
  refine lv_iconst (v := 0) hx hb dX12_findSoonest_0 (by decide +kernel) ?_
  refine lv_istore (lv' := [(4, .int 0), (0, .ref b_o), (1, .int p_1), (2, .int p_2), (3, .int p_3)]) hx hb dX12_findSoonest_1 hl (by decide +kernel) rfl ?_
  clear hl
  intro ls hl
  refine g5_loop (α := (Int32) × (Nat → Int32) × (Nat → Int32)) (fun (q : (Int32) × (Nat → Int32) × (Nat → Int32)) (ls : Array Slot) (H : Heap) (locs : List Loc) => match q with | (k3_4, k3_tr, k3_ld) => lv_has ls 9 [(4, .int k3_4), (0, .ref b_o), (1, .int p_1), (2, .int p_2), (3, .int p_3)] ∧ va_P G.1 vwCl [(b_o, (oc12 u_th u_sa b_rf b_ro b_im b_ke u_fd b_tp u_td u_fr u_to u_so u_wo u_fa u_bd u_nc b_nl u_co b_op b_ar u_le b_pi b_pa u_pd u_od b_ws b_hw u_la b_se b_re u_bk u_va u_su u_ce u_ho u_wy u_bt u_ps b_pt u_tg u_sn b_ip u_ic b_ah b_be b_me u_wd b_tr b_ld u_st b_wn u_id)), (b_ro, (arI G 5740 v_ro)), (b_se, (arJ G 13 v_se)), (b_re, (arJ G 400 v_re)), (b_pt, (arI G 200 v_pt)), (b_tr, (arZ G 1536 k3_tr)), (b_ld, (arZ G 1536 k3_ld))] H ∧ va_D A [(b_o, (oc12 u_th u_sa b_rf b_ro b_im b_ke u_fd b_tp u_td u_fr u_to u_so u_wo u_fa u_bd u_nc b_nl u_co b_op b_ar u_le b_pi b_pa u_pd u_od b_ws b_hw u_la b_se b_re u_bk u_va u_su u_ce u_ho u_wy u_bt u_ps b_pt u_tg u_sn b_ip u_ic b_ah b_be b_me u_wd b_tr b_ld u_st b_wn u_id)), (b_ro, (arI G 5740 v_ro)), (b_se, (arJ G 13 v_se)), (b_re, (arJ G 400 v_re)), (b_pt, (arI G 200 v_pt)), (b_tr, (arZ G 1536 k3_tr)), (b_ld, (arZ G 1536 k3_ld))] ∧ va_S A s.heap H locs ∧ (0 ≤ k3_4.toInt ∧ k3_4.toInt ≤ 1536)) (fun (q : (Int32) × (Nat → Int32) × (Nat → Int32)) => match q with | (k3_4, k3_tr, k3_ld) => Int.toNat (1536 - k3_4.toInt)) (0, v_tr, v_ld) ⟨lv_sub hl [0, 1, 2, 3, 4] rfl, hP, hD, hS, ⟨by decide, by decide⟩⟩ ?_
  rintro ⟨k3_4, k3_tr, k3_ld⟩ ls H locs ⟨hl, hP, hD, hS, (i_1 : 0 ≤ k3_4.toInt ∧ k3_4.toInt ≤ 1536)⟩ ih_3_2
  replace hl : lv_has ls 9 [(4, .int k3_4), (0, .ref b_o), (1, .int p_1), (2, .int p_2), (3, .int p_3)] := hl
  refine g5_rs [(b_o, (oc12 u_th u_sa b_rf b_ro b_im b_ke u_fd b_tp u_td u_fr u_to u_so u_wo u_fa u_bd u_nc b_nl u_co b_op b_ar u_le b_pi b_pa u_pd u_od b_ws b_hw u_la b_se b_re u_bk u_va u_su u_ce u_ho u_wy u_bt u_ps b_pt u_tg u_sn b_ip u_ic b_ah b_be b_me u_wd b_tr b_ld u_st b_wn u_id)), (b_ro, (arI G 5740 v_ro)), (b_se, (arJ G 13 v_se)), (b_re, (arJ G 400 v_re)), (b_pt, (arI G 200 v_pt)), (b_tr, (arZ G 1536 k3_tr)), (b_ld, (arZ G 1536 k3_ld))] hP hD ?_
  clear hP hD
  intro hP hD
  refine lv_iload hx hb dX12_findSoonest_3 (lv_at hl 0 rfl) ?_
  refine lv_sipush (v := 1536) hx hb dX12_findSoonest_5 (by decide +kernel) ?_
  refine lv_icmp_ge (tgt := 56) hx hb dX12_findSoonest_8 (by decide +kernel) (fun c_3 => ?_) (fun c_3 => ?_)
  ·
    have i_3 : k3_4.toInt ≥ 1536 := g5_ge (a := k3_4.toInt) (b := 1536) rfl (by decide +kernel) c_3
    refine lv_iconst (v := (-1)) hx hb dX12_findSoonest_56 (by decide +kernel) ?_
    refine lv_istore (lv' := [(4, .int (-1)), (0, .ref b_o), (1, .int p_1), (2, .int p_2), (3, .int p_3)]) hx hb dX12_findSoonest_57 hl (by decide +kernel) rfl ?_
    clear hl
    intro ls hl
    refine lv_iload_n hx hb dX12_findSoonest_59 rfl (lv_at hl 4 rfl) ?_
    refine lv_istore (lv' := [(5, .int p_3), (4, .int (-1)), (0, .ref b_o), (1, .int p_1), (2, .int p_2), (3, .int p_3)]) hx hb dX12_findSoonest_60 hl (by decide +kernel) rfl ?_
    clear hl
    intro ls hl
    refine g5_loop (α := (Int32) × (Int32) × (Int32) × (Int32) × (Int64) × (Int64) × (Int32) × (Int32) × (Int32) × (Int32) × (Int32) × (Int32) × (Int32) × (Nat → Int64) × (Nat → Int64) × (Nat → Int32) × (Nat → Int32) × (Nat → Int32)) (fun (q : (Int32) × (Int32) × (Int32) × (Int32) × (Int64) × (Int64) × (Int32) × (Int32) × (Int32) × (Int32) × (Int32) × (Int32) × (Int32) × (Nat → Int64) × (Nat → Int64) × (Nat → Int32) × (Nat → Int32) × (Nat → Int32)) (ls : Array Slot) (H : Heap) (locs : List Loc) => match q with | (k62_5, k62_4, k62_la, k62_bk, k62_va, k62_su, k62_ce, k62_ho, k62_wy, k62_bt, k62_ps, k62_tg, k62_sn, k62_se, k62_re, k62_pt, k62_tr, k62_ld) => lv_has ls 9 [(4, .int k62_4), (5, .int k62_5), (0, .ref b_o), (1, .int p_1), (2, .int p_2), (3, .int p_3)] ∧ va_P G.1 vwCl [(b_o, (oc12 u_th u_sa b_rf b_ro b_im b_ke u_fd b_tp u_td u_fr u_to u_so u_wo u_fa u_bd u_nc b_nl u_co b_op b_ar u_le b_pi b_pa u_pd u_od b_ws b_hw k62_la b_se b_re k62_bk k62_va k62_su k62_ce k62_ho k62_wy k62_bt k62_ps b_pt k62_tg k62_sn b_ip u_ic b_ah b_be b_me u_wd b_tr b_ld u_st b_wn u_id)), (b_ro, (arI G 5740 v_ro)), (b_se, (arJ G 13 k62_se)), (b_re, (arJ G 400 k62_re)), (b_pt, (arI G 200 k62_pt)), (b_tr, (arZ G 1536 k62_tr)), (b_ld, (arZ G 1536 k62_ld))] H ∧ va_D A [(b_o, (oc12 u_th u_sa b_rf b_ro b_im b_ke u_fd b_tp u_td u_fr u_to u_so u_wo u_fa u_bd u_nc b_nl u_co b_op b_ar u_le b_pi b_pa u_pd u_od b_ws b_hw k62_la b_se b_re k62_bk k62_va k62_su k62_ce k62_ho k62_wy k62_bt k62_ps b_pt k62_tg k62_sn b_ip u_ic b_ah b_be b_me u_wd b_tr b_ld u_st b_wn u_id)), (b_ro, (arI G 5740 v_ro)), (b_se, (arJ G 13 k62_se)), (b_re, (arJ G 400 k62_re)), (b_pt, (arI G 200 k62_pt)), (b_tr, (arZ G 1536 k62_tr)), (b_ld, (arZ G 1536 k62_ld))] ∧ va_S A s.heap H locs ∧ (0 ≤ k62_5.toInt ∧ k62_5.toInt ≤ 24) ∧ ((-1) ≤ k62_4.toInt ∧ k62_4.toInt ≤ 23) ∧ (0 ≤ k62_la.toInt ∧ k62_la.toInt ≤ 4840) ∧ (0 ≤ k62_bk.toInt ∧ k62_bk.toInt ≤ 1) ∧ (0 ≤ k62_ce.toInt ∧ k62_ce.toInt ≤ 63) ∧ (0 ≤ k62_ho.toInt ∧ k62_ho.toInt ≤ 23) ∧ (0 ≤ k62_wy.toInt ∧ k62_wy.toInt ≤ 3) ∧ (0 ≤ k62_bt.toInt ∧ k62_bt.toInt ≤ 1000000) ∧ (0 ≤ k62_ps.toInt ∧ k62_ps.toInt ≤ 200) ∧ (PTI k62_pt)) (fun (q : (Int32) × (Int32) × (Int32) × (Int32) × (Int64) × (Int64) × (Int32) × (Int32) × (Int32) × (Int32) × (Int32) × (Int32) × (Int32) × (Nat → Int64) × (Nat → Int64) × (Nat → Int32) × (Nat → Int32) × (Nat → Int32)) => match q with | (k62_5, k62_4, k62_la, k62_bk, k62_va, k62_su, k62_ce, k62_ho, k62_wy, k62_bt, k62_ps, k62_tg, k62_sn, k62_se, k62_re, k62_pt, k62_tr, k62_ld) => Int.toNat (24 - k62_5.toInt)) (p_3, (-1), u_la, u_bk, u_va, u_su, u_ce, u_ho, u_wy, u_bt, u_ps, u_tg, u_sn, v_se, v_re, v_pt, k3_tr, k3_ld) ⟨lv_sub hl [1, 0, 2, 3, 4, 5] rfl, hP, hD, hS, ⟨by omega, by omega⟩, ⟨by decide, by decide⟩, h_u_la, h_u_bk, h_u_ce, h_u_ho, h_u_wy, h_u_bt, h_u_ps, r_pt⟩ ?_
    rintro ⟨k62_5, k62_4, k62_la, k62_bk, k62_va, k62_su, k62_ce, k62_ho, k62_wy, k62_bt, k62_ps, k62_tg, k62_sn, k62_se, k62_re, k62_pt, k62_tr, k62_ld⟩ ls H locs ⟨hl, hP, hD, hS, (i_4 : 0 ≤ k62_5.toInt ∧ k62_5.toInt ≤ 24), (i_5 : (-1) ≤ k62_4.toInt ∧ k62_4.toInt ≤ 23), (i_6 : 0 ≤ k62_la.toInt ∧ k62_la.toInt ≤ 4840), (i_7 : 0 ≤ k62_bk.toInt ∧ k62_bk.toInt ≤ 1), (i_8 : 0 ≤ k62_ce.toInt ∧ k62_ce.toInt ≤ 63), (i_9 : 0 ≤ k62_ho.toInt ∧ k62_ho.toInt ≤ 23), (i_10 : 0 ≤ k62_wy.toInt ∧ k62_wy.toInt ≤ 3), (i_11 : 0 ≤ k62_bt.toInt ∧ k62_bt.toInt ≤ 1000000), (i_12 : 0 ≤ k62_ps.toInt ∧ k62_ps.toInt ≤ 200), (i_13 : PTI k62_pt)⟩ ih_62_14
    replace hl : lv_has ls 9 [(4, .int k62_4), (5, .int k62_5), (0, .ref b_o), (1, .int p_1), (2, .int p_2), (3, .int p_3)] := hl
    refine g5_rs [(b_o, (oc12 u_th u_sa b_rf b_ro b_im b_ke u_fd b_tp u_td u_fr u_to u_so u_wo u_fa u_bd u_nc b_nl u_co b_op b_ar u_le b_pi b_pa u_pd u_od b_ws b_hw k62_la b_se b_re k62_bk k62_va k62_su k62_ce k62_ho k62_wy k62_bt k62_ps b_pt k62_tg k62_sn b_ip u_ic b_ah b_be b_me u_wd b_tr b_ld u_st b_wn u_id)), (b_ro, (arI G 5740 v_ro)), (b_se, (arJ G 13 k62_se)), (b_re, (arJ G 400 k62_re)), (b_pt, (arI G 200 k62_pt)), (b_tr, (arZ G 1536 k62_tr)), (b_ld, (arZ G 1536 k62_ld))] hP hD ?_
    clear hP hD
    intro hP hD
    refine lv_iload hx hb dX12_findSoonest_62 (lv_at hl 1 rfl) ?_
    refine lv_bipush (v := 24) hx hb dX12_findSoonest_64 (by decide +kernel) ?_
    refine lv_icmp_ge (tgt := 228) hx hb dX12_findSoonest_66 (by decide +kernel) (fun c_15 => ?_) (fun c_15 => ?_)
    ·
      have i_15 : k62_5.toInt ≥ 24 := g5_ge (a := k62_5.toInt) (b := 24) rfl (by decide +kernel) c_15
      refine lv_iload hx hb dX12_findSoonest_228 (lv_at hl 0 rfl) ?_
      refine lv_iconst (v := 1) hx hb dX12_findSoonest_230 (by decide +kernel) ?_
      refine lv_isub hx hb dX12_findSoonest_231 ?_
      have t_16 : (k62_4 - 1).toInt = k62_4.toInt - 1 := g5_isub (a := k62_4.toInt) (b := 1) (by rfl) (by decide +kernel) (by omega) (by omega)
      refine lv_istore (lv' := [(5, .int (k62_4 - 1)), (4, .int k62_4), (0, .ref b_o), (1, .int p_1), (2, .int p_2), (3, .int p_3)]) hx hb dX12_findSoonest_232 hl (by decide +kernel) rfl ?_
      clear hl
      intro ls hl
      refine g5_loop (α := (Int32) × (Nat → Int32)) (fun (q : (Int32) × (Nat → Int32)) (ls : Array Slot) (H : Heap) (locs : List Loc) => match q with | (k234_5, k234_ld) => lv_has ls 9 [(5, .int k234_5), (4, .int k62_4), (0, .ref b_o), (1, .int p_1), (2, .int p_2), (3, .int p_3)] ∧ va_P G.1 vwCl [(b_o, (oc12 u_th u_sa b_rf b_ro b_im b_ke u_fd b_tp u_td u_fr u_to u_so u_wo u_fa u_bd u_nc b_nl u_co b_op b_ar u_le b_pi b_pa u_pd u_od b_ws b_hw k62_la b_se b_re k62_bk k62_va k62_su k62_ce k62_ho k62_wy k62_bt k62_ps b_pt k62_tg k62_sn b_ip u_ic b_ah b_be b_me u_wd b_tr b_ld u_st b_wn u_id)), (b_ro, (arI G 5740 v_ro)), (b_se, (arJ G 13 k62_se)), (b_re, (arJ G 400 k62_re)), (b_pt, (arI G 200 k62_pt)), (b_tr, (arZ G 1536 k62_tr)), (b_ld, (arZ G 1536 k234_ld))] H ∧ va_D A [(b_o, (oc12 u_th u_sa b_rf b_ro b_im b_ke u_fd b_tp u_td u_fr u_to u_so u_wo u_fa u_bd u_nc b_nl u_co b_op b_ar u_le b_pi b_pa u_pd u_od b_ws b_hw k62_la b_se b_re k62_bk k62_va k62_su k62_ce k62_ho k62_wy k62_bt k62_ps b_pt k62_tg k62_sn b_ip u_ic b_ah b_be b_me u_wd b_tr b_ld u_st b_wn u_id)), (b_ro, (arI G 5740 v_ro)), (b_se, (arJ G 13 k62_se)), (b_re, (arJ G 400 k62_re)), (b_pt, (arI G 200 k62_pt)), (b_tr, (arZ G 1536 k62_tr)), (b_ld, (arZ G 1536 k234_ld))] ∧ va_S A s.heap H locs ∧ ((-2) ≤ k234_5.toInt ∧ k234_5.toInt ≤ 22)) (fun (q : (Int32) × (Nat → Int32)) => match q with | (k234_5, k234_ld) => Int.toNat (k234_5.toInt + 1)) ((k62_4 - 1), k62_ld) ⟨lv_sub hl [0, 1, 2, 3, 4, 5] rfl, hP, hD, hS, ⟨by omega, by omega⟩⟩ ?_
      rintro ⟨k234_5, k234_ld⟩ ls H locs ⟨hl, hP, hD, hS, (i_17 : (-2) ≤ k234_5.toInt ∧ k234_5.toInt ≤ 22)⟩ ih_234_18
      replace hl : lv_has ls 9 [(5, .int k234_5), (4, .int k62_4), (0, .ref b_o), (1, .int p_1), (2, .int p_2), (3, .int p_3)] := hl
      refine g5_rs [(b_o, (oc12 u_th u_sa b_rf b_ro b_im b_ke u_fd b_tp u_td u_fr u_to u_so u_wo u_fa u_bd u_nc b_nl u_co b_op b_ar u_le b_pi b_pa u_pd u_od b_ws b_hw k62_la b_se b_re k62_bk k62_va k62_su k62_ce k62_ho k62_wy k62_bt k62_ps b_pt k62_tg k62_sn b_ip u_ic b_ah b_be b_me u_wd b_tr b_ld u_st b_wn u_id)), (b_ro, (arI G 5740 v_ro)), (b_se, (arJ G 13 k62_se)), (b_re, (arJ G 400 k62_re)), (b_pt, (arI G 200 k62_pt)), (b_tr, (arZ G 1536 k62_tr)), (b_ld, (arZ G 1536 k234_ld))] hP hD ?_
      clear hP hD
      intro hP hD
      refine lv_iload hx hb dX12_findSoonest_234 (lv_at hl 0 rfl) ?_
      refine lv_iload_n hx hb dX12_findSoonest_236 rfl (lv_at hl 5 rfl) ?_
      refine lv_icmp_lt (tgt := 380) hx hb dX12_findSoonest_237 (by decide +kernel) (fun c_19 => ?_) (fun c_19 => ?_)
      ·
        have i_19 : k234_5.toInt < p_3.toInt := g5_lt (a := k234_5.toInt) (b := p_3.toInt) rfl rfl c_19
        refine lv_iload hx hb dX12_findSoonest_380 (lv_at hl 1 rfl) ?_
        exact W.iret (v := k62_4) hx hb hr (fun t ht hW => ⟨⟨k62_4, [(b_o, (oc12 u_th u_sa b_rf b_ro b_im b_ke u_fd b_tp u_td u_fr u_to u_so u_wo u_fa u_bd u_nc b_nl u_co b_op b_ar u_le b_pi b_pa u_pd u_od b_ws b_hw k62_la b_se b_re k62_bk k62_va k62_su k62_ce k62_ho k62_wy k62_bt k62_ps b_pt k62_tg k62_sn b_ip u_ic b_ah b_be b_me u_wd b_tr b_ld u_st b_wn u_id)), (b_ro, (arI G 5740 v_ro)), (b_se, (arJ G 13 k62_se)), (b_re, (arJ G 400 k62_re)), (b_pt, (arI G 200 k62_pt)), (b_tr, (arZ G 1536 k62_tr)), (b_ld, (arZ G 1536 k234_ld))], rfl, ⟨k62_4, k62_la, k62_bk, k62_va, k62_su, k62_ce, k62_ho, k62_wy, k62_bt, k62_ps, k62_tg, k62_sn, k62_se, k62_re, k62_pt, k62_tr, k234_ld, i_5, i_6, i_7, i_8, i_9, i_10, i_11, i_12, i_13, rfl, rfl⟩, by rw [ht]; exact hP.sub [0, 1, 2, 3, 4, 5, 6] rfl, hD.sub [0, 1, 2, 3, 4, 5, 6] (by decide +kernel) rfl⟩, hS.F ht⟩) hS.2.2 dX12_findSoonest_382
      ·
        have i_19 : k234_5.toInt ≥ p_3.toInt := g5_ltN (a := k234_5.toInt) (b := p_3.toInt) rfl rfl c_19
        refine lv_iconst (v := 0) hx hb dX12_findSoonest_240 (by decide +kernel) ?_
        refine lv_istore (lv' := [(6, .int 0), (5, .int k234_5), (4, .int k62_4), (0, .ref b_o), (1, .int p_1), (2, .int p_2), (3, .int p_3)]) hx hb dX12_findSoonest_241 hl (by decide +kernel) rfl ?_
        clear hl
        intro ls hl
        refine g5_loop (α := (Int32) × (Nat → Int32)) (fun (q : (Int32) × (Nat → Int32)) (ls : Array Slot) (H : Heap) (locs : List Loc) => match q with | (k243_6, k243_ld) => lv_has ls 9 [(6, .int k243_6), (5, .int k234_5), (4, .int k62_4), (0, .ref b_o), (1, .int p_1), (2, .int p_2), (3, .int p_3)] ∧ va_P G.1 vwCl [(b_o, (oc12 u_th u_sa b_rf b_ro b_im b_ke u_fd b_tp u_td u_fr u_to u_so u_wo u_fa u_bd u_nc b_nl u_co b_op b_ar u_le b_pi b_pa u_pd u_od b_ws b_hw k62_la b_se b_re k62_bk k62_va k62_su k62_ce k62_ho k62_wy k62_bt k62_ps b_pt k62_tg k62_sn b_ip u_ic b_ah b_be b_me u_wd b_tr b_ld u_st b_wn u_id)), (b_ro, (arI G 5740 v_ro)), (b_se, (arJ G 13 k62_se)), (b_re, (arJ G 400 k62_re)), (b_pt, (arI G 200 k62_pt)), (b_tr, (arZ G 1536 k62_tr)), (b_ld, (arZ G 1536 k243_ld))] H ∧ va_D A [(b_o, (oc12 u_th u_sa b_rf b_ro b_im b_ke u_fd b_tp u_td u_fr u_to u_so u_wo u_fa u_bd u_nc b_nl u_co b_op b_ar u_le b_pi b_pa u_pd u_od b_ws b_hw k62_la b_se b_re k62_bk k62_va k62_su k62_ce k62_ho k62_wy k62_bt k62_ps b_pt k62_tg k62_sn b_ip u_ic b_ah b_be b_me u_wd b_tr b_ld u_st b_wn u_id)), (b_ro, (arI G 5740 v_ro)), (b_se, (arJ G 13 k62_se)), (b_re, (arJ G 400 k62_re)), (b_pt, (arI G 200 k62_pt)), (b_tr, (arZ G 1536 k62_tr)), (b_ld, (arZ G 1536 k243_ld))] ∧ va_S A s.heap H locs ∧ (0 ≤ k243_6.toInt ∧ k243_6.toInt ≤ 64)) (fun (q : (Int32) × (Nat → Int32)) => match q with | (k243_6, k243_ld) => Int.toNat (64 - k243_6.toInt)) (0, k234_ld) ⟨lv_sub hl [0, 1, 2, 3, 4, 5, 6] rfl, hP, hD, hS, ⟨by decide, by decide⟩⟩ ?_
        rintro ⟨k243_6, k243_ld⟩ ls H locs ⟨hl, hP, hD, hS, (i_20 : 0 ≤ k243_6.toInt ∧ k243_6.toInt ≤ 64)⟩ ih_243_21
        replace hl : lv_has ls 9 [(6, .int k243_6), (5, .int k234_5), (4, .int k62_4), (0, .ref b_o), (1, .int p_1), (2, .int p_2), (3, .int p_3)] := hl
        refine g5_rs [(b_o, (oc12 u_th u_sa b_rf b_ro b_im b_ke u_fd b_tp u_td u_fr u_to u_so u_wo u_fa u_bd u_nc b_nl u_co b_op b_ar u_le b_pi b_pa u_pd u_od b_ws b_hw k62_la b_se b_re k62_bk k62_va k62_su k62_ce k62_ho k62_wy k62_bt k62_ps b_pt k62_tg k62_sn b_ip u_ic b_ah b_be b_me u_wd b_tr b_ld u_st b_wn u_id)), (b_ro, (arI G 5740 v_ro)), (b_se, (arJ G 13 k62_se)), (b_re, (arJ G 400 k62_re)), (b_pt, (arI G 200 k62_pt)), (b_tr, (arZ G 1536 k62_tr)), (b_ld, (arZ G 1536 k243_ld))] hP hD ?_
        clear hP hD
        intro hP hD
        refine lv_iload hx hb dX12_findSoonest_243 (lv_at hl 0 rfl) ?_
        refine lv_bipush (v := 64) hx hb dX12_findSoonest_245 (by decide +kernel) ?_
        refine lv_icmp_ge (tgt := 374) hx hb dX12_findSoonest_247 (by decide +kernel) (fun c_22 => ?_) (fun c_22 => ?_)
        ·
          have i_22 : k243_6.toInt ≥ 64 := g5_ge (a := k243_6.toInt) (b := 64) rfl (by decide +kernel) c_22
          obtain ⟨y23, hy_23, t_23⟩ := g_incN k234_5 (-1) (by decide +kernel) (by omega) (by omega)
          have t_23 : y23.toInt = k234_5.toInt + (-1) := t_23
          refine lv_iinc (v := y23) (lv' := [(5, .int y23), (6, .int k243_6), (4, .int k62_4), (0, .ref b_o), (1, .int p_1), (2, .int p_2), (3, .int p_3)]) hx hb dX12_findSoonest_374 hl (k := 1) rfl hy_23 (by decide +kernel) rfl ?_
          clear hl
          intro ls hl
          refine lv_goto (tgt := 234) hx hb dX12_findSoonest_377 (by decide +kernel) ?_
          exact ih_234_18 (y23, k243_ld) ls H locs (show Int.toNat (y23.toInt + 1) < Int.toNat (k234_5.toInt + 1) from g_dn (show y23.toInt < k234_5.toInt by omega) (show 0 ≤ k234_5.toInt by omega)) ⟨lv_sub hl [0, 2, 3, 4, 5, 6] rfl, hP, hD, hS, ⟨by omega, by omega⟩⟩
        ·
          have i_22 : k243_6.toInt < 64 := g5_geN (a := k243_6.toInt) (b := 64) rfl (by decide +kernel) c_22
          refine lv_iconst (v := 0) hx hb dX12_findSoonest_250 (by decide +kernel) ?_
          refine lv_istore (lv' := [(7, .int 0), (6, .int k243_6), (5, .int k234_5), (4, .int k62_4), (0, .ref b_o), (1, .int p_1), (2, .int p_2), (3, .int p_3)]) hx hb dX12_findSoonest_251 hl (by decide +kernel) rfl ?_
          clear hl
          intro ls hl
          refine g5_loop (α := (Int32) × (Nat → Int32)) (fun (q : (Int32) × (Nat → Int32)) (ls : Array Slot) (H : Heap) (locs : List Loc) => match q with | (k253_7, k253_ld) => lv_has ls 9 [(7, .int k253_7), (6, .int k243_6), (5, .int k234_5), (4, .int k62_4), (0, .ref b_o), (1, .int p_1), (2, .int p_2), (3, .int p_3)] ∧ va_P G.1 vwCl [(b_o, (oc12 u_th u_sa b_rf b_ro b_im b_ke u_fd b_tp u_td u_fr u_to u_so u_wo u_fa u_bd u_nc b_nl u_co b_op b_ar u_le b_pi b_pa u_pd u_od b_ws b_hw k62_la b_se b_re k62_bk k62_va k62_su k62_ce k62_ho k62_wy k62_bt k62_ps b_pt k62_tg k62_sn b_ip u_ic b_ah b_be b_me u_wd b_tr b_ld u_st b_wn u_id)), (b_ro, (arI G 5740 v_ro)), (b_se, (arJ G 13 k62_se)), (b_re, (arJ G 400 k62_re)), (b_pt, (arI G 200 k62_pt)), (b_tr, (arZ G 1536 k62_tr)), (b_ld, (arZ G 1536 k253_ld))] H ∧ va_D A [(b_o, (oc12 u_th u_sa b_rf b_ro b_im b_ke u_fd b_tp u_td u_fr u_to u_so u_wo u_fa u_bd u_nc b_nl u_co b_op b_ar u_le b_pi b_pa u_pd u_od b_ws b_hw k62_la b_se b_re k62_bk k62_va k62_su k62_ce k62_ho k62_wy k62_bt k62_ps b_pt k62_tg k62_sn b_ip u_ic b_ah b_be b_me u_wd b_tr b_ld u_st b_wn u_id)), (b_ro, (arI G 5740 v_ro)), (b_se, (arJ G 13 k62_se)), (b_re, (arJ G 400 k62_re)), (b_pt, (arI G 200 k62_pt)), (b_tr, (arZ G 1536 k62_tr)), (b_ld, (arZ G 1536 k253_ld))] ∧ va_S A s.heap H locs ∧ (0 ≤ k253_7.toInt ∧ k253_7.toInt ≤ 5)) (fun (q : (Int32) × (Nat → Int32)) => match q with | (k253_7, k253_ld) => Int.toNat (5 - k253_7.toInt)) (0, k243_ld) ⟨lv_sub hl [0, 1, 2, 3, 4, 5, 6, 7] rfl, hP, hD, hS, ⟨by decide, by decide⟩⟩ ?_
          rintro ⟨k253_7, k253_ld⟩ ls H locs ⟨hl, hP, hD, hS, (i_24 : 0 ≤ k253_7.toInt ∧ k253_7.toInt ≤ 5)⟩ ih_253_25
          replace hl : lv_has ls 9 [(7, .int k253_7), (6, .int k243_6), (5, .int k234_5), (4, .int k62_4), (0, .ref b_o), (1, .int p_1), (2, .int p_2), (3, .int p_3)] := hl
          refine g5_rs [(b_o, (oc12 u_th u_sa b_rf b_ro b_im b_ke u_fd b_tp u_td u_fr u_to u_so u_wo u_fa u_bd u_nc b_nl u_co b_op b_ar u_le b_pi b_pa u_pd u_od b_ws b_hw k62_la b_se b_re k62_bk k62_va k62_su k62_ce k62_ho k62_wy k62_bt k62_ps b_pt k62_tg k62_sn b_ip u_ic b_ah b_be b_me u_wd b_tr b_ld u_st b_wn u_id)), (b_ro, (arI G 5740 v_ro)), (b_se, (arJ G 13 k62_se)), (b_re, (arJ G 400 k62_re)), (b_pt, (arI G 200 k62_pt)), (b_tr, (arZ G 1536 k62_tr)), (b_ld, (arZ G 1536 k253_ld))] hP hD ?_
          clear hP hD
          intro hP hD
          refine lv_iload hx hb dX12_findSoonest_253 (lv_at hl 0 rfl) ?_
          refine lv_iconst (v := 5) hx hb dX12_findSoonest_255 (by decide +kernel) ?_
          refine lv_icmp_ge (tgt := 368) hx hb dX12_findSoonest_256 (by decide +kernel) (fun c_26 => ?_) (fun c_26 => ?_)
          ·
            have i_26 : k253_7.toInt ≥ 5 := g5_ge (a := k253_7.toInt) (b := 5) rfl (by decide +kernel) c_26
            refine lv_iinc (v := (k243_6 + 1)) (lv' := [(6, .int (k243_6 + 1)), (7, .int k253_7), (5, .int k234_5), (4, .int k62_4), (0, .ref b_o), (1, .int p_1), (2, .int p_2), (3, .int p_3)]) hx hb dX12_findSoonest_368 hl (k := 1) rfl rfl (by decide +kernel) rfl ?_
            clear hl
            intro ls hl
            have t_27 : (k243_6 + 1).toInt = k243_6.toInt + 1 := g5_iadd (a := k243_6.toInt) (b := 1) rfl (by decide +kernel) (by omega) (by omega)
            refine lv_goto (tgt := 243) hx hb dX12_findSoonest_371 (by decide +kernel) ?_
            exact ih_243_21 ((k243_6 + 1), k253_ld) ls H locs (show Int.toNat (64 - (k243_6 + 1).toInt) < Int.toNat (64 - k243_6.toInt) from g_up (show k243_6.toInt < (k243_6 + 1).toInt by omega) (show k243_6.toInt < 64 by omega)) ⟨lv_sub hl [0, 2, 3, 4, 5, 6, 7] rfl, hP, hD, hS, ⟨by omega, by omega⟩⟩
          ·
            have i_26 : k253_7.toInt < 5 := g5_geN (a := k253_7.toInt) (b := 5) rfl (by decide +kernel) c_26
            refine lv_iload hx hb dX12_findSoonest_259 (lv_at hl 0 rfl) ?_
            refine lv_iconst (v := 4) hx hb dX12_findSoonest_261 (by decide +kernel) ?_
            refine lv_icmp_ne (tgt := 270) hx hb dX12_findSoonest_262 (by decide +kernel) (fun c_28 => ?_) (fun c_28 => ?_)
            ·
              have n_28 : gNe (k253_7.toInt) (4) := g5_ne (a := k253_7.toInt) (b := 4) rfl (by decide +kernel) c_28
              have i_28 : k253_7.toInt ≤ 3 := by have z := g5_ne (a := k253_7.toInt) (b := 4) (by rfl) (by decide +kernel) c_28; omega
              refine lv_iload hx hb dX12_findSoonest_270 (lv_at hl 1 rfl) ?_
              refine lv_iload hx hb dX12_findSoonest_272 (lv_at hl 0 rfl) ?_
              obtain ⟨hPc, hDc, hFc⟩ := g5_sub3 (wc := []) hP hD hS hA [] (by decide +kernel) rfl
              refine va_calli (va_runS (As := [.int k243_6, .int k253_7]) (rest := []) ⟨hx, hb, hml, hown, hts⟩ (n_beside l G H.size k243_6 k253_7 ⟨by omega, by omega⟩) (va_cwS 2 hts gS_X12_374 rfl rfl rfl hs_X12_beside ⟨Nat.le_of_ble_eq_true rfl, Nat.le_of_ble_eq_true rfl⟩) (g5_preS hPc hK hDc hN hT hS hFc) rfl rfl hl.1 rfl (lv_room (Nat.le_of_ble_eq_true rfl)) dX12_findSoonest_274 ⟨Nat.le_of_ble_eq_true rfl, Nat.le_of_ble_eq_true rfl⟩) hS (fun q _ h => hFc q h) hFc (fun r u t H locs ht hvm hw hB hz1 hk1 hS => ?_)
              obtain ⟨hP1, hD1⟩ := hB
              have hP1 := g5_ht ht hP1
              obtain ⟨z30, (i_29 : -1 ≤ z30.toInt ∧ z30.toInt ≤ 63), y31, rfl⟩ := hw
              have hJ9 := g5_same hP hk1
              clear hP hPc hDc hFc ht hvm hz1 hk1 hP1 hD1
              have hP := hJ9
              clear hJ9
              refine g5_ti (v := z30) y31 ?_
              refine lv_istore (lv' := [(8, .int z30), (7, .int k253_7), (6, .int k243_6), (5, .int k234_5), (4, .int k62_4), (0, .ref b_o), (1, .int p_1), (2, .int p_2), (3, .int p_3)]) hx hb dX12_findSoonest_277 hl (by decide +kernel) rfl ?_
              clear hl
              intro ls hl
              refine W.eq (g2 := F0 m 279 ls []) rfl ?_
              refine lv_aload_n hx hb dX12_findSoonest_279 rfl (lv_at hl 5 rfl) ?_
              refine va_get (D := G.1) (ci := 12) (v := .ref b_ld) (C := RX12) (T := TX12) (N := 52) hx hb hts inG_X12 hown hK hP 0 rfl rfl 48 (by decide +kernel) (hts _ fl_X12_101) (fun _ h9 => h9) rfl dX12_findSoonest_280 ?_
              refine lv_bipush (v := 64) hx hb dX12_findSoonest_283 (by decide +kernel) ?_
              refine lv_iload hx hb dX12_findSoonest_285 (lv_at hl 3 rfl) ?_
              refine lv_imul hx hb dX12_findSoonest_287 ?_
              have t_32 : (64 * k234_5).toInt = 64 * k234_5.toInt := g5_imul (a := 64) (b := k234_5.toInt) (by decide +kernel) (by rfl) (by omega) (by omega)
              refine W.eq (g2 := F0 m 288 ls [.int (64 * k234_5), .ref b_ld]) rfl ?_
              refine lv_iload hx hb dX12_findSoonest_288 (lv_at hl 2 rfl) ?_
              refine lv_iadd hx hb dX12_findSoonest_290 ?_
              have t_33 : ((64 * k234_5) + k243_6).toInt = (64 * k234_5).toInt + k243_6.toInt := g5_iadd (a := (64 * k234_5).toInt) (b := k243_6.toInt) (by rfl) (by rfl) (by omega) (by omega)
              refine lv_aload_n hx hb dX12_findSoonest_291 rfl (lv_at hl 5 rfl) ?_
              refine va_get (D := G.1) (ci := 12) (v := .ref b_ld) (C := RX12) (T := TX12) (N := 52) hx hb hts inG_X12 hown hK hP 0 rfl rfl 48 (by decide +kernel) (hts _ fl_X12_101) (fun _ h9 => h9) rfl dX12_findSoonest_292 ?_
              refine lv_bipush (v := 64) hx hb dX12_findSoonest_295 (by decide +kernel) ?_
              refine W.eq (g2 := F0 m 297 ls [.int 64, .ref b_ld, .int ((64 * k234_5) + k243_6), .ref b_ld]) rfl ?_
              refine lv_iload hx hb dX12_findSoonest_297 (lv_at hl 3 rfl) ?_
              refine lv_imul hx hb dX12_findSoonest_299 ?_
              have t_34 : (64 * k234_5).toInt = 64 * k234_5.toInt := g5_imul (a := 64) (b := k234_5.toInt) (by decide +kernel) (by rfl) (by omega) (by omega)
              refine lv_iload hx hb dX12_findSoonest_300 (lv_at hl 2 rfl) ?_
              refine lv_iadd hx hb dX12_findSoonest_302 ?_
              have t_35 : ((64 * k234_5) + k243_6).toInt = (64 * k234_5).toInt + k243_6.toInt := g5_iadd (a := (64 * k234_5).toInt) (b := k243_6.toInt) (by rfl) (by rfl) (by omega) (by omega)
              refine va_zald hx hb hK hP 6 2 rfl rfl (i := ((64 * k234_5) + k243_6)) (vp_in_iff.mpr ⟨by omega, by omega⟩) dX12_findSoonest_303 ?_
              refine W.eq (g2 := F0 m 304 ls [.int (k253_ld ((64 * k234_5) + k243_6).toNatClampNeg), .int ((64 * k234_5) + k243_6), .ref b_ld]) rfl ?_
              refine lv_if_ne (tgt := 356) hx hb dX12_findSoonest_304 (by decide +kernel) (fun c_36 => ?_) (fun c_36 => ?_)
              ·
                have n_36 : gNe ((k253_ld ((64 * k234_5) + k243_6).toNatClampNeg).toInt) (0) := g5_ne (a := (k253_ld ((64 * k234_5) + k243_6).toNatClampNeg).toInt) (b := 0) rfl (by decide +kernel) c_36
                refine lv_iconst (v := 1) hx hb dX12_findSoonest_356 (by decide +kernel) ?_
                refine lv_goto (tgt := 361) hx hb dX12_findSoonest_357 (by decide +kernel) ?_
                refine va_zast hx hb hK hP hD hS 6 2 rfl rfl (i := ((64 * k234_5) + k243_6)) (x := 1) (vp_in_iff.mpr ⟨by omega, by omega⟩) dX12_findSoonest_361 ?_
                clear hP hD hS
                intro H locs hP hD hS
                refine g5_rs [(b_o, (oc12 u_th u_sa b_rf b_ro b_im b_ke u_fd b_tp u_td u_fr u_to u_so u_wo u_fa u_bd u_nc b_nl u_co b_op b_ar u_le b_pi b_pa u_pd u_od b_ws b_hw k62_la b_se b_re k62_bk k62_va k62_su k62_ce k62_ho k62_wy k62_bt k62_ps b_pt k62_tg k62_sn b_ip u_ic b_ah b_be b_me u_wd b_tr b_ld u_st b_wn u_id)), (b_ro, (arI G 5740 v_ro)), (b_se, (arJ G 13 k62_se)), (b_re, (arJ G 400 k62_re)), (b_pt, (arI G 200 k62_pt)), (b_tr, (arZ G 1536 k62_tr)), (b_ld, (arZ G 1536 (upd k253_ld ((64 * k234_5) + k243_6).toNatClampNeg 1)))] hP hD ?_
                clear hP hD
                intro hP hD
                refine lv_iinc (v := (k253_7 + 1)) (lv' := [(7, .int (k253_7 + 1)), (8, .int z30), (6, .int k243_6), (5, .int k234_5), (4, .int k62_4), (0, .ref b_o), (1, .int p_1), (2, .int p_2), (3, .int p_3)]) hx hb dX12_findSoonest_362 hl (k := 1) rfl rfl (by decide +kernel) rfl ?_
                clear hl
                intro ls hl
                have t_37 : (k253_7 + 1).toInt = k253_7.toInt + 1 := g5_iadd (a := k253_7.toInt) (b := 1) rfl (by decide +kernel) (by omega) (by omega)
                refine W.eq (g2 := F0 m 365 ls []) rfl ?_
                refine lv_goto (tgt := 253) hx hb dX12_findSoonest_365 (by decide +kernel) ?_
                exact ih_253_25 ((k253_7 + 1), (upd k253_ld ((64 * k234_5) + k243_6).toNatClampNeg 1)) ls H locs (show Int.toNat (5 - (k253_7 + 1).toInt) < Int.toNat (5 - k253_7.toInt) from g_up (show k253_7.toInt < (k253_7 + 1).toInt by omega) (show k253_7.toInt < 5 by omega)) ⟨lv_sub hl [0, 2, 3, 4, 5, 6, 7, 8] rfl, hP, hD, hS, ⟨by omega, by omega⟩⟩
              ·
                have i_36 : (k253_ld ((64 * k234_5) + k243_6).toNatClampNeg).toInt = 0 := g5_neN (a := (k253_ld ((64 * k234_5) + k243_6).toNatClampNeg).toInt) (b := 0) rfl (by decide +kernel) c_36
                refine lv_aload_n hx hb dX12_findSoonest_307 rfl (lv_at hl 5 rfl) ?_
                refine va_get (D := G.1) (ci := 12) (v := .ref b_tr) (C := RX12) (T := TX12) (N := 52) hx hb hts inG_X12 hown hK hP 0 rfl rfl 47 (by decide +kernel) (hts _ fl_X12_98) (fun _ h9 => h9) rfl dX12_findSoonest_308 ?_
                refine lv_bipush (v := 64) hx hb dX12_findSoonest_311 (by decide +kernel) ?_
                refine lv_iload hx hb dX12_findSoonest_313 (lv_at hl 3 rfl) ?_
                refine W.eq (g2 := F0 m 315 ls [.int k234_5, .int 64, .ref b_tr, .int ((64 * k234_5) + k243_6), .ref b_ld]) rfl ?_
                refine lv_imul hx hb dX12_findSoonest_315 ?_
                have t_38 : (64 * k234_5).toInt = 64 * k234_5.toInt := g5_imul (a := 64) (b := k234_5.toInt) (by decide +kernel) (by rfl) (by omega) (by omega)
                refine lv_iload hx hb dX12_findSoonest_316 (lv_at hl 2 rfl) ?_
                refine lv_iadd hx hb dX12_findSoonest_318 ?_
                have t_39 : ((64 * k234_5) + k243_6).toInt = (64 * k234_5).toInt + k243_6.toInt := g5_iadd (a := (64 * k234_5).toInt) (b := k243_6.toInt) (by rfl) (by rfl) (by omega) (by omega)
                refine va_zald hx hb hK hP 5 2 rfl rfl (i := ((64 * k234_5) + k243_6)) (vp_in_iff.mpr ⟨by omega, by omega⟩) dX12_findSoonest_319 ?_
                refine lv_if_eq (tgt := 360) hx hb dX12_findSoonest_320 (by decide +kernel) (fun c_40 => ?_) (fun c_40 => ?_)
                ·
                  have i_40 : (k62_tr ((64 * k234_5) + k243_6).toNatClampNeg).toInt = 0 := g5_eq (a := (k62_tr ((64 * k234_5) + k243_6).toNatClampNeg).toInt) (b := 0) rfl (by decide +kernel) c_40
                  refine lv_iconst (v := 0) hx hb dX12_findSoonest_360 (by decide +kernel) ?_
                  refine va_zast hx hb hK hP hD hS 6 2 rfl rfl (i := ((64 * k234_5) + k243_6)) (x := 0) (vp_in_iff.mpr ⟨by omega, by omega⟩) dX12_findSoonest_361 ?_
                  clear hP hD hS
                  intro H locs hP hD hS
                  refine g5_rs [(b_o, (oc12 u_th u_sa b_rf b_ro b_im b_ke u_fd b_tp u_td u_fr u_to u_so u_wo u_fa u_bd u_nc b_nl u_co b_op b_ar u_le b_pi b_pa u_pd u_od b_ws b_hw k62_la b_se b_re k62_bk k62_va k62_su k62_ce k62_ho k62_wy k62_bt k62_ps b_pt k62_tg k62_sn b_ip u_ic b_ah b_be b_me u_wd b_tr b_ld u_st b_wn u_id)), (b_ro, (arI G 5740 v_ro)), (b_se, (arJ G 13 k62_se)), (b_re, (arJ G 400 k62_re)), (b_pt, (arI G 200 k62_pt)), (b_tr, (arZ G 1536 k62_tr)), (b_ld, (arZ G 1536 (upd k253_ld ((64 * k234_5) + k243_6).toNatClampNeg 0)))] hP hD ?_
                  clear hP hD
                  intro hP hD
                  refine lv_iinc (v := (k253_7 + 1)) (lv' := [(7, .int (k253_7 + 1)), (8, .int z30), (6, .int k243_6), (5, .int k234_5), (4, .int k62_4), (0, .ref b_o), (1, .int p_1), (2, .int p_2), (3, .int p_3)]) hx hb dX12_findSoonest_362 hl (k := 1) rfl rfl (by decide +kernel) rfl ?_
                  clear hl
                  intro ls hl
                  have t_41 : (k253_7 + 1).toInt = k253_7.toInt + 1 := g5_iadd (a := k253_7.toInt) (b := 1) rfl (by decide +kernel) (by omega) (by omega)
                  refine lv_goto (tgt := 253) hx hb dX12_findSoonest_365 (by decide +kernel) ?_
                  exact ih_253_25 ((k253_7 + 1), (upd k253_ld ((64 * k234_5) + k243_6).toNatClampNeg 0)) ls H locs (show Int.toNat (5 - (k253_7 + 1).toInt) < Int.toNat (5 - k253_7.toInt) from g_up (show k253_7.toInt < (k253_7 + 1).toInt by omega) (show k253_7.toInt < 5 by omega)) ⟨lv_sub hl [0, 2, 3, 4, 5, 6, 7, 8] rfl, hP, hD, hS, ⟨by omega, by omega⟩⟩
                ·
                  have n_40 : gNe ((k62_tr ((64 * k234_5) + k243_6).toNatClampNeg).toInt) (0) := g5_eqN (a := (k62_tr ((64 * k234_5) + k243_6).toNatClampNeg).toInt) (b := 0) rfl (by decide +kernel) c_40
                  refine lv_iload hx hb dX12_findSoonest_323 (lv_at hl 0 rfl) ?_
                  refine lv_iconst (v := (-1)) hx hb dX12_findSoonest_325 (by decide +kernel) ?_
                  refine lv_icmp_eq (tgt := 360) hx hb dX12_findSoonest_326 (by decide +kernel) (fun c_42 => ?_) (fun c_42 => ?_)
                  ·
                    have i_42 : z30.toInt = (-1) := g5_eq (a := z30.toInt) (b := (-1)) rfl (by decide +kernel) c_42
                    refine lv_iconst (v := 0) hx hb dX12_findSoonest_360 (by decide +kernel) ?_
                    refine va_zast hx hb hK hP hD hS 6 2 rfl rfl (i := ((64 * k234_5) + k243_6)) (x := 0) (vp_in_iff.mpr ⟨by omega, by omega⟩) dX12_findSoonest_361 ?_
                    clear hP hD hS
                    intro H locs hP hD hS
                    refine g5_rs [(b_o, (oc12 u_th u_sa b_rf b_ro b_im b_ke u_fd b_tp u_td u_fr u_to u_so u_wo u_fa u_bd u_nc b_nl u_co b_op b_ar u_le b_pi b_pa u_pd u_od b_ws b_hw k62_la b_se b_re k62_bk k62_va k62_su k62_ce k62_ho k62_wy k62_bt k62_ps b_pt k62_tg k62_sn b_ip u_ic b_ah b_be b_me u_wd b_tr b_ld u_st b_wn u_id)), (b_ro, (arI G 5740 v_ro)), (b_se, (arJ G 13 k62_se)), (b_re, (arJ G 400 k62_re)), (b_pt, (arI G 200 k62_pt)), (b_tr, (arZ G 1536 k62_tr)), (b_ld, (arZ G 1536 (upd k253_ld ((64 * k234_5) + k243_6).toNatClampNeg 0)))] hP hD ?_
                    clear hP hD
                    intro hP hD
                    refine lv_iinc (v := (k253_7 + 1)) (lv' := [(7, .int (k253_7 + 1)), (8, .int z30), (6, .int k243_6), (5, .int k234_5), (4, .int k62_4), (0, .ref b_o), (1, .int p_1), (2, .int p_2), (3, .int p_3)]) hx hb dX12_findSoonest_362 hl (k := 1) rfl rfl (by decide +kernel) rfl ?_
                    clear hl
                    intro ls hl
                    have t_43 : (k253_7 + 1).toInt = k253_7.toInt + 1 := g5_iadd (a := k253_7.toInt) (b := 1) rfl (by decide +kernel) (by omega) (by omega)
                    refine lv_goto (tgt := 253) hx hb dX12_findSoonest_365 (by decide +kernel) ?_
                    exact ih_253_25 ((k253_7 + 1), (upd k253_ld ((64 * k234_5) + k243_6).toNatClampNeg 0)) ls H locs (show Int.toNat (5 - (k253_7 + 1).toInt) < Int.toNat (5 - k253_7.toInt) from g_up (show k253_7.toInt < (k253_7 + 1).toInt by omega) (show k253_7.toInt < 5 by omega)) ⟨lv_sub hl [0, 2, 3, 4, 5, 6, 7, 8] rfl, hP, hD, hS, ⟨by omega, by omega⟩⟩
                  ·
                    have n_42 : gNe (z30.toInt) ((-1)) := g5_eqN (a := z30.toInt) (b := (-1)) rfl (by decide +kernel) c_42
                    have i_42 : z30.toInt ≥ 0 := by have z := g5_eqN (a := z30.toInt) (b := (-1)) (by rfl) (by decide +kernel) c_42; omega
                    refine lv_aload_n hx hb dX12_findSoonest_329 rfl (lv_at hl 5 rfl) ?_
                    refine va_get (D := G.1) (ci := 12) (v := .ref b_ld) (C := RX12) (T := TX12) (N := 52) hx hb hts inG_X12 hown hK hP 0 rfl rfl 48 (by decide +kernel) (hts _ fl_X12_101) (fun _ h9 => h9) rfl dX12_findSoonest_330 ?_
                    refine lv_bipush (v := 64) hx hb dX12_findSoonest_333 (by decide +kernel) ?_
                    refine lv_iload hx hb dX12_findSoonest_335 (lv_at hl 3 rfl) ?_
                    refine W.eq (g2 := F0 m 337 ls [.int k234_5, .int 64, .ref b_ld, .int ((64 * k234_5) + k243_6), .ref b_ld]) rfl ?_
                    refine lv_iconst (v := 1) hx hb dX12_findSoonest_337 (by decide +kernel) ?_
                    refine lv_iadd hx hb dX12_findSoonest_338 ?_
                    have t_44 : (k234_5 + 1).toInt = k234_5.toInt + 1 := g5_iadd (a := k234_5.toInt) (b := 1) (by rfl) (by decide +kernel) (by omega) (by omega)
                    refine lv_imul hx hb dX12_findSoonest_339 ?_
                    have t_45 : (64 * (k234_5 + 1)).toInt = 64 * (k234_5 + 1).toInt := g5_imul (a := 64) (b := (k234_5 + 1).toInt) (by decide +kernel) (by rfl) (by omega) (by omega)
                    refine lv_iload hx hb dX12_findSoonest_340 (lv_at hl 0 rfl) ?_
                    refine lv_if_ge (tgt := 349) hx hb dX12_findSoonest_342 (by decide +kernel) (fun c_46 => ?_) (fun c_46 => ?_)
                    ·
                      have i_46 : z30.toInt ≥ 0 := g5_ge (a := z30.toInt) (b := 0) rfl (by decide +kernel) c_46
                      refine lv_iload hx hb dX12_findSoonest_349 (lv_at hl 0 rfl) ?_
                      refine lv_iadd hx hb dX12_findSoonest_351 ?_
                      have t_47 : ((64 * (k234_5 + 1)) + z30).toInt = (64 * (k234_5 + 1)).toInt + z30.toInt := g5_iadd (a := (64 * (k234_5 + 1)).toInt) (b := z30.toInt) (by rfl) (by rfl) (by omega) (by omega)
                      refine va_zald hx hb hK hP 6 2 rfl rfl (i := ((64 * (k234_5 + 1)) + z30)) (vp_in_iff.mpr ⟨by omega, by omega⟩) dX12_findSoonest_352 ?_
                      refine lv_if_eq (tgt := 360) hx hb dX12_findSoonest_353 (by decide +kernel) (fun c_48 => ?_) (fun c_48 => ?_)
                      ·
                        have i_48 : (k253_ld ((64 * (k234_5 + 1)) + z30).toNatClampNeg).toInt = 0 := g5_eq (a := (k253_ld ((64 * (k234_5 + 1)) + z30).toNatClampNeg).toInt) (b := 0) rfl (by decide +kernel) c_48
                        refine lv_iconst (v := 0) hx hb dX12_findSoonest_360 (by decide +kernel) ?_
                        refine va_zast hx hb hK hP hD hS 6 2 rfl rfl (i := ((64 * k234_5) + k243_6)) (x := 0) (vp_in_iff.mpr ⟨by omega, by omega⟩) dX12_findSoonest_361 ?_
                        clear hP hD hS
                        intro H locs hP hD hS
                        refine g5_rs [(b_o, (oc12 u_th u_sa b_rf b_ro b_im b_ke u_fd b_tp u_td u_fr u_to u_so u_wo u_fa u_bd u_nc b_nl u_co b_op b_ar u_le b_pi b_pa u_pd u_od b_ws b_hw k62_la b_se b_re k62_bk k62_va k62_su k62_ce k62_ho k62_wy k62_bt k62_ps b_pt k62_tg k62_sn b_ip u_ic b_ah b_be b_me u_wd b_tr b_ld u_st b_wn u_id)), (b_ro, (arI G 5740 v_ro)), (b_se, (arJ G 13 k62_se)), (b_re, (arJ G 400 k62_re)), (b_pt, (arI G 200 k62_pt)), (b_tr, (arZ G 1536 k62_tr)), (b_ld, (arZ G 1536 (upd k253_ld ((64 * k234_5) + k243_6).toNatClampNeg 0)))] hP hD ?_
                        clear hP hD
                        intro hP hD
                        refine lv_iinc (v := (k253_7 + 1)) (lv' := [(7, .int (k253_7 + 1)), (8, .int z30), (6, .int k243_6), (5, .int k234_5), (4, .int k62_4), (0, .ref b_o), (1, .int p_1), (2, .int p_2), (3, .int p_3)]) hx hb dX12_findSoonest_362 hl (k := 1) rfl rfl (by decide +kernel) rfl ?_
                        clear hl
                        intro ls hl
                        have t_49 : (k253_7 + 1).toInt = k253_7.toInt + 1 := g5_iadd (a := k253_7.toInt) (b := 1) rfl (by decide +kernel) (by omega) (by omega)
                        refine lv_goto (tgt := 253) hx hb dX12_findSoonest_365 (by decide +kernel) ?_
                        exact ih_253_25 ((k253_7 + 1), (upd k253_ld ((64 * k234_5) + k243_6).toNatClampNeg 0)) ls H locs (show Int.toNat (5 - (k253_7 + 1).toInt) < Int.toNat (5 - k253_7.toInt) from g_up (show k253_7.toInt < (k253_7 + 1).toInt by omega) (show k253_7.toInt < 5 by omega)) ⟨lv_sub hl [0, 2, 3, 4, 5, 6, 7, 8] rfl, hP, hD, hS, ⟨by omega, by omega⟩⟩
                      ·
                        have n_48 : gNe ((k253_ld ((64 * (k234_5 + 1)) + z30).toNatClampNeg).toInt) (0) := g5_eqN (a := (k253_ld ((64 * (k234_5 + 1)) + z30).toNatClampNeg).toInt) (b := 0) rfl (by decide +kernel) c_48
                        refine lv_iconst (v := 1) hx hb dX12_findSoonest_356 (by decide +kernel) ?_
                        refine lv_goto (tgt := 361) hx hb dX12_findSoonest_357 (by decide +kernel) ?_
                        refine va_zast hx hb hK hP hD hS 6 2 rfl rfl (i := ((64 * k234_5) + k243_6)) (x := 1) (vp_in_iff.mpr ⟨by omega, by omega⟩) dX12_findSoonest_361 ?_
                        clear hP hD hS
                        intro H locs hP hD hS
                        refine g5_rs [(b_o, (oc12 u_th u_sa b_rf b_ro b_im b_ke u_fd b_tp u_td u_fr u_to u_so u_wo u_fa u_bd u_nc b_nl u_co b_op b_ar u_le b_pi b_pa u_pd u_od b_ws b_hw k62_la b_se b_re k62_bk k62_va k62_su k62_ce k62_ho k62_wy k62_bt k62_ps b_pt k62_tg k62_sn b_ip u_ic b_ah b_be b_me u_wd b_tr b_ld u_st b_wn u_id)), (b_ro, (arI G 5740 v_ro)), (b_se, (arJ G 13 k62_se)), (b_re, (arJ G 400 k62_re)), (b_pt, (arI G 200 k62_pt)), (b_tr, (arZ G 1536 k62_tr)), (b_ld, (arZ G 1536 (upd k253_ld ((64 * k234_5) + k243_6).toNatClampNeg 1)))] hP hD ?_
                        clear hP hD
                        intro hP hD
                        refine lv_iinc (v := (k253_7 + 1)) (lv' := [(7, .int (k253_7 + 1)), (8, .int z30), (6, .int k243_6), (5, .int k234_5), (4, .int k62_4), (0, .ref b_o), (1, .int p_1), (2, .int p_2), (3, .int p_3)]) hx hb dX12_findSoonest_362 hl (k := 1) rfl rfl (by decide +kernel) rfl ?_
                        clear hl
                        intro ls hl
                        have t_50 : (k253_7 + 1).toInt = k253_7.toInt + 1 := g5_iadd (a := k253_7.toInt) (b := 1) rfl (by decide +kernel) (by omega) (by omega)
                        refine W.eq (g2 := F0 m 365 ls []) rfl ?_
                        refine lv_goto (tgt := 253) hx hb dX12_findSoonest_365 (by decide +kernel) ?_
                        exact ih_253_25 ((k253_7 + 1), (upd k253_ld ((64 * k234_5) + k243_6).toNatClampNeg 1)) ls H locs (show Int.toNat (5 - (k253_7 + 1).toInt) < Int.toNat (5 - k253_7.toInt) from g_up (show k253_7.toInt < (k253_7 + 1).toInt by omega) (show k253_7.toInt < 5 by omega)) ⟨lv_sub hl [0, 2, 3, 4, 5, 6, 7, 8] rfl, hP, hD, hS, ⟨by omega, by omega⟩⟩
                    ·
                      have i_46 : z30.toInt < 0 := g5_geN (a := z30.toInt) (b := 0) rfl (by decide +kernel) c_46
                      omega
            ·
              have i_28 : k253_7.toInt = 4 := g5_neN (a := k253_7.toInt) (b := 4) rfl (by decide +kernel) c_28
              refine lv_iload hx hb dX12_findSoonest_265 (lv_at hl 1 rfl) ?_
              refine lv_goto (tgt := 277) hx hb dX12_findSoonest_267 (by decide +kernel) ?_
              refine lv_istore (lv' := [(8, .int k243_6), (7, .int k253_7), (6, .int k243_6), (5, .int k234_5), (4, .int k62_4), (0, .ref b_o), (1, .int p_1), (2, .int p_2), (3, .int p_3)]) hx hb dX12_findSoonest_277 hl (by decide +kernel) rfl ?_
              clear hl
              intro ls hl
              refine lv_aload_n hx hb dX12_findSoonest_279 rfl (lv_at hl 5 rfl) ?_
              refine W.eq (g2 := F0 m 280 ls [.ref b_o]) rfl ?_
              refine va_get (D := G.1) (ci := 12) (v := .ref b_ld) (C := RX12) (T := TX12) (N := 52) hx hb hts inG_X12 hown hK hP 0 rfl rfl 48 (by decide +kernel) (hts _ fl_X12_101) (fun _ h9 => h9) rfl dX12_findSoonest_280 ?_
              refine lv_bipush (v := 64) hx hb dX12_findSoonest_283 (by decide +kernel) ?_
              refine lv_iload hx hb dX12_findSoonest_285 (lv_at hl 3 rfl) ?_
              refine lv_imul hx hb dX12_findSoonest_287 ?_
              have t_51 : (64 * k234_5).toInt = 64 * k234_5.toInt := g5_imul (a := 64) (b := k234_5.toInt) (by decide +kernel) (by rfl) (by omega) (by omega)
              refine lv_iload hx hb dX12_findSoonest_288 (lv_at hl 2 rfl) ?_
              refine W.eq (g2 := F0 m 290 ls [.int k243_6, .int (64 * k234_5), .ref b_ld]) rfl ?_
              refine lv_iadd hx hb dX12_findSoonest_290 ?_
              have t_52 : ((64 * k234_5) + k243_6).toInt = (64 * k234_5).toInt + k243_6.toInt := g5_iadd (a := (64 * k234_5).toInt) (b := k243_6.toInt) (by rfl) (by rfl) (by omega) (by omega)
              refine lv_aload_n hx hb dX12_findSoonest_291 rfl (lv_at hl 5 rfl) ?_
              refine va_get (D := G.1) (ci := 12) (v := .ref b_ld) (C := RX12) (T := TX12) (N := 52) hx hb hts inG_X12 hown hK hP 0 rfl rfl 48 (by decide +kernel) (hts _ fl_X12_101) (fun _ h9 => h9) rfl dX12_findSoonest_292 ?_
              refine lv_bipush (v := 64) hx hb dX12_findSoonest_295 (by decide +kernel) ?_
              refine lv_iload hx hb dX12_findSoonest_297 (lv_at hl 3 rfl) ?_
              refine W.eq (g2 := F0 m 299 ls [.int k234_5, .int 64, .ref b_ld, .int ((64 * k234_5) + k243_6), .ref b_ld]) rfl ?_
              refine lv_imul hx hb dX12_findSoonest_299 ?_
              have t_53 : (64 * k234_5).toInt = 64 * k234_5.toInt := g5_imul (a := 64) (b := k234_5.toInt) (by decide +kernel) (by rfl) (by omega) (by omega)
              refine lv_iload hx hb dX12_findSoonest_300 (lv_at hl 2 rfl) ?_
              refine lv_iadd hx hb dX12_findSoonest_302 ?_
              have t_54 : ((64 * k234_5) + k243_6).toInt = (64 * k234_5).toInt + k243_6.toInt := g5_iadd (a := (64 * k234_5).toInt) (b := k243_6.toInt) (by rfl) (by rfl) (by omega) (by omega)
              refine va_zald hx hb hK hP 6 2 rfl rfl (i := ((64 * k234_5) + k243_6)) (vp_in_iff.mpr ⟨by omega, by omega⟩) dX12_findSoonest_303 ?_
              refine lv_if_ne (tgt := 356) hx hb dX12_findSoonest_304 (by decide +kernel) (fun c_55 => ?_) (fun c_55 => ?_)
              ·
                have n_55 : gNe ((k253_ld ((64 * k234_5) + k243_6).toNatClampNeg).toInt) (0) := g5_ne (a := (k253_ld ((64 * k234_5) + k243_6).toNatClampNeg).toInt) (b := 0) rfl (by decide +kernel) c_55
                refine lv_iconst (v := 1) hx hb dX12_findSoonest_356 (by decide +kernel) ?_
                refine lv_goto (tgt := 361) hx hb dX12_findSoonest_357 (by decide +kernel) ?_
                refine va_zast hx hb hK hP hD hS 6 2 rfl rfl (i := ((64 * k234_5) + k243_6)) (x := 1) (vp_in_iff.mpr ⟨by omega, by omega⟩) dX12_findSoonest_361 ?_
                clear hP hD hS
                intro H locs hP hD hS
                refine g5_rs [(b_o, (oc12 u_th u_sa b_rf b_ro b_im b_ke u_fd b_tp u_td u_fr u_to u_so u_wo u_fa u_bd u_nc b_nl u_co b_op b_ar u_le b_pi b_pa u_pd u_od b_ws b_hw k62_la b_se b_re k62_bk k62_va k62_su k62_ce k62_ho k62_wy k62_bt k62_ps b_pt k62_tg k62_sn b_ip u_ic b_ah b_be b_me u_wd b_tr b_ld u_st b_wn u_id)), (b_ro, (arI G 5740 v_ro)), (b_se, (arJ G 13 k62_se)), (b_re, (arJ G 400 k62_re)), (b_pt, (arI G 200 k62_pt)), (b_tr, (arZ G 1536 k62_tr)), (b_ld, (arZ G 1536 (upd k253_ld ((64 * k234_5) + k243_6).toNatClampNeg 1)))] hP hD ?_
                clear hP hD
                intro hP hD
                refine lv_iinc (v := (k253_7 + 1)) (lv' := [(7, .int (k253_7 + 1)), (8, .int k243_6), (6, .int k243_6), (5, .int k234_5), (4, .int k62_4), (0, .ref b_o), (1, .int p_1), (2, .int p_2), (3, .int p_3)]) hx hb dX12_findSoonest_362 hl (k := 1) rfl rfl (by decide +kernel) rfl ?_
                clear hl
                intro ls hl
                have t_56 : (k253_7 + 1).toInt = k253_7.toInt + 1 := g5_iadd (a := k253_7.toInt) (b := 1) rfl (by decide +kernel) (by omega) (by omega)
                refine W.eq (g2 := F0 m 365 ls []) rfl ?_
                refine lv_goto (tgt := 253) hx hb dX12_findSoonest_365 (by decide +kernel) ?_
                exact ih_253_25 ((k253_7 + 1), (upd k253_ld ((64 * k234_5) + k243_6).toNatClampNeg 1)) ls H locs (show Int.toNat (5 - (k253_7 + 1).toInt) < Int.toNat (5 - k253_7.toInt) from g_up (show k253_7.toInt < (k253_7 + 1).toInt by omega) (show k253_7.toInt < 5 by omega)) ⟨lv_sub hl [0, 2, 3, 4, 5, 6, 7, 8] rfl, hP, hD, hS, ⟨by omega, by omega⟩⟩
              ·
                have i_55 : (k253_ld ((64 * k234_5) + k243_6).toNatClampNeg).toInt = 0 := g5_neN (a := (k253_ld ((64 * k234_5) + k243_6).toNatClampNeg).toInt) (b := 0) rfl (by decide +kernel) c_55
                refine lv_aload_n hx hb dX12_findSoonest_307 rfl (lv_at hl 5 rfl) ?_
                refine va_get (D := G.1) (ci := 12) (v := .ref b_tr) (C := RX12) (T := TX12) (N := 52) hx hb hts inG_X12 hown hK hP 0 rfl rfl 47 (by decide +kernel) (hts _ fl_X12_98) (fun _ h9 => h9) rfl dX12_findSoonest_308 ?_
                refine lv_bipush (v := 64) hx hb dX12_findSoonest_311 (by decide +kernel) ?_
                refine lv_iload hx hb dX12_findSoonest_313 (lv_at hl 3 rfl) ?_
                refine W.eq (g2 := F0 m 315 ls [.int k234_5, .int 64, .ref b_tr, .int ((64 * k234_5) + k243_6), .ref b_ld]) rfl ?_
                refine lv_imul hx hb dX12_findSoonest_315 ?_
                have t_57 : (64 * k234_5).toInt = 64 * k234_5.toInt := g5_imul (a := 64) (b := k234_5.toInt) (by decide +kernel) (by rfl) (by omega) (by omega)
                refine lv_iload hx hb dX12_findSoonest_316 (lv_at hl 2 rfl) ?_
                refine lv_iadd hx hb dX12_findSoonest_318 ?_
                have t_58 : ((64 * k234_5) + k243_6).toInt = (64 * k234_5).toInt + k243_6.toInt := g5_iadd (a := (64 * k234_5).toInt) (b := k243_6.toInt) (by rfl) (by rfl) (by omega) (by omega)
                refine va_zald hx hb hK hP 5 2 rfl rfl (i := ((64 * k234_5) + k243_6)) (vp_in_iff.mpr ⟨by omega, by omega⟩) dX12_findSoonest_319 ?_
                refine lv_if_eq (tgt := 360) hx hb dX12_findSoonest_320 (by decide +kernel) (fun c_59 => ?_) (fun c_59 => ?_)
                ·
                  have i_59 : (k62_tr ((64 * k234_5) + k243_6).toNatClampNeg).toInt = 0 := g5_eq (a := (k62_tr ((64 * k234_5) + k243_6).toNatClampNeg).toInt) (b := 0) rfl (by decide +kernel) c_59
                  refine lv_iconst (v := 0) hx hb dX12_findSoonest_360 (by decide +kernel) ?_
                  refine va_zast hx hb hK hP hD hS 6 2 rfl rfl (i := ((64 * k234_5) + k243_6)) (x := 0) (vp_in_iff.mpr ⟨by omega, by omega⟩) dX12_findSoonest_361 ?_
                  clear hP hD hS
                  intro H locs hP hD hS
                  refine g5_rs [(b_o, (oc12 u_th u_sa b_rf b_ro b_im b_ke u_fd b_tp u_td u_fr u_to u_so u_wo u_fa u_bd u_nc b_nl u_co b_op b_ar u_le b_pi b_pa u_pd u_od b_ws b_hw k62_la b_se b_re k62_bk k62_va k62_su k62_ce k62_ho k62_wy k62_bt k62_ps b_pt k62_tg k62_sn b_ip u_ic b_ah b_be b_me u_wd b_tr b_ld u_st b_wn u_id)), (b_ro, (arI G 5740 v_ro)), (b_se, (arJ G 13 k62_se)), (b_re, (arJ G 400 k62_re)), (b_pt, (arI G 200 k62_pt)), (b_tr, (arZ G 1536 k62_tr)), (b_ld, (arZ G 1536 (upd k253_ld ((64 * k234_5) + k243_6).toNatClampNeg 0)))] hP hD ?_
                  clear hP hD
                  intro hP hD
                  refine lv_iinc (v := (k253_7 + 1)) (lv' := [(7, .int (k253_7 + 1)), (8, .int k243_6), (6, .int k243_6), (5, .int k234_5), (4, .int k62_4), (0, .ref b_o), (1, .int p_1), (2, .int p_2), (3, .int p_3)]) hx hb dX12_findSoonest_362 hl (k := 1) rfl rfl (by decide +kernel) rfl ?_
                  clear hl
                  intro ls hl
                  have t_60 : (k253_7 + 1).toInt = k253_7.toInt + 1 := g5_iadd (a := k253_7.toInt) (b := 1) rfl (by decide +kernel) (by omega) (by omega)
                  refine lv_goto (tgt := 253) hx hb dX12_findSoonest_365 (by decide +kernel) ?_
                  exact ih_253_25 ((k253_7 + 1), (upd k253_ld ((64 * k234_5) + k243_6).toNatClampNeg 0)) ls H locs (show Int.toNat (5 - (k253_7 + 1).toInt) < Int.toNat (5 - k253_7.toInt) from g_up (show k253_7.toInt < (k253_7 + 1).toInt by omega) (show k253_7.toInt < 5 by omega)) ⟨lv_sub hl [0, 2, 3, 4, 5, 6, 7, 8] rfl, hP, hD, hS, ⟨by omega, by omega⟩⟩
                ·
                  have n_59 : gNe ((k62_tr ((64 * k234_5) + k243_6).toNatClampNeg).toInt) (0) := g5_eqN (a := (k62_tr ((64 * k234_5) + k243_6).toNatClampNeg).toInt) (b := 0) rfl (by decide +kernel) c_59
                  refine lv_iload hx hb dX12_findSoonest_323 (lv_at hl 0 rfl) ?_
                  refine lv_iconst (v := (-1)) hx hb dX12_findSoonest_325 (by decide +kernel) ?_
                  refine lv_icmp_eq (tgt := 360) hx hb dX12_findSoonest_326 (by decide +kernel) (fun c_61 => ?_) (fun c_61 => ?_)
                  ·
                    have i_61 : k243_6.toInt = (-1) := g5_eq (a := k243_6.toInt) (b := (-1)) rfl (by decide +kernel) c_61
                    omega
                  ·
                    have n_61 : gNe (k243_6.toInt) ((-1)) := g5_eqN (a := k243_6.toInt) (b := (-1)) rfl (by decide +kernel) c_61
                    refine lv_aload_n hx hb dX12_findSoonest_329 rfl (lv_at hl 5 rfl) ?_
                    refine va_get (D := G.1) (ci := 12) (v := .ref b_ld) (C := RX12) (T := TX12) (N := 52) hx hb hts inG_X12 hown hK hP 0 rfl rfl 48 (by decide +kernel) (hts _ fl_X12_101) (fun _ h9 => h9) rfl dX12_findSoonest_330 ?_
                    refine lv_bipush (v := 64) hx hb dX12_findSoonest_333 (by decide +kernel) ?_
                    refine lv_iload hx hb dX12_findSoonest_335 (lv_at hl 3 rfl) ?_
                    refine W.eq (g2 := F0 m 337 ls [.int k234_5, .int 64, .ref b_ld, .int ((64 * k234_5) + k243_6), .ref b_ld]) rfl ?_
                    refine lv_iconst (v := 1) hx hb dX12_findSoonest_337 (by decide +kernel) ?_
                    refine lv_iadd hx hb dX12_findSoonest_338 ?_
                    have t_62 : (k234_5 + 1).toInt = k234_5.toInt + 1 := g5_iadd (a := k234_5.toInt) (b := 1) (by rfl) (by decide +kernel) (by omega) (by omega)
                    refine lv_imul hx hb dX12_findSoonest_339 ?_
                    have t_63 : (64 * (k234_5 + 1)).toInt = 64 * (k234_5 + 1).toInt := g5_imul (a := 64) (b := (k234_5 + 1).toInt) (by decide +kernel) (by rfl) (by omega) (by omega)
                    refine lv_iload hx hb dX12_findSoonest_340 (lv_at hl 0 rfl) ?_
                    refine lv_if_ge (tgt := 349) hx hb dX12_findSoonest_342 (by decide +kernel) (fun c_64 => ?_) (fun c_64 => ?_)
                    ·
                      have i_64 : k243_6.toInt ≥ 0 := g5_ge (a := k243_6.toInt) (b := 0) rfl (by decide +kernel) c_64
                      refine lv_iload hx hb dX12_findSoonest_349 (lv_at hl 0 rfl) ?_
                      refine lv_iadd hx hb dX12_findSoonest_351 ?_
                      have t_65 : ((64 * (k234_5 + 1)) + k243_6).toInt = (64 * (k234_5 + 1)).toInt + k243_6.toInt := g5_iadd (a := (64 * (k234_5 + 1)).toInt) (b := k243_6.toInt) (by rfl) (by rfl) (by omega) (by omega)
                      refine va_zald hx hb hK hP 6 2 rfl rfl (i := ((64 * (k234_5 + 1)) + k243_6)) (vp_in_iff.mpr ⟨by omega, by omega⟩) dX12_findSoonest_352 ?_
                      refine lv_if_eq (tgt := 360) hx hb dX12_findSoonest_353 (by decide +kernel) (fun c_66 => ?_) (fun c_66 => ?_)
                      ·
                        have i_66 : (k253_ld ((64 * (k234_5 + 1)) + k243_6).toNatClampNeg).toInt = 0 := g5_eq (a := (k253_ld ((64 * (k234_5 + 1)) + k243_6).toNatClampNeg).toInt) (b := 0) rfl (by decide +kernel) c_66
                        refine lv_iconst (v := 0) hx hb dX12_findSoonest_360 (by decide +kernel) ?_
                        refine va_zast hx hb hK hP hD hS 6 2 rfl rfl (i := ((64 * k234_5) + k243_6)) (x := 0) (vp_in_iff.mpr ⟨by omega, by omega⟩) dX12_findSoonest_361 ?_
                        clear hP hD hS
                        intro H locs hP hD hS
                        refine g5_rs [(b_o, (oc12 u_th u_sa b_rf b_ro b_im b_ke u_fd b_tp u_td u_fr u_to u_so u_wo u_fa u_bd u_nc b_nl u_co b_op b_ar u_le b_pi b_pa u_pd u_od b_ws b_hw k62_la b_se b_re k62_bk k62_va k62_su k62_ce k62_ho k62_wy k62_bt k62_ps b_pt k62_tg k62_sn b_ip u_ic b_ah b_be b_me u_wd b_tr b_ld u_st b_wn u_id)), (b_ro, (arI G 5740 v_ro)), (b_se, (arJ G 13 k62_se)), (b_re, (arJ G 400 k62_re)), (b_pt, (arI G 200 k62_pt)), (b_tr, (arZ G 1536 k62_tr)), (b_ld, (arZ G 1536 (upd k253_ld ((64 * k234_5) + k243_6).toNatClampNeg 0)))] hP hD ?_
                        clear hP hD
                        intro hP hD
                        refine lv_iinc (v := (k253_7 + 1)) (lv' := [(7, .int (k253_7 + 1)), (8, .int k243_6), (6, .int k243_6), (5, .int k234_5), (4, .int k62_4), (0, .ref b_o), (1, .int p_1), (2, .int p_2), (3, .int p_3)]) hx hb dX12_findSoonest_362 hl (k := 1) rfl rfl (by decide +kernel) rfl ?_
                        clear hl
                        intro ls hl
                        have t_67 : (k253_7 + 1).toInt = k253_7.toInt + 1 := g5_iadd (a := k253_7.toInt) (b := 1) rfl (by decide +kernel) (by omega) (by omega)
                        refine lv_goto (tgt := 253) hx hb dX12_findSoonest_365 (by decide +kernel) ?_
                        exact ih_253_25 ((k253_7 + 1), (upd k253_ld ((64 * k234_5) + k243_6).toNatClampNeg 0)) ls H locs (show Int.toNat (5 - (k253_7 + 1).toInt) < Int.toNat (5 - k253_7.toInt) from g_up (show k253_7.toInt < (k253_7 + 1).toInt by omega) (show k253_7.toInt < 5 by omega)) ⟨lv_sub hl [0, 2, 3, 4, 5, 6, 7, 8] rfl, hP, hD, hS, ⟨by omega, by omega⟩⟩
                      ·
                        have n_66 : gNe ((k253_ld ((64 * (k234_5 + 1)) + k243_6).toNatClampNeg).toInt) (0) := g5_eqN (a := (k253_ld ((64 * (k234_5 + 1)) + k243_6).toNatClampNeg).toInt) (b := 0) rfl (by decide +kernel) c_66
                        refine lv_iconst (v := 1) hx hb dX12_findSoonest_356 (by decide +kernel) ?_
                        refine lv_goto (tgt := 361) hx hb dX12_findSoonest_357 (by decide +kernel) ?_
                        refine va_zast hx hb hK hP hD hS 6 2 rfl rfl (i := ((64 * k234_5) + k243_6)) (x := 1) (vp_in_iff.mpr ⟨by omega, by omega⟩) dX12_findSoonest_361 ?_
                        clear hP hD hS
                        intro H locs hP hD hS
                        refine g5_rs [(b_o, (oc12 u_th u_sa b_rf b_ro b_im b_ke u_fd b_tp u_td u_fr u_to u_so u_wo u_fa u_bd u_nc b_nl u_co b_op b_ar u_le b_pi b_pa u_pd u_od b_ws b_hw k62_la b_se b_re k62_bk k62_va k62_su k62_ce k62_ho k62_wy k62_bt k62_ps b_pt k62_tg k62_sn b_ip u_ic b_ah b_be b_me u_wd b_tr b_ld u_st b_wn u_id)), (b_ro, (arI G 5740 v_ro)), (b_se, (arJ G 13 k62_se)), (b_re, (arJ G 400 k62_re)), (b_pt, (arI G 200 k62_pt)), (b_tr, (arZ G 1536 k62_tr)), (b_ld, (arZ G 1536 (upd k253_ld ((64 * k234_5) + k243_6).toNatClampNeg 1)))] hP hD ?_
                        clear hP hD
                        intro hP hD
                        refine lv_iinc (v := (k253_7 + 1)) (lv' := [(7, .int (k253_7 + 1)), (8, .int k243_6), (6, .int k243_6), (5, .int k234_5), (4, .int k62_4), (0, .ref b_o), (1, .int p_1), (2, .int p_2), (3, .int p_3)]) hx hb dX12_findSoonest_362 hl (k := 1) rfl rfl (by decide +kernel) rfl ?_
                        clear hl
                        intro ls hl
                        have t_68 : (k253_7 + 1).toInt = k253_7.toInt + 1 := g5_iadd (a := k253_7.toInt) (b := 1) rfl (by decide +kernel) (by omega) (by omega)
                        refine W.eq (g2 := F0 m 365 ls []) rfl ?_
                        refine lv_goto (tgt := 253) hx hb dX12_findSoonest_365 (by decide +kernel) ?_
                        exact ih_253_25 ((k253_7 + 1), (upd k253_ld ((64 * k234_5) + k243_6).toNatClampNeg 1)) ls H locs (show Int.toNat (5 - (k253_7 + 1).toInt) < Int.toNat (5 - k253_7.toInt) from g_up (show k253_7.toInt < (k253_7 + 1).toInt by omega) (show k253_7.toInt < 5 by omega)) ⟨lv_sub hl [0, 2, 3, 4, 5, 6, 7, 8] rfl, hP, hD, hS, ⟨by omega, by omega⟩⟩
                    ·
                      have i_64 : k243_6.toInt < 0 := g5_geN (a := k243_6.toInt) (b := 0) rfl (by decide +kernel) c_64
                      omega
    ·
      have i_15 : k62_5.toInt < 24 := g5_geN (a := k62_5.toInt) (b := 24) rfl (by decide +kernel) c_15
      refine lv_iload hx hb dX12_findSoonest_69 (lv_at hl 0 rfl) ?_
      refine lv_iconst (v := (-1)) hx hb dX12_findSoonest_71 (by decide +kernel) ?_
      refine lv_icmp_ne (tgt := 228) hx hb dX12_findSoonest_72 (by decide +kernel) (fun c_69 => ?_) (fun c_69 => ?_)
      ·
        have n_69 : gNe (k62_4.toInt) ((-1)) := g5_ne (a := k62_4.toInt) (b := (-1)) rfl (by decide +kernel) c_69
        have i_69 : k62_4.toInt ≥ 0 := by have z := g5_ne (a := k62_4.toInt) (b := (-1)) (by rfl) (by decide +kernel) c_69; omega
        refine lv_iload hx hb dX12_findSoonest_228 (lv_at hl 0 rfl) ?_
        refine lv_iconst (v := 1) hx hb dX12_findSoonest_230 (by decide +kernel) ?_
        refine lv_isub hx hb dX12_findSoonest_231 ?_
        have t_70 : (k62_4 - 1).toInt = k62_4.toInt - 1 := g5_isub (a := k62_4.toInt) (b := 1) (by rfl) (by decide +kernel) (by omega) (by omega)
        refine lv_istore (lv' := [(5, .int (k62_4 - 1)), (4, .int k62_4), (0, .ref b_o), (1, .int p_1), (2, .int p_2), (3, .int p_3)]) hx hb dX12_findSoonest_232 hl (by decide +kernel) rfl ?_
        clear hl
        intro ls hl
        refine g5_loop (α := (Int32) × (Nat → Int32)) (fun (q : (Int32) × (Nat → Int32)) (ls : Array Slot) (H : Heap) (locs : List Loc) => match q with | (k234_5, k234_ld) => lv_has ls 9 [(5, .int k234_5), (4, .int k62_4), (0, .ref b_o), (1, .int p_1), (2, .int p_2), (3, .int p_3)] ∧ va_P G.1 vwCl [(b_o, (oc12 u_th u_sa b_rf b_ro b_im b_ke u_fd b_tp u_td u_fr u_to u_so u_wo u_fa u_bd u_nc b_nl u_co b_op b_ar u_le b_pi b_pa u_pd u_od b_ws b_hw k62_la b_se b_re k62_bk k62_va k62_su k62_ce k62_ho k62_wy k62_bt k62_ps b_pt k62_tg k62_sn b_ip u_ic b_ah b_be b_me u_wd b_tr b_ld u_st b_wn u_id)), (b_ro, (arI G 5740 v_ro)), (b_se, (arJ G 13 k62_se)), (b_re, (arJ G 400 k62_re)), (b_pt, (arI G 200 k62_pt)), (b_tr, (arZ G 1536 k62_tr)), (b_ld, (arZ G 1536 k234_ld))] H ∧ va_D A [(b_o, (oc12 u_th u_sa b_rf b_ro b_im b_ke u_fd b_tp u_td u_fr u_to u_so u_wo u_fa u_bd u_nc b_nl u_co b_op b_ar u_le b_pi b_pa u_pd u_od b_ws b_hw k62_la b_se b_re k62_bk k62_va k62_su k62_ce k62_ho k62_wy k62_bt k62_ps b_pt k62_tg k62_sn b_ip u_ic b_ah b_be b_me u_wd b_tr b_ld u_st b_wn u_id)), (b_ro, (arI G 5740 v_ro)), (b_se, (arJ G 13 k62_se)), (b_re, (arJ G 400 k62_re)), (b_pt, (arI G 200 k62_pt)), (b_tr, (arZ G 1536 k62_tr)), (b_ld, (arZ G 1536 k234_ld))] ∧ va_S A s.heap H locs ∧ ((-2) ≤ k234_5.toInt ∧ k234_5.toInt ≤ 22)) (fun (q : (Int32) × (Nat → Int32)) => match q with | (k234_5, k234_ld) => Int.toNat (k234_5.toInt + 1)) ((k62_4 - 1), k62_ld) ⟨lv_sub hl [0, 1, 2, 3, 4, 5] rfl, hP, hD, hS, ⟨by omega, by omega⟩⟩ ?_
        rintro ⟨k234_5, k234_ld⟩ ls H locs ⟨hl, hP, hD, hS, (i_71 : (-2) ≤ k234_5.toInt ∧ k234_5.toInt ≤ 22)⟩ ih_234_72
        replace hl : lv_has ls 9 [(5, .int k234_5), (4, .int k62_4), (0, .ref b_o), (1, .int p_1), (2, .int p_2), (3, .int p_3)] := hl
        refine g5_rs [(b_o, (oc12 u_th u_sa b_rf b_ro b_im b_ke u_fd b_tp u_td u_fr u_to u_so u_wo u_fa u_bd u_nc b_nl u_co b_op b_ar u_le b_pi b_pa u_pd u_od b_ws b_hw k62_la b_se b_re k62_bk k62_va k62_su k62_ce k62_ho k62_wy k62_bt k62_ps b_pt k62_tg k62_sn b_ip u_ic b_ah b_be b_me u_wd b_tr b_ld u_st b_wn u_id)), (b_ro, (arI G 5740 v_ro)), (b_se, (arJ G 13 k62_se)), (b_re, (arJ G 400 k62_re)), (b_pt, (arI G 200 k62_pt)), (b_tr, (arZ G 1536 k62_tr)), (b_ld, (arZ G 1536 k234_ld))] hP hD ?_
        clear hP hD
        intro hP hD
        refine lv_iload hx hb dX12_findSoonest_234 (lv_at hl 0 rfl) ?_
        refine lv_iload_n hx hb dX12_findSoonest_236 rfl (lv_at hl 5 rfl) ?_
        refine lv_icmp_lt (tgt := 380) hx hb dX12_findSoonest_237 (by decide +kernel) (fun c_73 => ?_) (fun c_73 => ?_)
        ·
          have i_73 : k234_5.toInt < p_3.toInt := g5_lt (a := k234_5.toInt) (b := p_3.toInt) rfl rfl c_73
          refine lv_iload hx hb dX12_findSoonest_380 (lv_at hl 1 rfl) ?_
          exact W.iret (v := k62_4) hx hb hr (fun t ht hW => ⟨⟨k62_4, [(b_o, (oc12 u_th u_sa b_rf b_ro b_im b_ke u_fd b_tp u_td u_fr u_to u_so u_wo u_fa u_bd u_nc b_nl u_co b_op b_ar u_le b_pi b_pa u_pd u_od b_ws b_hw k62_la b_se b_re k62_bk k62_va k62_su k62_ce k62_ho k62_wy k62_bt k62_ps b_pt k62_tg k62_sn b_ip u_ic b_ah b_be b_me u_wd b_tr b_ld u_st b_wn u_id)), (b_ro, (arI G 5740 v_ro)), (b_se, (arJ G 13 k62_se)), (b_re, (arJ G 400 k62_re)), (b_pt, (arI G 200 k62_pt)), (b_tr, (arZ G 1536 k62_tr)), (b_ld, (arZ G 1536 k234_ld))], rfl, ⟨k62_4, k62_la, k62_bk, k62_va, k62_su, k62_ce, k62_ho, k62_wy, k62_bt, k62_ps, k62_tg, k62_sn, k62_se, k62_re, k62_pt, k62_tr, k234_ld, i_5, i_6, i_7, i_8, i_9, i_10, i_11, i_12, i_13, rfl, rfl⟩, by rw [ht]; exact hP.sub [0, 1, 2, 3, 4, 5, 6] rfl, hD.sub [0, 1, 2, 3, 4, 5, 6] (by decide +kernel) rfl⟩, hS.F ht⟩) hS.2.2 dX12_findSoonest_382
        ·
          have i_73 : k234_5.toInt ≥ p_3.toInt := g5_ltN (a := k234_5.toInt) (b := p_3.toInt) rfl rfl c_73
          refine lv_iconst (v := 0) hx hb dX12_findSoonest_240 (by decide +kernel) ?_
          refine lv_istore (lv' := [(6, .int 0), (5, .int k234_5), (4, .int k62_4), (0, .ref b_o), (1, .int p_1), (2, .int p_2), (3, .int p_3)]) hx hb dX12_findSoonest_241 hl (by decide +kernel) rfl ?_
          clear hl
          intro ls hl
          refine g5_loop (α := (Int32) × (Nat → Int32)) (fun (q : (Int32) × (Nat → Int32)) (ls : Array Slot) (H : Heap) (locs : List Loc) => match q with | (k243_6, k243_ld) => lv_has ls 9 [(6, .int k243_6), (5, .int k234_5), (4, .int k62_4), (0, .ref b_o), (1, .int p_1), (2, .int p_2), (3, .int p_3)] ∧ va_P G.1 vwCl [(b_o, (oc12 u_th u_sa b_rf b_ro b_im b_ke u_fd b_tp u_td u_fr u_to u_so u_wo u_fa u_bd u_nc b_nl u_co b_op b_ar u_le b_pi b_pa u_pd u_od b_ws b_hw k62_la b_se b_re k62_bk k62_va k62_su k62_ce k62_ho k62_wy k62_bt k62_ps b_pt k62_tg k62_sn b_ip u_ic b_ah b_be b_me u_wd b_tr b_ld u_st b_wn u_id)), (b_ro, (arI G 5740 v_ro)), (b_se, (arJ G 13 k62_se)), (b_re, (arJ G 400 k62_re)), (b_pt, (arI G 200 k62_pt)), (b_tr, (arZ G 1536 k62_tr)), (b_ld, (arZ G 1536 k243_ld))] H ∧ va_D A [(b_o, (oc12 u_th u_sa b_rf b_ro b_im b_ke u_fd b_tp u_td u_fr u_to u_so u_wo u_fa u_bd u_nc b_nl u_co b_op b_ar u_le b_pi b_pa u_pd u_od b_ws b_hw k62_la b_se b_re k62_bk k62_va k62_su k62_ce k62_ho k62_wy k62_bt k62_ps b_pt k62_tg k62_sn b_ip u_ic b_ah b_be b_me u_wd b_tr b_ld u_st b_wn u_id)), (b_ro, (arI G 5740 v_ro)), (b_se, (arJ G 13 k62_se)), (b_re, (arJ G 400 k62_re)), (b_pt, (arI G 200 k62_pt)), (b_tr, (arZ G 1536 k62_tr)), (b_ld, (arZ G 1536 k243_ld))] ∧ va_S A s.heap H locs ∧ (0 ≤ k243_6.toInt ∧ k243_6.toInt ≤ 64)) (fun (q : (Int32) × (Nat → Int32)) => match q with | (k243_6, k243_ld) => Int.toNat (64 - k243_6.toInt)) (0, k234_ld) ⟨lv_sub hl [0, 1, 2, 3, 4, 5, 6] rfl, hP, hD, hS, ⟨by decide, by decide⟩⟩ ?_
          rintro ⟨k243_6, k243_ld⟩ ls H locs ⟨hl, hP, hD, hS, (i_74 : 0 ≤ k243_6.toInt ∧ k243_6.toInt ≤ 64)⟩ ih_243_75
          replace hl : lv_has ls 9 [(6, .int k243_6), (5, .int k234_5), (4, .int k62_4), (0, .ref b_o), (1, .int p_1), (2, .int p_2), (3, .int p_3)] := hl
          refine g5_rs [(b_o, (oc12 u_th u_sa b_rf b_ro b_im b_ke u_fd b_tp u_td u_fr u_to u_so u_wo u_fa u_bd u_nc b_nl u_co b_op b_ar u_le b_pi b_pa u_pd u_od b_ws b_hw k62_la b_se b_re k62_bk k62_va k62_su k62_ce k62_ho k62_wy k62_bt k62_ps b_pt k62_tg k62_sn b_ip u_ic b_ah b_be b_me u_wd b_tr b_ld u_st b_wn u_id)), (b_ro, (arI G 5740 v_ro)), (b_se, (arJ G 13 k62_se)), (b_re, (arJ G 400 k62_re)), (b_pt, (arI G 200 k62_pt)), (b_tr, (arZ G 1536 k62_tr)), (b_ld, (arZ G 1536 k243_ld))] hP hD ?_
          clear hP hD
          intro hP hD
          refine lv_iload hx hb dX12_findSoonest_243 (lv_at hl 0 rfl) ?_
          refine lv_bipush (v := 64) hx hb dX12_findSoonest_245 (by decide +kernel) ?_
          refine lv_icmp_ge (tgt := 374) hx hb dX12_findSoonest_247 (by decide +kernel) (fun c_76 => ?_) (fun c_76 => ?_)
          ·
            have i_76 : k243_6.toInt ≥ 64 := g5_ge (a := k243_6.toInt) (b := 64) rfl (by decide +kernel) c_76
            obtain ⟨y77, hy_77, t_77⟩ := g_incN k234_5 (-1) (by decide +kernel) (by omega) (by omega)
            have t_77 : y77.toInt = k234_5.toInt + (-1) := t_77
            refine lv_iinc (v := y77) (lv' := [(5, .int y77), (6, .int k243_6), (4, .int k62_4), (0, .ref b_o), (1, .int p_1), (2, .int p_2), (3, .int p_3)]) hx hb dX12_findSoonest_374 hl (k := 1) rfl hy_77 (by decide +kernel) rfl ?_
            clear hl
            intro ls hl
            refine lv_goto (tgt := 234) hx hb dX12_findSoonest_377 (by decide +kernel) ?_
            exact ih_234_72 (y77, k243_ld) ls H locs (show Int.toNat (y77.toInt + 1) < Int.toNat (k234_5.toInt + 1) from g_dn (show y77.toInt < k234_5.toInt by omega) (show 0 ≤ k234_5.toInt by omega)) ⟨lv_sub hl [0, 2, 3, 4, 5, 6] rfl, hP, hD, hS, ⟨by omega, by omega⟩⟩
          ·
            have i_76 : k243_6.toInt < 64 := g5_geN (a := k243_6.toInt) (b := 64) rfl (by decide +kernel) c_76
            refine lv_iconst (v := 0) hx hb dX12_findSoonest_250 (by decide +kernel) ?_
            refine lv_istore (lv' := [(7, .int 0), (6, .int k243_6), (5, .int k234_5), (4, .int k62_4), (0, .ref b_o), (1, .int p_1), (2, .int p_2), (3, .int p_3)]) hx hb dX12_findSoonest_251 hl (by decide +kernel) rfl ?_
            clear hl
            intro ls hl
            refine g5_loop (α := (Int32) × (Nat → Int32)) (fun (q : (Int32) × (Nat → Int32)) (ls : Array Slot) (H : Heap) (locs : List Loc) => match q with | (k253_7, k253_ld) => lv_has ls 9 [(7, .int k253_7), (6, .int k243_6), (5, .int k234_5), (4, .int k62_4), (0, .ref b_o), (1, .int p_1), (2, .int p_2), (3, .int p_3)] ∧ va_P G.1 vwCl [(b_o, (oc12 u_th u_sa b_rf b_ro b_im b_ke u_fd b_tp u_td u_fr u_to u_so u_wo u_fa u_bd u_nc b_nl u_co b_op b_ar u_le b_pi b_pa u_pd u_od b_ws b_hw k62_la b_se b_re k62_bk k62_va k62_su k62_ce k62_ho k62_wy k62_bt k62_ps b_pt k62_tg k62_sn b_ip u_ic b_ah b_be b_me u_wd b_tr b_ld u_st b_wn u_id)), (b_ro, (arI G 5740 v_ro)), (b_se, (arJ G 13 k62_se)), (b_re, (arJ G 400 k62_re)), (b_pt, (arI G 200 k62_pt)), (b_tr, (arZ G 1536 k62_tr)), (b_ld, (arZ G 1536 k253_ld))] H ∧ va_D A [(b_o, (oc12 u_th u_sa b_rf b_ro b_im b_ke u_fd b_tp u_td u_fr u_to u_so u_wo u_fa u_bd u_nc b_nl u_co b_op b_ar u_le b_pi b_pa u_pd u_od b_ws b_hw k62_la b_se b_re k62_bk k62_va k62_su k62_ce k62_ho k62_wy k62_bt k62_ps b_pt k62_tg k62_sn b_ip u_ic b_ah b_be b_me u_wd b_tr b_ld u_st b_wn u_id)), (b_ro, (arI G 5740 v_ro)), (b_se, (arJ G 13 k62_se)), (b_re, (arJ G 400 k62_re)), (b_pt, (arI G 200 k62_pt)), (b_tr, (arZ G 1536 k62_tr)), (b_ld, (arZ G 1536 k253_ld))] ∧ va_S A s.heap H locs ∧ (0 ≤ k253_7.toInt ∧ k253_7.toInt ≤ 5)) (fun (q : (Int32) × (Nat → Int32)) => match q with | (k253_7, k253_ld) => Int.toNat (5 - k253_7.toInt)) (0, k243_ld) ⟨lv_sub hl [0, 1, 2, 3, 4, 5, 6, 7] rfl, hP, hD, hS, ⟨by decide, by decide⟩⟩ ?_
            rintro ⟨k253_7, k253_ld⟩ ls H locs ⟨hl, hP, hD, hS, (i_78 : 0 ≤ k253_7.toInt ∧ k253_7.toInt ≤ 5)⟩ ih_253_79
            replace hl : lv_has ls 9 [(7, .int k253_7), (6, .int k243_6), (5, .int k234_5), (4, .int k62_4), (0, .ref b_o), (1, .int p_1), (2, .int p_2), (3, .int p_3)] := hl
            refine g5_rs [(b_o, (oc12 u_th u_sa b_rf b_ro b_im b_ke u_fd b_tp u_td u_fr u_to u_so u_wo u_fa u_bd u_nc b_nl u_co b_op b_ar u_le b_pi b_pa u_pd u_od b_ws b_hw k62_la b_se b_re k62_bk k62_va k62_su k62_ce k62_ho k62_wy k62_bt k62_ps b_pt k62_tg k62_sn b_ip u_ic b_ah b_be b_me u_wd b_tr b_ld u_st b_wn u_id)), (b_ro, (arI G 5740 v_ro)), (b_se, (arJ G 13 k62_se)), (b_re, (arJ G 400 k62_re)), (b_pt, (arI G 200 k62_pt)), (b_tr, (arZ G 1536 k62_tr)), (b_ld, (arZ G 1536 k253_ld))] hP hD ?_
            clear hP hD
            intro hP hD
            refine lv_iload hx hb dX12_findSoonest_253 (lv_at hl 0 rfl) ?_
            refine lv_iconst (v := 5) hx hb dX12_findSoonest_255 (by decide +kernel) ?_
            refine lv_icmp_ge (tgt := 368) hx hb dX12_findSoonest_256 (by decide +kernel) (fun c_80 => ?_) (fun c_80 => ?_)
            ·
              have i_80 : k253_7.toInt ≥ 5 := g5_ge (a := k253_7.toInt) (b := 5) rfl (by decide +kernel) c_80
              refine lv_iinc (v := (k243_6 + 1)) (lv' := [(6, .int (k243_6 + 1)), (7, .int k253_7), (5, .int k234_5), (4, .int k62_4), (0, .ref b_o), (1, .int p_1), (2, .int p_2), (3, .int p_3)]) hx hb dX12_findSoonest_368 hl (k := 1) rfl rfl (by decide +kernel) rfl ?_
              clear hl
              intro ls hl
              have t_81 : (k243_6 + 1).toInt = k243_6.toInt + 1 := g5_iadd (a := k243_6.toInt) (b := 1) rfl (by decide +kernel) (by omega) (by omega)
              refine lv_goto (tgt := 243) hx hb dX12_findSoonest_371 (by decide +kernel) ?_
              exact ih_243_75 ((k243_6 + 1), k253_ld) ls H locs (show Int.toNat (64 - (k243_6 + 1).toInt) < Int.toNat (64 - k243_6.toInt) from g_up (show k243_6.toInt < (k243_6 + 1).toInt by omega) (show k243_6.toInt < 64 by omega)) ⟨lv_sub hl [0, 2, 3, 4, 5, 6, 7] rfl, hP, hD, hS, ⟨by omega, by omega⟩⟩
            ·
              have i_80 : k253_7.toInt < 5 := g5_geN (a := k253_7.toInt) (b := 5) rfl (by decide +kernel) c_80
              refine lv_iload hx hb dX12_findSoonest_259 (lv_at hl 0 rfl) ?_
              refine lv_iconst (v := 4) hx hb dX12_findSoonest_261 (by decide +kernel) ?_
              refine lv_icmp_ne (tgt := 270) hx hb dX12_findSoonest_262 (by decide +kernel) (fun c_82 => ?_) (fun c_82 => ?_)
              ·
                have n_82 : gNe (k253_7.toInt) (4) := g5_ne (a := k253_7.toInt) (b := 4) rfl (by decide +kernel) c_82
                have i_82 : k253_7.toInt ≤ 3 := by have z := g5_ne (a := k253_7.toInt) (b := 4) (by rfl) (by decide +kernel) c_82; omega
                refine lv_iload hx hb dX12_findSoonest_270 (lv_at hl 1 rfl) ?_
                refine lv_iload hx hb dX12_findSoonest_272 (lv_at hl 0 rfl) ?_
                obtain ⟨hPc, hDc, hFc⟩ := g5_sub3 (wc := []) hP hD hS hA [] (by decide +kernel) rfl
                refine va_calli (va_runS (As := [.int k243_6, .int k253_7]) (rest := []) ⟨hx, hb, hml, hown, hts⟩ (n_beside l G H.size k243_6 k253_7 ⟨by omega, by omega⟩) (va_cwS 2 hts gS_X12_374 rfl rfl rfl hs_X12_beside ⟨Nat.le_of_ble_eq_true rfl, Nat.le_of_ble_eq_true rfl⟩) (g5_preS hPc hK hDc hN hT hS hFc) rfl rfl hl.1 rfl (lv_room (Nat.le_of_ble_eq_true rfl)) dX12_findSoonest_274 ⟨Nat.le_of_ble_eq_true rfl, Nat.le_of_ble_eq_true rfl⟩) hS (fun q _ h => hFc q h) hFc (fun r u t H locs ht hvm hw hB hz1 hk1 hS => ?_)
                obtain ⟨hP1, hD1⟩ := hB
                have hP1 := g5_ht ht hP1
                obtain ⟨z84, (i_83 : -1 ≤ z84.toInt ∧ z84.toInt ≤ 63), y85, rfl⟩ := hw
                have hJ9 := g5_same hP hk1
                clear hP hPc hDc hFc ht hvm hz1 hk1 hP1 hD1
                have hP := hJ9
                clear hJ9
                refine g5_ti (v := z84) y85 ?_
                refine lv_istore (lv' := [(8, .int z84), (7, .int k253_7), (6, .int k243_6), (5, .int k234_5), (4, .int k62_4), (0, .ref b_o), (1, .int p_1), (2, .int p_2), (3, .int p_3)]) hx hb dX12_findSoonest_277 hl (by decide +kernel) rfl ?_
                clear hl
                intro ls hl
                refine W.eq (g2 := F0 m 279 ls []) rfl ?_
                refine lv_aload_n hx hb dX12_findSoonest_279 rfl (lv_at hl 5 rfl) ?_
                refine va_get (D := G.1) (ci := 12) (v := .ref b_ld) (C := RX12) (T := TX12) (N := 52) hx hb hts inG_X12 hown hK hP 0 rfl rfl 48 (by decide +kernel) (hts _ fl_X12_101) (fun _ h9 => h9) rfl dX12_findSoonest_280 ?_
                refine lv_bipush (v := 64) hx hb dX12_findSoonest_283 (by decide +kernel) ?_
                refine lv_iload hx hb dX12_findSoonest_285 (lv_at hl 3 rfl) ?_
                refine lv_imul hx hb dX12_findSoonest_287 ?_
                have t_86 : (64 * k234_5).toInt = 64 * k234_5.toInt := g5_imul (a := 64) (b := k234_5.toInt) (by decide +kernel) (by rfl) (by omega) (by omega)
                refine W.eq (g2 := F0 m 288 ls [.int (64 * k234_5), .ref b_ld]) rfl ?_
                refine lv_iload hx hb dX12_findSoonest_288 (lv_at hl 2 rfl) ?_
                refine lv_iadd hx hb dX12_findSoonest_290 ?_
                have t_87 : ((64 * k234_5) + k243_6).toInt = (64 * k234_5).toInt + k243_6.toInt := g5_iadd (a := (64 * k234_5).toInt) (b := k243_6.toInt) (by rfl) (by rfl) (by omega) (by omega)
                refine lv_aload_n hx hb dX12_findSoonest_291 rfl (lv_at hl 5 rfl) ?_
                refine va_get (D := G.1) (ci := 12) (v := .ref b_ld) (C := RX12) (T := TX12) (N := 52) hx hb hts inG_X12 hown hK hP 0 rfl rfl 48 (by decide +kernel) (hts _ fl_X12_101) (fun _ h9 => h9) rfl dX12_findSoonest_292 ?_
                refine lv_bipush (v := 64) hx hb dX12_findSoonest_295 (by decide +kernel) ?_
                refine W.eq (g2 := F0 m 297 ls [.int 64, .ref b_ld, .int ((64 * k234_5) + k243_6), .ref b_ld]) rfl ?_
                refine lv_iload hx hb dX12_findSoonest_297 (lv_at hl 3 rfl) ?_
                refine lv_imul hx hb dX12_findSoonest_299 ?_
                have t_88 : (64 * k234_5).toInt = 64 * k234_5.toInt := g5_imul (a := 64) (b := k234_5.toInt) (by decide +kernel) (by rfl) (by omega) (by omega)
                refine lv_iload hx hb dX12_findSoonest_300 (lv_at hl 2 rfl) ?_
                refine lv_iadd hx hb dX12_findSoonest_302 ?_
                have t_89 : ((64 * k234_5) + k243_6).toInt = (64 * k234_5).toInt + k243_6.toInt := g5_iadd (a := (64 * k234_5).toInt) (b := k243_6.toInt) (by rfl) (by rfl) (by omega) (by omega)
                refine va_zald hx hb hK hP 6 2 rfl rfl (i := ((64 * k234_5) + k243_6)) (vp_in_iff.mpr ⟨by omega, by omega⟩) dX12_findSoonest_303 ?_
                refine W.eq (g2 := F0 m 304 ls [.int (k253_ld ((64 * k234_5) + k243_6).toNatClampNeg), .int ((64 * k234_5) + k243_6), .ref b_ld]) rfl ?_
                refine lv_if_ne (tgt := 356) hx hb dX12_findSoonest_304 (by decide +kernel) (fun c_90 => ?_) (fun c_90 => ?_)
                ·
                  have n_90 : gNe ((k253_ld ((64 * k234_5) + k243_6).toNatClampNeg).toInt) (0) := g5_ne (a := (k253_ld ((64 * k234_5) + k243_6).toNatClampNeg).toInt) (b := 0) rfl (by decide +kernel) c_90
                  refine lv_iconst (v := 1) hx hb dX12_findSoonest_356 (by decide +kernel) ?_
                  refine lv_goto (tgt := 361) hx hb dX12_findSoonest_357 (by decide +kernel) ?_
                  refine va_zast hx hb hK hP hD hS 6 2 rfl rfl (i := ((64 * k234_5) + k243_6)) (x := 1) (vp_in_iff.mpr ⟨by omega, by omega⟩) dX12_findSoonest_361 ?_
                  clear hP hD hS
                  intro H locs hP hD hS
                  refine g5_rs [(b_o, (oc12 u_th u_sa b_rf b_ro b_im b_ke u_fd b_tp u_td u_fr u_to u_so u_wo u_fa u_bd u_nc b_nl u_co b_op b_ar u_le b_pi b_pa u_pd u_od b_ws b_hw k62_la b_se b_re k62_bk k62_va k62_su k62_ce k62_ho k62_wy k62_bt k62_ps b_pt k62_tg k62_sn b_ip u_ic b_ah b_be b_me u_wd b_tr b_ld u_st b_wn u_id)), (b_ro, (arI G 5740 v_ro)), (b_se, (arJ G 13 k62_se)), (b_re, (arJ G 400 k62_re)), (b_pt, (arI G 200 k62_pt)), (b_tr, (arZ G 1536 k62_tr)), (b_ld, (arZ G 1536 (upd k253_ld ((64 * k234_5) + k243_6).toNatClampNeg 1)))] hP hD ?_
                  clear hP hD
                  intro hP hD
                  refine lv_iinc (v := (k253_7 + 1)) (lv' := [(7, .int (k253_7 + 1)), (8, .int z84), (6, .int k243_6), (5, .int k234_5), (4, .int k62_4), (0, .ref b_o), (1, .int p_1), (2, .int p_2), (3, .int p_3)]) hx hb dX12_findSoonest_362 hl (k := 1) rfl rfl (by decide +kernel) rfl ?_
                  clear hl
                  intro ls hl
                  have t_91 : (k253_7 + 1).toInt = k253_7.toInt + 1 := g5_iadd (a := k253_7.toInt) (b := 1) rfl (by decide +kernel) (by omega) (by omega)
                  refine W.eq (g2 := F0 m 365 ls []) rfl ?_
                  refine lv_goto (tgt := 253) hx hb dX12_findSoonest_365 (by decide +kernel) ?_
                  exact ih_253_79 ((k253_7 + 1), (upd k253_ld ((64 * k234_5) + k243_6).toNatClampNeg 1)) ls H locs (show Int.toNat (5 - (k253_7 + 1).toInt) < Int.toNat (5 - k253_7.toInt) from g_up (show k253_7.toInt < (k253_7 + 1).toInt by omega) (show k253_7.toInt < 5 by omega)) ⟨lv_sub hl [0, 2, 3, 4, 5, 6, 7, 8] rfl, hP, hD, hS, ⟨by omega, by omega⟩⟩
                ·
                  have i_90 : (k253_ld ((64 * k234_5) + k243_6).toNatClampNeg).toInt = 0 := g5_neN (a := (k253_ld ((64 * k234_5) + k243_6).toNatClampNeg).toInt) (b := 0) rfl (by decide +kernel) c_90
                  refine lv_aload_n hx hb dX12_findSoonest_307 rfl (lv_at hl 5 rfl) ?_
                  refine va_get (D := G.1) (ci := 12) (v := .ref b_tr) (C := RX12) (T := TX12) (N := 52) hx hb hts inG_X12 hown hK hP 0 rfl rfl 47 (by decide +kernel) (hts _ fl_X12_98) (fun _ h9 => h9) rfl dX12_findSoonest_308 ?_
                  refine lv_bipush (v := 64) hx hb dX12_findSoonest_311 (by decide +kernel) ?_
                  refine lv_iload hx hb dX12_findSoonest_313 (lv_at hl 3 rfl) ?_
                  refine W.eq (g2 := F0 m 315 ls [.int k234_5, .int 64, .ref b_tr, .int ((64 * k234_5) + k243_6), .ref b_ld]) rfl ?_
                  refine lv_imul hx hb dX12_findSoonest_315 ?_
                  have t_92 : (64 * k234_5).toInt = 64 * k234_5.toInt := g5_imul (a := 64) (b := k234_5.toInt) (by decide +kernel) (by rfl) (by omega) (by omega)
                  refine lv_iload hx hb dX12_findSoonest_316 (lv_at hl 2 rfl) ?_
                  refine lv_iadd hx hb dX12_findSoonest_318 ?_
                  have t_93 : ((64 * k234_5) + k243_6).toInt = (64 * k234_5).toInt + k243_6.toInt := g5_iadd (a := (64 * k234_5).toInt) (b := k243_6.toInt) (by rfl) (by rfl) (by omega) (by omega)
                  refine va_zald hx hb hK hP 5 2 rfl rfl (i := ((64 * k234_5) + k243_6)) (vp_in_iff.mpr ⟨by omega, by omega⟩) dX12_findSoonest_319 ?_
                  refine lv_if_eq (tgt := 360) hx hb dX12_findSoonest_320 (by decide +kernel) (fun c_94 => ?_) (fun c_94 => ?_)
                  ·
                    have i_94 : (k62_tr ((64 * k234_5) + k243_6).toNatClampNeg).toInt = 0 := g5_eq (a := (k62_tr ((64 * k234_5) + k243_6).toNatClampNeg).toInt) (b := 0) rfl (by decide +kernel) c_94
                    refine lv_iconst (v := 0) hx hb dX12_findSoonest_360 (by decide +kernel) ?_
                    refine va_zast hx hb hK hP hD hS 6 2 rfl rfl (i := ((64 * k234_5) + k243_6)) (x := 0) (vp_in_iff.mpr ⟨by omega, by omega⟩) dX12_findSoonest_361 ?_
                    clear hP hD hS
                    intro H locs hP hD hS
                    refine g5_rs [(b_o, (oc12 u_th u_sa b_rf b_ro b_im b_ke u_fd b_tp u_td u_fr u_to u_so u_wo u_fa u_bd u_nc b_nl u_co b_op b_ar u_le b_pi b_pa u_pd u_od b_ws b_hw k62_la b_se b_re k62_bk k62_va k62_su k62_ce k62_ho k62_wy k62_bt k62_ps b_pt k62_tg k62_sn b_ip u_ic b_ah b_be b_me u_wd b_tr b_ld u_st b_wn u_id)), (b_ro, (arI G 5740 v_ro)), (b_se, (arJ G 13 k62_se)), (b_re, (arJ G 400 k62_re)), (b_pt, (arI G 200 k62_pt)), (b_tr, (arZ G 1536 k62_tr)), (b_ld, (arZ G 1536 (upd k253_ld ((64 * k234_5) + k243_6).toNatClampNeg 0)))] hP hD ?_
                    clear hP hD
                    intro hP hD
                    refine lv_iinc (v := (k253_7 + 1)) (lv' := [(7, .int (k253_7 + 1)), (8, .int z84), (6, .int k243_6), (5, .int k234_5), (4, .int k62_4), (0, .ref b_o), (1, .int p_1), (2, .int p_2), (3, .int p_3)]) hx hb dX12_findSoonest_362 hl (k := 1) rfl rfl (by decide +kernel) rfl ?_
                    clear hl
                    intro ls hl
                    have t_95 : (k253_7 + 1).toInt = k253_7.toInt + 1 := g5_iadd (a := k253_7.toInt) (b := 1) rfl (by decide +kernel) (by omega) (by omega)
                    refine lv_goto (tgt := 253) hx hb dX12_findSoonest_365 (by decide +kernel) ?_
                    exact ih_253_79 ((k253_7 + 1), (upd k253_ld ((64 * k234_5) + k243_6).toNatClampNeg 0)) ls H locs (show Int.toNat (5 - (k253_7 + 1).toInt) < Int.toNat (5 - k253_7.toInt) from g_up (show k253_7.toInt < (k253_7 + 1).toInt by omega) (show k253_7.toInt < 5 by omega)) ⟨lv_sub hl [0, 2, 3, 4, 5, 6, 7, 8] rfl, hP, hD, hS, ⟨by omega, by omega⟩⟩
                  ·
                    have n_94 : gNe ((k62_tr ((64 * k234_5) + k243_6).toNatClampNeg).toInt) (0) := g5_eqN (a := (k62_tr ((64 * k234_5) + k243_6).toNatClampNeg).toInt) (b := 0) rfl (by decide +kernel) c_94
                    refine lv_iload hx hb dX12_findSoonest_323 (lv_at hl 0 rfl) ?_
                    refine lv_iconst (v := (-1)) hx hb dX12_findSoonest_325 (by decide +kernel) ?_
                    refine lv_icmp_eq (tgt := 360) hx hb dX12_findSoonest_326 (by decide +kernel) (fun c_96 => ?_) (fun c_96 => ?_)
                    ·
                      have i_96 : z84.toInt = (-1) := g5_eq (a := z84.toInt) (b := (-1)) rfl (by decide +kernel) c_96
                      refine lv_iconst (v := 0) hx hb dX12_findSoonest_360 (by decide +kernel) ?_
                      refine va_zast hx hb hK hP hD hS 6 2 rfl rfl (i := ((64 * k234_5) + k243_6)) (x := 0) (vp_in_iff.mpr ⟨by omega, by omega⟩) dX12_findSoonest_361 ?_
                      clear hP hD hS
                      intro H locs hP hD hS
                      refine g5_rs [(b_o, (oc12 u_th u_sa b_rf b_ro b_im b_ke u_fd b_tp u_td u_fr u_to u_so u_wo u_fa u_bd u_nc b_nl u_co b_op b_ar u_le b_pi b_pa u_pd u_od b_ws b_hw k62_la b_se b_re k62_bk k62_va k62_su k62_ce k62_ho k62_wy k62_bt k62_ps b_pt k62_tg k62_sn b_ip u_ic b_ah b_be b_me u_wd b_tr b_ld u_st b_wn u_id)), (b_ro, (arI G 5740 v_ro)), (b_se, (arJ G 13 k62_se)), (b_re, (arJ G 400 k62_re)), (b_pt, (arI G 200 k62_pt)), (b_tr, (arZ G 1536 k62_tr)), (b_ld, (arZ G 1536 (upd k253_ld ((64 * k234_5) + k243_6).toNatClampNeg 0)))] hP hD ?_
                      clear hP hD
                      intro hP hD
                      refine lv_iinc (v := (k253_7 + 1)) (lv' := [(7, .int (k253_7 + 1)), (8, .int z84), (6, .int k243_6), (5, .int k234_5), (4, .int k62_4), (0, .ref b_o), (1, .int p_1), (2, .int p_2), (3, .int p_3)]) hx hb dX12_findSoonest_362 hl (k := 1) rfl rfl (by decide +kernel) rfl ?_
                      clear hl
                      intro ls hl
                      have t_97 : (k253_7 + 1).toInt = k253_7.toInt + 1 := g5_iadd (a := k253_7.toInt) (b := 1) rfl (by decide +kernel) (by omega) (by omega)
                      refine lv_goto (tgt := 253) hx hb dX12_findSoonest_365 (by decide +kernel) ?_
                      exact ih_253_79 ((k253_7 + 1), (upd k253_ld ((64 * k234_5) + k243_6).toNatClampNeg 0)) ls H locs (show Int.toNat (5 - (k253_7 + 1).toInt) < Int.toNat (5 - k253_7.toInt) from g_up (show k253_7.toInt < (k253_7 + 1).toInt by omega) (show k253_7.toInt < 5 by omega)) ⟨lv_sub hl [0, 2, 3, 4, 5, 6, 7, 8] rfl, hP, hD, hS, ⟨by omega, by omega⟩⟩
                    ·
                      have n_96 : gNe (z84.toInt) ((-1)) := g5_eqN (a := z84.toInt) (b := (-1)) rfl (by decide +kernel) c_96
                      have i_96 : z84.toInt ≥ 0 := by have z := g5_eqN (a := z84.toInt) (b := (-1)) (by rfl) (by decide +kernel) c_96; omega
                      refine lv_aload_n hx hb dX12_findSoonest_329 rfl (lv_at hl 5 rfl) ?_
                      refine va_get (D := G.1) (ci := 12) (v := .ref b_ld) (C := RX12) (T := TX12) (N := 52) hx hb hts inG_X12 hown hK hP 0 rfl rfl 48 (by decide +kernel) (hts _ fl_X12_101) (fun _ h9 => h9) rfl dX12_findSoonest_330 ?_
                      refine lv_bipush (v := 64) hx hb dX12_findSoonest_333 (by decide +kernel) ?_
                      refine lv_iload hx hb dX12_findSoonest_335 (lv_at hl 3 rfl) ?_
                      refine W.eq (g2 := F0 m 337 ls [.int k234_5, .int 64, .ref b_ld, .int ((64 * k234_5) + k243_6), .ref b_ld]) rfl ?_
                      refine lv_iconst (v := 1) hx hb dX12_findSoonest_337 (by decide +kernel) ?_
                      refine lv_iadd hx hb dX12_findSoonest_338 ?_
                      have t_98 : (k234_5 + 1).toInt = k234_5.toInt + 1 := g5_iadd (a := k234_5.toInt) (b := 1) (by rfl) (by decide +kernel) (by omega) (by omega)
                      refine lv_imul hx hb dX12_findSoonest_339 ?_
                      have t_99 : (64 * (k234_5 + 1)).toInt = 64 * (k234_5 + 1).toInt := g5_imul (a := 64) (b := (k234_5 + 1).toInt) (by decide +kernel) (by rfl) (by omega) (by omega)
                      refine lv_iload hx hb dX12_findSoonest_340 (lv_at hl 0 rfl) ?_
                      refine lv_if_ge (tgt := 349) hx hb dX12_findSoonest_342 (by decide +kernel) (fun c_100 => ?_) (fun c_100 => ?_)
                      ·
                        have i_100 : z84.toInt ≥ 0 := g5_ge (a := z84.toInt) (b := 0) rfl (by decide +kernel) c_100
                        refine lv_iload hx hb dX12_findSoonest_349 (lv_at hl 0 rfl) ?_
                        refine lv_iadd hx hb dX12_findSoonest_351 ?_
                        have t_101 : ((64 * (k234_5 + 1)) + z84).toInt = (64 * (k234_5 + 1)).toInt + z84.toInt := g5_iadd (a := (64 * (k234_5 + 1)).toInt) (b := z84.toInt) (by rfl) (by rfl) (by omega) (by omega)
                        refine va_zald hx hb hK hP 6 2 rfl rfl (i := ((64 * (k234_5 + 1)) + z84)) (vp_in_iff.mpr ⟨by omega, by omega⟩) dX12_findSoonest_352 ?_
                        refine lv_if_eq (tgt := 360) hx hb dX12_findSoonest_353 (by decide +kernel) (fun c_102 => ?_) (fun c_102 => ?_)
                        ·
                          have i_102 : (k253_ld ((64 * (k234_5 + 1)) + z84).toNatClampNeg).toInt = 0 := g5_eq (a := (k253_ld ((64 * (k234_5 + 1)) + z84).toNatClampNeg).toInt) (b := 0) rfl (by decide +kernel) c_102
                          refine lv_iconst (v := 0) hx hb dX12_findSoonest_360 (by decide +kernel) ?_
                          refine va_zast hx hb hK hP hD hS 6 2 rfl rfl (i := ((64 * k234_5) + k243_6)) (x := 0) (vp_in_iff.mpr ⟨by omega, by omega⟩) dX12_findSoonest_361 ?_
                          clear hP hD hS
                          intro H locs hP hD hS
                          refine g5_rs [(b_o, (oc12 u_th u_sa b_rf b_ro b_im b_ke u_fd b_tp u_td u_fr u_to u_so u_wo u_fa u_bd u_nc b_nl u_co b_op b_ar u_le b_pi b_pa u_pd u_od b_ws b_hw k62_la b_se b_re k62_bk k62_va k62_su k62_ce k62_ho k62_wy k62_bt k62_ps b_pt k62_tg k62_sn b_ip u_ic b_ah b_be b_me u_wd b_tr b_ld u_st b_wn u_id)), (b_ro, (arI G 5740 v_ro)), (b_se, (arJ G 13 k62_se)), (b_re, (arJ G 400 k62_re)), (b_pt, (arI G 200 k62_pt)), (b_tr, (arZ G 1536 k62_tr)), (b_ld, (arZ G 1536 (upd k253_ld ((64 * k234_5) + k243_6).toNatClampNeg 0)))] hP hD ?_
                          clear hP hD
                          intro hP hD
                          refine lv_iinc (v := (k253_7 + 1)) (lv' := [(7, .int (k253_7 + 1)), (8, .int z84), (6, .int k243_6), (5, .int k234_5), (4, .int k62_4), (0, .ref b_o), (1, .int p_1), (2, .int p_2), (3, .int p_3)]) hx hb dX12_findSoonest_362 hl (k := 1) rfl rfl (by decide +kernel) rfl ?_
                          clear hl
                          intro ls hl
                          have t_103 : (k253_7 + 1).toInt = k253_7.toInt + 1 := g5_iadd (a := k253_7.toInt) (b := 1) rfl (by decide +kernel) (by omega) (by omega)
                          refine lv_goto (tgt := 253) hx hb dX12_findSoonest_365 (by decide +kernel) ?_
                          exact ih_253_79 ((k253_7 + 1), (upd k253_ld ((64 * k234_5) + k243_6).toNatClampNeg 0)) ls H locs (show Int.toNat (5 - (k253_7 + 1).toInt) < Int.toNat (5 - k253_7.toInt) from g_up (show k253_7.toInt < (k253_7 + 1).toInt by omega) (show k253_7.toInt < 5 by omega)) ⟨lv_sub hl [0, 2, 3, 4, 5, 6, 7, 8] rfl, hP, hD, hS, ⟨by omega, by omega⟩⟩
                        ·
                          have n_102 : gNe ((k253_ld ((64 * (k234_5 + 1)) + z84).toNatClampNeg).toInt) (0) := g5_eqN (a := (k253_ld ((64 * (k234_5 + 1)) + z84).toNatClampNeg).toInt) (b := 0) rfl (by decide +kernel) c_102
                          refine lv_iconst (v := 1) hx hb dX12_findSoonest_356 (by decide +kernel) ?_
                          refine lv_goto (tgt := 361) hx hb dX12_findSoonest_357 (by decide +kernel) ?_
                          refine va_zast hx hb hK hP hD hS 6 2 rfl rfl (i := ((64 * k234_5) + k243_6)) (x := 1) (vp_in_iff.mpr ⟨by omega, by omega⟩) dX12_findSoonest_361 ?_
                          clear hP hD hS
                          intro H locs hP hD hS
                          refine g5_rs [(b_o, (oc12 u_th u_sa b_rf b_ro b_im b_ke u_fd b_tp u_td u_fr u_to u_so u_wo u_fa u_bd u_nc b_nl u_co b_op b_ar u_le b_pi b_pa u_pd u_od b_ws b_hw k62_la b_se b_re k62_bk k62_va k62_su k62_ce k62_ho k62_wy k62_bt k62_ps b_pt k62_tg k62_sn b_ip u_ic b_ah b_be b_me u_wd b_tr b_ld u_st b_wn u_id)), (b_ro, (arI G 5740 v_ro)), (b_se, (arJ G 13 k62_se)), (b_re, (arJ G 400 k62_re)), (b_pt, (arI G 200 k62_pt)), (b_tr, (arZ G 1536 k62_tr)), (b_ld, (arZ G 1536 (upd k253_ld ((64 * k234_5) + k243_6).toNatClampNeg 1)))] hP hD ?_
                          clear hP hD
                          intro hP hD
                          refine lv_iinc (v := (k253_7 + 1)) (lv' := [(7, .int (k253_7 + 1)), (8, .int z84), (6, .int k243_6), (5, .int k234_5), (4, .int k62_4), (0, .ref b_o), (1, .int p_1), (2, .int p_2), (3, .int p_3)]) hx hb dX12_findSoonest_362 hl (k := 1) rfl rfl (by decide +kernel) rfl ?_
                          clear hl
                          intro ls hl
                          have t_104 : (k253_7 + 1).toInt = k253_7.toInt + 1 := g5_iadd (a := k253_7.toInt) (b := 1) rfl (by decide +kernel) (by omega) (by omega)
                          refine W.eq (g2 := F0 m 365 ls []) rfl ?_
                          refine lv_goto (tgt := 253) hx hb dX12_findSoonest_365 (by decide +kernel) ?_
                          exact ih_253_79 ((k253_7 + 1), (upd k253_ld ((64 * k234_5) + k243_6).toNatClampNeg 1)) ls H locs (show Int.toNat (5 - (k253_7 + 1).toInt) < Int.toNat (5 - k253_7.toInt) from g_up (show k253_7.toInt < (k253_7 + 1).toInt by omega) (show k253_7.toInt < 5 by omega)) ⟨lv_sub hl [0, 2, 3, 4, 5, 6, 7, 8] rfl, hP, hD, hS, ⟨by omega, by omega⟩⟩
                      ·
                        have i_100 : z84.toInt < 0 := g5_geN (a := z84.toInt) (b := 0) rfl (by decide +kernel) c_100
                        omega
              ·
                have i_82 : k253_7.toInt = 4 := g5_neN (a := k253_7.toInt) (b := 4) rfl (by decide +kernel) c_82
                refine lv_iload hx hb dX12_findSoonest_265 (lv_at hl 1 rfl) ?_
                refine lv_goto (tgt := 277) hx hb dX12_findSoonest_267 (by decide +kernel) ?_
                refine lv_istore (lv' := [(8, .int k243_6), (7, .int k253_7), (6, .int k243_6), (5, .int k234_5), (4, .int k62_4), (0, .ref b_o), (1, .int p_1), (2, .int p_2), (3, .int p_3)]) hx hb dX12_findSoonest_277 hl (by decide +kernel) rfl ?_
                clear hl
                intro ls hl
                refine lv_aload_n hx hb dX12_findSoonest_279 rfl (lv_at hl 5 rfl) ?_
                refine W.eq (g2 := F0 m 280 ls [.ref b_o]) rfl ?_
                refine va_get (D := G.1) (ci := 12) (v := .ref b_ld) (C := RX12) (T := TX12) (N := 52) hx hb hts inG_X12 hown hK hP 0 rfl rfl 48 (by decide +kernel) (hts _ fl_X12_101) (fun _ h9 => h9) rfl dX12_findSoonest_280 ?_
                refine lv_bipush (v := 64) hx hb dX12_findSoonest_283 (by decide +kernel) ?_
                refine lv_iload hx hb dX12_findSoonest_285 (lv_at hl 3 rfl) ?_
                refine lv_imul hx hb dX12_findSoonest_287 ?_
                have t_105 : (64 * k234_5).toInt = 64 * k234_5.toInt := g5_imul (a := 64) (b := k234_5.toInt) (by decide +kernel) (by rfl) (by omega) (by omega)
                refine lv_iload hx hb dX12_findSoonest_288 (lv_at hl 2 rfl) ?_
                refine W.eq (g2 := F0 m 290 ls [.int k243_6, .int (64 * k234_5), .ref b_ld]) rfl ?_
                refine lv_iadd hx hb dX12_findSoonest_290 ?_
                have t_106 : ((64 * k234_5) + k243_6).toInt = (64 * k234_5).toInt + k243_6.toInt := g5_iadd (a := (64 * k234_5).toInt) (b := k243_6.toInt) (by rfl) (by rfl) (by omega) (by omega)
                refine lv_aload_n hx hb dX12_findSoonest_291 rfl (lv_at hl 5 rfl) ?_
                refine va_get (D := G.1) (ci := 12) (v := .ref b_ld) (C := RX12) (T := TX12) (N := 52) hx hb hts inG_X12 hown hK hP 0 rfl rfl 48 (by decide +kernel) (hts _ fl_X12_101) (fun _ h9 => h9) rfl dX12_findSoonest_292 ?_
                refine lv_bipush (v := 64) hx hb dX12_findSoonest_295 (by decide +kernel) ?_
                refine lv_iload hx hb dX12_findSoonest_297 (lv_at hl 3 rfl) ?_
                refine W.eq (g2 := F0 m 299 ls [.int k234_5, .int 64, .ref b_ld, .int ((64 * k234_5) + k243_6), .ref b_ld]) rfl ?_
                refine lv_imul hx hb dX12_findSoonest_299 ?_
                have t_107 : (64 * k234_5).toInt = 64 * k234_5.toInt := g5_imul (a := 64) (b := k234_5.toInt) (by decide +kernel) (by rfl) (by omega) (by omega)
                refine lv_iload hx hb dX12_findSoonest_300 (lv_at hl 2 rfl) ?_
                refine lv_iadd hx hb dX12_findSoonest_302 ?_
                have t_108 : ((64 * k234_5) + k243_6).toInt = (64 * k234_5).toInt + k243_6.toInt := g5_iadd (a := (64 * k234_5).toInt) (b := k243_6.toInt) (by rfl) (by rfl) (by omega) (by omega)
                refine va_zald hx hb hK hP 6 2 rfl rfl (i := ((64 * k234_5) + k243_6)) (vp_in_iff.mpr ⟨by omega, by omega⟩) dX12_findSoonest_303 ?_
                refine lv_if_ne (tgt := 356) hx hb dX12_findSoonest_304 (by decide +kernel) (fun c_109 => ?_) (fun c_109 => ?_)
                ·
                  have n_109 : gNe ((k253_ld ((64 * k234_5) + k243_6).toNatClampNeg).toInt) (0) := g5_ne (a := (k253_ld ((64 * k234_5) + k243_6).toNatClampNeg).toInt) (b := 0) rfl (by decide +kernel) c_109
                  refine lv_iconst (v := 1) hx hb dX12_findSoonest_356 (by decide +kernel) ?_
                  refine lv_goto (tgt := 361) hx hb dX12_findSoonest_357 (by decide +kernel) ?_
                  refine va_zast hx hb hK hP hD hS 6 2 rfl rfl (i := ((64 * k234_5) + k243_6)) (x := 1) (vp_in_iff.mpr ⟨by omega, by omega⟩) dX12_findSoonest_361 ?_
                  clear hP hD hS
                  intro H locs hP hD hS
                  refine g5_rs [(b_o, (oc12 u_th u_sa b_rf b_ro b_im b_ke u_fd b_tp u_td u_fr u_to u_so u_wo u_fa u_bd u_nc b_nl u_co b_op b_ar u_le b_pi b_pa u_pd u_od b_ws b_hw k62_la b_se b_re k62_bk k62_va k62_su k62_ce k62_ho k62_wy k62_bt k62_ps b_pt k62_tg k62_sn b_ip u_ic b_ah b_be b_me u_wd b_tr b_ld u_st b_wn u_id)), (b_ro, (arI G 5740 v_ro)), (b_se, (arJ G 13 k62_se)), (b_re, (arJ G 400 k62_re)), (b_pt, (arI G 200 k62_pt)), (b_tr, (arZ G 1536 k62_tr)), (b_ld, (arZ G 1536 (upd k253_ld ((64 * k234_5) + k243_6).toNatClampNeg 1)))] hP hD ?_
                  clear hP hD
                  intro hP hD
                  refine lv_iinc (v := (k253_7 + 1)) (lv' := [(7, .int (k253_7 + 1)), (8, .int k243_6), (6, .int k243_6), (5, .int k234_5), (4, .int k62_4), (0, .ref b_o), (1, .int p_1), (2, .int p_2), (3, .int p_3)]) hx hb dX12_findSoonest_362 hl (k := 1) rfl rfl (by decide +kernel) rfl ?_
                  clear hl
                  intro ls hl
                  have t_110 : (k253_7 + 1).toInt = k253_7.toInt + 1 := g5_iadd (a := k253_7.toInt) (b := 1) rfl (by decide +kernel) (by omega) (by omega)
                  refine W.eq (g2 := F0 m 365 ls []) rfl ?_
                  refine lv_goto (tgt := 253) hx hb dX12_findSoonest_365 (by decide +kernel) ?_
                  exact ih_253_79 ((k253_7 + 1), (upd k253_ld ((64 * k234_5) + k243_6).toNatClampNeg 1)) ls H locs (show Int.toNat (5 - (k253_7 + 1).toInt) < Int.toNat (5 - k253_7.toInt) from g_up (show k253_7.toInt < (k253_7 + 1).toInt by omega) (show k253_7.toInt < 5 by omega)) ⟨lv_sub hl [0, 2, 3, 4, 5, 6, 7, 8] rfl, hP, hD, hS, ⟨by omega, by omega⟩⟩
                ·
                  have i_109 : (k253_ld ((64 * k234_5) + k243_6).toNatClampNeg).toInt = 0 := g5_neN (a := (k253_ld ((64 * k234_5) + k243_6).toNatClampNeg).toInt) (b := 0) rfl (by decide +kernel) c_109
                  refine lv_aload_n hx hb dX12_findSoonest_307 rfl (lv_at hl 5 rfl) ?_
                  refine va_get (D := G.1) (ci := 12) (v := .ref b_tr) (C := RX12) (T := TX12) (N := 52) hx hb hts inG_X12 hown hK hP 0 rfl rfl 47 (by decide +kernel) (hts _ fl_X12_98) (fun _ h9 => h9) rfl dX12_findSoonest_308 ?_
                  refine lv_bipush (v := 64) hx hb dX12_findSoonest_311 (by decide +kernel) ?_
                  refine lv_iload hx hb dX12_findSoonest_313 (lv_at hl 3 rfl) ?_
                  refine W.eq (g2 := F0 m 315 ls [.int k234_5, .int 64, .ref b_tr, .int ((64 * k234_5) + k243_6), .ref b_ld]) rfl ?_
                  refine lv_imul hx hb dX12_findSoonest_315 ?_
                  have t_111 : (64 * k234_5).toInt = 64 * k234_5.toInt := g5_imul (a := 64) (b := k234_5.toInt) (by decide +kernel) (by rfl) (by omega) (by omega)
                  refine lv_iload hx hb dX12_findSoonest_316 (lv_at hl 2 rfl) ?_
                  refine lv_iadd hx hb dX12_findSoonest_318 ?_
                  have t_112 : ((64 * k234_5) + k243_6).toInt = (64 * k234_5).toInt + k243_6.toInt := g5_iadd (a := (64 * k234_5).toInt) (b := k243_6.toInt) (by rfl) (by rfl) (by omega) (by omega)
                  refine va_zald hx hb hK hP 5 2 rfl rfl (i := ((64 * k234_5) + k243_6)) (vp_in_iff.mpr ⟨by omega, by omega⟩) dX12_findSoonest_319 ?_
                  refine lv_if_eq (tgt := 360) hx hb dX12_findSoonest_320 (by decide +kernel) (fun c_113 => ?_) (fun c_113 => ?_)
                  ·
                    have i_113 : (k62_tr ((64 * k234_5) + k243_6).toNatClampNeg).toInt = 0 := g5_eq (a := (k62_tr ((64 * k234_5) + k243_6).toNatClampNeg).toInt) (b := 0) rfl (by decide +kernel) c_113
                    refine lv_iconst (v := 0) hx hb dX12_findSoonest_360 (by decide +kernel) ?_
                    refine va_zast hx hb hK hP hD hS 6 2 rfl rfl (i := ((64 * k234_5) + k243_6)) (x := 0) (vp_in_iff.mpr ⟨by omega, by omega⟩) dX12_findSoonest_361 ?_
                    clear hP hD hS
                    intro H locs hP hD hS
                    refine g5_rs [(b_o, (oc12 u_th u_sa b_rf b_ro b_im b_ke u_fd b_tp u_td u_fr u_to u_so u_wo u_fa u_bd u_nc b_nl u_co b_op b_ar u_le b_pi b_pa u_pd u_od b_ws b_hw k62_la b_se b_re k62_bk k62_va k62_su k62_ce k62_ho k62_wy k62_bt k62_ps b_pt k62_tg k62_sn b_ip u_ic b_ah b_be b_me u_wd b_tr b_ld u_st b_wn u_id)), (b_ro, (arI G 5740 v_ro)), (b_se, (arJ G 13 k62_se)), (b_re, (arJ G 400 k62_re)), (b_pt, (arI G 200 k62_pt)), (b_tr, (arZ G 1536 k62_tr)), (b_ld, (arZ G 1536 (upd k253_ld ((64 * k234_5) + k243_6).toNatClampNeg 0)))] hP hD ?_
                    clear hP hD
                    intro hP hD
                    refine lv_iinc (v := (k253_7 + 1)) (lv' := [(7, .int (k253_7 + 1)), (8, .int k243_6), (6, .int k243_6), (5, .int k234_5), (4, .int k62_4), (0, .ref b_o), (1, .int p_1), (2, .int p_2), (3, .int p_3)]) hx hb dX12_findSoonest_362 hl (k := 1) rfl rfl (by decide +kernel) rfl ?_
                    clear hl
                    intro ls hl
                    have t_114 : (k253_7 + 1).toInt = k253_7.toInt + 1 := g5_iadd (a := k253_7.toInt) (b := 1) rfl (by decide +kernel) (by omega) (by omega)
                    refine lv_goto (tgt := 253) hx hb dX12_findSoonest_365 (by decide +kernel) ?_
                    exact ih_253_79 ((k253_7 + 1), (upd k253_ld ((64 * k234_5) + k243_6).toNatClampNeg 0)) ls H locs (show Int.toNat (5 - (k253_7 + 1).toInt) < Int.toNat (5 - k253_7.toInt) from g_up (show k253_7.toInt < (k253_7 + 1).toInt by omega) (show k253_7.toInt < 5 by omega)) ⟨lv_sub hl [0, 2, 3, 4, 5, 6, 7, 8] rfl, hP, hD, hS, ⟨by omega, by omega⟩⟩
                  ·
                    have n_113 : gNe ((k62_tr ((64 * k234_5) + k243_6).toNatClampNeg).toInt) (0) := g5_eqN (a := (k62_tr ((64 * k234_5) + k243_6).toNatClampNeg).toInt) (b := 0) rfl (by decide +kernel) c_113
                    refine lv_iload hx hb dX12_findSoonest_323 (lv_at hl 0 rfl) ?_
                    refine lv_iconst (v := (-1)) hx hb dX12_findSoonest_325 (by decide +kernel) ?_
                    refine lv_icmp_eq (tgt := 360) hx hb dX12_findSoonest_326 (by decide +kernel) (fun c_115 => ?_) (fun c_115 => ?_)
                    ·
                      have i_115 : k243_6.toInt = (-1) := g5_eq (a := k243_6.toInt) (b := (-1)) rfl (by decide +kernel) c_115
                      omega
                    ·
                      have n_115 : gNe (k243_6.toInt) ((-1)) := g5_eqN (a := k243_6.toInt) (b := (-1)) rfl (by decide +kernel) c_115
                      refine lv_aload_n hx hb dX12_findSoonest_329 rfl (lv_at hl 5 rfl) ?_
                      refine va_get (D := G.1) (ci := 12) (v := .ref b_ld) (C := RX12) (T := TX12) (N := 52) hx hb hts inG_X12 hown hK hP 0 rfl rfl 48 (by decide +kernel) (hts _ fl_X12_101) (fun _ h9 => h9) rfl dX12_findSoonest_330 ?_
                      refine lv_bipush (v := 64) hx hb dX12_findSoonest_333 (by decide +kernel) ?_
                      refine lv_iload hx hb dX12_findSoonest_335 (lv_at hl 3 rfl) ?_
                      refine W.eq (g2 := F0 m 337 ls [.int k234_5, .int 64, .ref b_ld, .int ((64 * k234_5) + k243_6), .ref b_ld]) rfl ?_
                      refine lv_iconst (v := 1) hx hb dX12_findSoonest_337 (by decide +kernel) ?_
                      refine lv_iadd hx hb dX12_findSoonest_338 ?_
                      have t_116 : (k234_5 + 1).toInt = k234_5.toInt + 1 := g5_iadd (a := k234_5.toInt) (b := 1) (by rfl) (by decide +kernel) (by omega) (by omega)
                      refine lv_imul hx hb dX12_findSoonest_339 ?_
                      have t_117 : (64 * (k234_5 + 1)).toInt = 64 * (k234_5 + 1).toInt := g5_imul (a := 64) (b := (k234_5 + 1).toInt) (by decide +kernel) (by rfl) (by omega) (by omega)
                      refine lv_iload hx hb dX12_findSoonest_340 (lv_at hl 0 rfl) ?_
                      refine lv_if_ge (tgt := 349) hx hb dX12_findSoonest_342 (by decide +kernel) (fun c_118 => ?_) (fun c_118 => ?_)
                      ·
                        have i_118 : k243_6.toInt ≥ 0 := g5_ge (a := k243_6.toInt) (b := 0) rfl (by decide +kernel) c_118
                        refine lv_iload hx hb dX12_findSoonest_349 (lv_at hl 0 rfl) ?_
                        refine lv_iadd hx hb dX12_findSoonest_351 ?_
                        have t_119 : ((64 * (k234_5 + 1)) + k243_6).toInt = (64 * (k234_5 + 1)).toInt + k243_6.toInt := g5_iadd (a := (64 * (k234_5 + 1)).toInt) (b := k243_6.toInt) (by rfl) (by rfl) (by omega) (by omega)
                        refine va_zald hx hb hK hP 6 2 rfl rfl (i := ((64 * (k234_5 + 1)) + k243_6)) (vp_in_iff.mpr ⟨by omega, by omega⟩) dX12_findSoonest_352 ?_
                        refine lv_if_eq (tgt := 360) hx hb dX12_findSoonest_353 (by decide +kernel) (fun c_120 => ?_) (fun c_120 => ?_)
                        ·
                          have i_120 : (k253_ld ((64 * (k234_5 + 1)) + k243_6).toNatClampNeg).toInt = 0 := g5_eq (a := (k253_ld ((64 * (k234_5 + 1)) + k243_6).toNatClampNeg).toInt) (b := 0) rfl (by decide +kernel) c_120
                          refine lv_iconst (v := 0) hx hb dX12_findSoonest_360 (by decide +kernel) ?_
                          refine va_zast hx hb hK hP hD hS 6 2 rfl rfl (i := ((64 * k234_5) + k243_6)) (x := 0) (vp_in_iff.mpr ⟨by omega, by omega⟩) dX12_findSoonest_361 ?_
                          clear hP hD hS
                          intro H locs hP hD hS
                          refine g5_rs [(b_o, (oc12 u_th u_sa b_rf b_ro b_im b_ke u_fd b_tp u_td u_fr u_to u_so u_wo u_fa u_bd u_nc b_nl u_co b_op b_ar u_le b_pi b_pa u_pd u_od b_ws b_hw k62_la b_se b_re k62_bk k62_va k62_su k62_ce k62_ho k62_wy k62_bt k62_ps b_pt k62_tg k62_sn b_ip u_ic b_ah b_be b_me u_wd b_tr b_ld u_st b_wn u_id)), (b_ro, (arI G 5740 v_ro)), (b_se, (arJ G 13 k62_se)), (b_re, (arJ G 400 k62_re)), (b_pt, (arI G 200 k62_pt)), (b_tr, (arZ G 1536 k62_tr)), (b_ld, (arZ G 1536 (upd k253_ld ((64 * k234_5) + k243_6).toNatClampNeg 0)))] hP hD ?_
                          clear hP hD
                          intro hP hD
                          refine lv_iinc (v := (k253_7 + 1)) (lv' := [(7, .int (k253_7 + 1)), (8, .int k243_6), (6, .int k243_6), (5, .int k234_5), (4, .int k62_4), (0, .ref b_o), (1, .int p_1), (2, .int p_2), (3, .int p_3)]) hx hb dX12_findSoonest_362 hl (k := 1) rfl rfl (by decide +kernel) rfl ?_
                          clear hl
                          intro ls hl
                          have t_121 : (k253_7 + 1).toInt = k253_7.toInt + 1 := g5_iadd (a := k253_7.toInt) (b := 1) rfl (by decide +kernel) (by omega) (by omega)
                          refine lv_goto (tgt := 253) hx hb dX12_findSoonest_365 (by decide +kernel) ?_
                          exact ih_253_79 ((k253_7 + 1), (upd k253_ld ((64 * k234_5) + k243_6).toNatClampNeg 0)) ls H locs (show Int.toNat (5 - (k253_7 + 1).toInt) < Int.toNat (5 - k253_7.toInt) from g_up (show k253_7.toInt < (k253_7 + 1).toInt by omega) (show k253_7.toInt < 5 by omega)) ⟨lv_sub hl [0, 2, 3, 4, 5, 6, 7, 8] rfl, hP, hD, hS, ⟨by omega, by omega⟩⟩
                        ·
                          have n_120 : gNe ((k253_ld ((64 * (k234_5 + 1)) + k243_6).toNatClampNeg).toInt) (0) := g5_eqN (a := (k253_ld ((64 * (k234_5 + 1)) + k243_6).toNatClampNeg).toInt) (b := 0) rfl (by decide +kernel) c_120
                          refine lv_iconst (v := 1) hx hb dX12_findSoonest_356 (by decide +kernel) ?_
                          refine lv_goto (tgt := 361) hx hb dX12_findSoonest_357 (by decide +kernel) ?_
                          refine va_zast hx hb hK hP hD hS 6 2 rfl rfl (i := ((64 * k234_5) + k243_6)) (x := 1) (vp_in_iff.mpr ⟨by omega, by omega⟩) dX12_findSoonest_361 ?_
                          clear hP hD hS
                          intro H locs hP hD hS
                          refine g5_rs [(b_o, (oc12 u_th u_sa b_rf b_ro b_im b_ke u_fd b_tp u_td u_fr u_to u_so u_wo u_fa u_bd u_nc b_nl u_co b_op b_ar u_le b_pi b_pa u_pd u_od b_ws b_hw k62_la b_se b_re k62_bk k62_va k62_su k62_ce k62_ho k62_wy k62_bt k62_ps b_pt k62_tg k62_sn b_ip u_ic b_ah b_be b_me u_wd b_tr b_ld u_st b_wn u_id)), (b_ro, (arI G 5740 v_ro)), (b_se, (arJ G 13 k62_se)), (b_re, (arJ G 400 k62_re)), (b_pt, (arI G 200 k62_pt)), (b_tr, (arZ G 1536 k62_tr)), (b_ld, (arZ G 1536 (upd k253_ld ((64 * k234_5) + k243_6).toNatClampNeg 1)))] hP hD ?_
                          clear hP hD
                          intro hP hD
                          refine lv_iinc (v := (k253_7 + 1)) (lv' := [(7, .int (k253_7 + 1)), (8, .int k243_6), (6, .int k243_6), (5, .int k234_5), (4, .int k62_4), (0, .ref b_o), (1, .int p_1), (2, .int p_2), (3, .int p_3)]) hx hb dX12_findSoonest_362 hl (k := 1) rfl rfl (by decide +kernel) rfl ?_
                          clear hl
                          intro ls hl
                          have t_122 : (k253_7 + 1).toInt = k253_7.toInt + 1 := g5_iadd (a := k253_7.toInt) (b := 1) rfl (by decide +kernel) (by omega) (by omega)
                          refine W.eq (g2 := F0 m 365 ls []) rfl ?_
                          refine lv_goto (tgt := 253) hx hb dX12_findSoonest_365 (by decide +kernel) ?_
                          exact ih_253_79 ((k253_7 + 1), (upd k253_ld ((64 * k234_5) + k243_6).toNatClampNeg 1)) ls H locs (show Int.toNat (5 - (k253_7 + 1).toInt) < Int.toNat (5 - k253_7.toInt) from g_up (show k253_7.toInt < (k253_7 + 1).toInt by omega) (show k253_7.toInt < 5 by omega)) ⟨lv_sub hl [0, 2, 3, 4, 5, 6, 7, 8] rfl, hP, hD, hS, ⟨by omega, by omega⟩⟩
                      ·
                        have i_118 : k243_6.toInt < 0 := g5_geN (a := k243_6.toInt) (b := 0) rfl (by decide +kernel) c_118
                        omega
      ·
        have i_69 : k62_4.toInt = (-1) := g5_neN (a := k62_4.toInt) (b := (-1)) rfl (by decide +kernel) c_69
        refine lv_iconst (v := 0) hx hb dX12_findSoonest_75 (by decide +kernel) ?_
        refine lv_istore (lv' := [(6, .int 0), (4, .int k62_4), (5, .int k62_5), (0, .ref b_o), (1, .int p_1), (2, .int p_2), (3, .int p_3)]) hx hb dX12_findSoonest_76 hl (by decide +kernel) rfl ?_
        clear hl
        intro ls hl
        refine g5_loop (α := (Int32) × (Int32) × (Int32) × (Int32) × (Int64) × (Int64) × (Int32) × (Int32) × (Int32) × (Int32) × (Int32) × (Int32) × (Int32) × (Nat → Int64) × (Nat → Int64) × (Nat → Int32) × (Nat → Int32) × (Nat → Int32)) (fun (q : (Int32) × (Int32) × (Int32) × (Int32) × (Int64) × (Int64) × (Int32) × (Int32) × (Int32) × (Int32) × (Int32) × (Int32) × (Int32) × (Nat → Int64) × (Nat → Int64) × (Nat → Int32) × (Nat → Int32) × (Nat → Int32)) (ls : Array Slot) (H : Heap) (locs : List Loc) => match q with | (k78_6, k78_4, k78_la, k78_bk, k78_va, k78_su, k78_ce, k78_ho, k78_wy, k78_bt, k78_ps, k78_tg, k78_sn, k78_se, k78_re, k78_pt, k78_tr, k78_ld) => lv_has ls 9 [(4, .int k78_4), (6, .int k78_6), (5, .int k62_5), (0, .ref b_o), (1, .int p_1), (2, .int p_2), (3, .int p_3)] ∧ va_P G.1 vwCl [(b_o, (oc12 u_th u_sa b_rf b_ro b_im b_ke u_fd b_tp u_td u_fr u_to u_so u_wo u_fa u_bd u_nc b_nl u_co b_op b_ar u_le b_pi b_pa u_pd u_od b_ws b_hw k78_la b_se b_re k78_bk k78_va k78_su k78_ce k78_ho k78_wy k78_bt k78_ps b_pt k78_tg k78_sn b_ip u_ic b_ah b_be b_me u_wd b_tr b_ld u_st b_wn u_id)), (b_ro, (arI G 5740 v_ro)), (b_se, (arJ G 13 k78_se)), (b_re, (arJ G 400 k78_re)), (b_pt, (arI G 200 k78_pt)), (b_tr, (arZ G 1536 k78_tr)), (b_ld, (arZ G 1536 k78_ld))] H ∧ va_D A [(b_o, (oc12 u_th u_sa b_rf b_ro b_im b_ke u_fd b_tp u_td u_fr u_to u_so u_wo u_fa u_bd u_nc b_nl u_co b_op b_ar u_le b_pi b_pa u_pd u_od b_ws b_hw k78_la b_se b_re k78_bk k78_va k78_su k78_ce k78_ho k78_wy k78_bt k78_ps b_pt k78_tg k78_sn b_ip u_ic b_ah b_be b_me u_wd b_tr b_ld u_st b_wn u_id)), (b_ro, (arI G 5740 v_ro)), (b_se, (arJ G 13 k78_se)), (b_re, (arJ G 400 k78_re)), (b_pt, (arI G 200 k78_pt)), (b_tr, (arZ G 1536 k78_tr)), (b_ld, (arZ G 1536 k78_ld))] ∧ va_S A s.heap H locs ∧ (0 ≤ k78_6.toInt ∧ k78_6.toInt ≤ 64) ∧ ((-1) ≤ k78_4.toInt ∧ k78_4.toInt ≤ 23) ∧ (0 ≤ k78_la.toInt ∧ k78_la.toInt ≤ 4840) ∧ (0 ≤ k78_bk.toInt ∧ k78_bk.toInt ≤ 1) ∧ (0 ≤ k78_ce.toInt ∧ k78_ce.toInt ≤ 63) ∧ (0 ≤ k78_ho.toInt ∧ k78_ho.toInt ≤ 23) ∧ (0 ≤ k78_wy.toInt ∧ k78_wy.toInt ≤ 3) ∧ (0 ≤ k78_bt.toInt ∧ k78_bt.toInt ≤ 1000000) ∧ (0 ≤ k78_ps.toInt ∧ k78_ps.toInt ≤ 200) ∧ (PTI k78_pt)) (fun (q : (Int32) × (Int32) × (Int32) × (Int32) × (Int64) × (Int64) × (Int32) × (Int32) × (Int32) × (Int32) × (Int32) × (Int32) × (Int32) × (Nat → Int64) × (Nat → Int64) × (Nat → Int32) × (Nat → Int32) × (Nat → Int32)) => match q with | (k78_6, k78_4, k78_la, k78_bk, k78_va, k78_su, k78_ce, k78_ho, k78_wy, k78_bt, k78_ps, k78_tg, k78_sn, k78_se, k78_re, k78_pt, k78_tr, k78_ld) => Int.toNat (64 - k78_6.toInt)) (0, k62_4, k62_la, k62_bk, k62_va, k62_su, k62_ce, k62_ho, k62_wy, k62_bt, k62_ps, k62_tg, k62_sn, k62_se, k62_re, k62_pt, k62_tr, k62_ld) ⟨lv_sub hl [1, 0, 2, 3, 4, 5, 6] rfl, hP, hD, hS, ⟨by decide, by decide⟩, i_5, i_6, i_7, i_8, i_9, i_10, i_11, i_12, i_13⟩ ?_
        rintro ⟨k78_6, k78_4, k78_la, k78_bk, k78_va, k78_su, k78_ce, k78_ho, k78_wy, k78_bt, k78_ps, k78_tg, k78_sn, k78_se, k78_re, k78_pt, k78_tr, k78_ld⟩ ls H locs ⟨hl, hP, hD, hS, (i_123 : 0 ≤ k78_6.toInt ∧ k78_6.toInt ≤ 64), (i_124 : (-1) ≤ k78_4.toInt ∧ k78_4.toInt ≤ 23), (i_125 : 0 ≤ k78_la.toInt ∧ k78_la.toInt ≤ 4840), (i_126 : 0 ≤ k78_bk.toInt ∧ k78_bk.toInt ≤ 1), (i_127 : 0 ≤ k78_ce.toInt ∧ k78_ce.toInt ≤ 63), (i_128 : 0 ≤ k78_ho.toInt ∧ k78_ho.toInt ≤ 23), (i_129 : 0 ≤ k78_wy.toInt ∧ k78_wy.toInt ≤ 3), (i_130 : 0 ≤ k78_bt.toInt ∧ k78_bt.toInt ≤ 1000000), (i_131 : 0 ≤ k78_ps.toInt ∧ k78_ps.toInt ≤ 200), (i_132 : PTI k78_pt)⟩ ih_78_133
        replace hl : lv_has ls 9 [(4, .int k78_4), (6, .int k78_6), (5, .int k62_5), (0, .ref b_o), (1, .int p_1), (2, .int p_2), (3, .int p_3)] := hl
        refine g5_rs [(b_o, (oc12 u_th u_sa b_rf b_ro b_im b_ke u_fd b_tp u_td u_fr u_to u_so u_wo u_fa u_bd u_nc b_nl u_co b_op b_ar u_le b_pi b_pa u_pd u_od b_ws b_hw k78_la b_se b_re k78_bk k78_va k78_su k78_ce k78_ho k78_wy k78_bt k78_ps b_pt k78_tg k78_sn b_ip u_ic b_ah b_be b_me u_wd b_tr b_ld u_st b_wn u_id)), (b_ro, (arI G 5740 v_ro)), (b_se, (arJ G 13 k78_se)), (b_re, (arJ G 400 k78_re)), (b_pt, (arI G 200 k78_pt)), (b_tr, (arZ G 1536 k78_tr)), (b_ld, (arZ G 1536 k78_ld))] hP hD ?_
        clear hP hD
        intro hP hD
        refine lv_iload hx hb dX12_findSoonest_78 (lv_at hl 1 rfl) ?_
        refine lv_bipush (v := 64) hx hb dX12_findSoonest_80 (by decide +kernel) ?_
        refine lv_icmp_ge (tgt := 222) hx hb dX12_findSoonest_82 (by decide +kernel) (fun c_134 => ?_) (fun c_134 => ?_)
        ·
          have i_134 : k78_6.toInt ≥ 64 := g5_ge (a := k78_6.toInt) (b := 64) rfl (by decide +kernel) c_134
          refine lv_iinc (v := (k62_5 + 1)) (lv' := [(5, .int (k62_5 + 1)), (4, .int k78_4), (6, .int k78_6), (0, .ref b_o), (1, .int p_1), (2, .int p_2), (3, .int p_3)]) hx hb dX12_findSoonest_222 hl (k := 2) rfl rfl (by decide +kernel) rfl ?_
          clear hl
          intro ls hl
          have t_135 : (k62_5 + 1).toInt = k62_5.toInt + 1 := g5_iadd (a := k62_5.toInt) (b := 1) rfl (by decide +kernel) (by omega) (by omega)
          refine lv_goto (tgt := 62) hx hb dX12_findSoonest_225 (by decide +kernel) ?_
          exact ih_62_14 ((k62_5 + 1), k78_4, k78_la, k78_bk, k78_va, k78_su, k78_ce, k78_ho, k78_wy, k78_bt, k78_ps, k78_tg, k78_sn, k78_se, k78_re, k78_pt, k78_tr, k78_ld) ls H locs (show Int.toNat (24 - (k62_5 + 1).toInt) < Int.toNat (24 - k62_5.toInt) from g_up (show k62_5.toInt < (k62_5 + 1).toInt by omega) (show k62_5.toInt < 24 by omega)) ⟨lv_sub hl [1, 0, 3, 4, 5, 6] rfl, hP, hD, hS, ⟨by omega, by omega⟩, i_124, i_125, i_126, i_127, i_128, i_129, i_130, i_131, i_132⟩
        ·
          have i_134 : k78_6.toInt < 64 := g5_geN (a := k78_6.toInt) (b := 64) rfl (by decide +kernel) c_134
          refine lv_aload_n hx hb dX12_findSoonest_85 rfl (lv_at hl 3 rfl) ?_
          refine va_get (D := G.1) (ci := 12) (v := .ref b_tr) (C := RX12) (T := TX12) (N := 52) hx hb hts inG_X12 hown hK hP 0 rfl rfl 47 (by decide +kernel) (hts _ fl_X12_98) (fun _ h9 => h9) rfl dX12_findSoonest_86 ?_
          refine lv_bipush (v := 64) hx hb dX12_findSoonest_89 (by decide +kernel) ?_
          refine lv_iload hx hb dX12_findSoonest_91 (lv_at hl 2 rfl) ?_
          refine W.eq (g2 := F0 m 93 ls [.int k62_5, .int 64, .ref b_tr]) rfl ?_
          refine lv_imul hx hb dX12_findSoonest_93 ?_
          have t_136 : (64 * k62_5).toInt = 64 * k62_5.toInt := g5_imul (a := 64) (b := k62_5.toInt) (by decide +kernel) (by rfl) (by omega) (by omega)
          refine lv_iload hx hb dX12_findSoonest_94 (lv_at hl 1 rfl) ?_
          refine lv_iadd hx hb dX12_findSoonest_96 ?_
          have t_137 : ((64 * k62_5) + k78_6).toInt = (64 * k62_5).toInt + k78_6.toInt := g5_iadd (a := (64 * k62_5).toInt) (b := k78_6.toInt) (by rfl) (by rfl) (by omega) (by omega)
          refine va_zald hx hb hK hP 5 2 rfl rfl (i := ((64 * k62_5) + k78_6)) (vp_in_iff.mpr ⟨by omega, by omega⟩) dX12_findSoonest_97 ?_
          refine lv_if_eq (tgt := 216) hx hb dX12_findSoonest_98 (by decide +kernel) (fun c_138 => ?_) (fun c_138 => ?_)
          ·
            have i_138 : (k78_tr ((64 * k62_5) + k78_6).toNatClampNeg).toInt = 0 := g5_eq (a := (k78_tr ((64 * k62_5) + k78_6).toNatClampNeg).toInt) (b := 0) rfl (by decide +kernel) c_138
            refine lv_iinc (v := (k78_6 + 1)) (lv' := [(6, .int (k78_6 + 1)), (4, .int k78_4), (5, .int k62_5), (0, .ref b_o), (1, .int p_1), (2, .int p_2), (3, .int p_3)]) hx hb dX12_findSoonest_216 hl (k := 1) rfl rfl (by decide +kernel) rfl ?_
            clear hl
            intro ls hl
            have t_139 : (k78_6 + 1).toInt = k78_6.toInt + 1 := g5_iadd (a := k78_6.toInt) (b := 1) rfl (by decide +kernel) (by omega) (by omega)
            refine lv_goto (tgt := 78) hx hb dX12_findSoonest_219 (by decide +kernel) ?_
            exact ih_78_133 ((k78_6 + 1), k78_4, k78_la, k78_bk, k78_va, k78_su, k78_ce, k78_ho, k78_wy, k78_bt, k78_ps, k78_tg, k78_sn, k78_se, k78_re, k78_pt, k78_tr, k78_ld) ls H locs (show Int.toNat (64 - (k78_6 + 1).toInt) < Int.toNat (64 - k78_6.toInt) from g_up (show k78_6.toInt < (k78_6 + 1).toInt by omega) (show k78_6.toInt < 64 by omega)) ⟨lv_sub hl [1, 0, 2, 3, 4, 5, 6] rfl, hP, hD, hS, ⟨by omega, by omega⟩, i_124, i_125, i_126, i_127, i_128, i_129, i_130, i_131, i_132⟩
          ·
            have n_138 : gNe ((k78_tr ((64 * k62_5) + k78_6).toNatClampNeg).toInt) (0) := g5_eqN (a := (k78_tr ((64 * k62_5) + k78_6).toNatClampNeg).toInt) (b := 0) rfl (by decide +kernel) c_138
            refine lv_aload_n hx hb dX12_findSoonest_101 rfl (lv_at hl 3 rfl) ?_
            refine lv_iload hx hb dX12_findSoonest_102 (lv_at hl 1 rfl) ?_
            refine lv_iload hx hb dX12_findSoonest_104 (lv_at hl 2 rfl) ?_
            obtain ⟨hPc, hDc, hFc⟩ := g5_sub3 (wc := [(b_o, (oc12 u_th u_sa b_rf b_ro b_im b_ke u_fd b_tp u_td u_fr u_to u_so u_wo u_fa u_bd u_nc b_nl u_co b_op b_ar u_le b_pi b_pa u_pd u_od b_ws b_hw k78_la b_se b_re k78_bk k78_va k78_su k78_ce k78_ho k78_wy k78_bt k78_ps b_pt k78_tg k78_sn b_ip u_ic b_ah b_be b_me u_wd b_tr b_ld u_st b_wn u_id)), (b_ro, (arI G 5740 v_ro)), (b_se, (arJ G 13 k78_se)), (b_re, (arJ G 400 k78_re)), (b_pt, (arI G 200 k78_pt))]) hP hD hS hA [0, 1, 2, 3, 4] (by decide +kernel) rfl
            refine va_calli (va_runV (As := [.int k78_6, .int k62_5]) (rest := []) ⟨hx, hb, hml, hown, hts⟩ (n_seenFrom l G b_o b_ro b_se b_re b_pt b_rf b_im b_ke b_tp b_nl b_op b_ar b_pi b_pa b_ws b_hw b_ip b_ah b_be b_me b_tr b_ld b_wn H.size u_th u_sa u_fd u_td u_fr u_to u_so u_fa u_bd u_nc u_co u_le u_pd u_od k78_la k78_bk k78_ce k78_ho k78_wy k78_bt k78_ps k78_tg k78_sn u_ic u_wd u_id k78_6 k62_5 u_wo k78_va k78_su u_st v_ro k78_se k78_re k78_pt h_u_td h_u_fr h_u_to h_u_bd h_u_nc h_u_co h_u_pd i_125 i_126 i_127 i_128 i_129 i_130 i_131 h_u_ic h_u_id ⟨by omega, by omega⟩ ⟨by omega, by omega⟩ (r_ro) (i_132)) (cwV 2 hts gV_X12_404 rfl rfl rfl hv_X12_seenFrom ⟨Nat.le_of_ble_eq_true rfl, Nat.le_of_ble_eq_true rfl⟩) (g5_preV hPc hK hDc hN hT hS hFc (ci := 12) (q0 := 0) rfl rfl) rfl rfl hl.1 rfl (lv_room (Nat.le_of_ble_eq_true rfl)) dX12_findSoonest_106 ⟨Nat.le_of_ble_eq_true rfl, Nat.le_of_ble_eq_true rfl⟩) hS (fun q _ h => hFc q h) hFc (fun r u t H locs ht hvm hw hB hz1 hk1 hS => ?_)
            obtain ⟨hP1, hD1⟩ := hB
            have hP1 := g5_ht ht hP1
            obtain ⟨z148, z149, z150, z151, z152, z153, z154, z155, z156, z157, z158, z159, z160, z161, z162, (i_140 : 0 ≤ z149.toInt ∧ z149.toInt ≤ 4840), (i_141 : 0 ≤ z150.toInt ∧ z150.toInt ≤ 1), (i_142 : 0 ≤ z153.toInt ∧ z153.toInt ≤ 63), (i_143 : 0 ≤ z154.toInt ∧ z154.toInt ≤ 23), (i_144 : 0 ≤ z155.toInt ∧ z155.toInt ≤ 3), (i_145 : 0 ≤ z156.toInt ∧ z156.toInt ≤ 1000000), (i_146 : 0 ≤ z157.toInt ∧ z157.toInt ≤ 200), (i_147 : PTI z162), y163, rfl⟩ := hw
            have hJ9 := va_join (wr := [(b_tr, (arZ G 1536 k78_tr)), (b_ld, (arZ G 1536 k78_ld))]) hP hD [0, 1, 2, 3, 4] [5, 6] rfl rfl (by decide +kernel) (by decide +kernel) hk1 hFc hP1 hD1
            clear hP hD hPc hDc hFc ht hvm hz1 hk1 hP1 hD1
            obtain ⟨hP, hD⟩ := hJ9
            refine g5_rs [(b_tr, (arZ G 1536 k78_tr)), (b_ld, (arZ G 1536 k78_ld)), (b_o, (oc12 u_th u_sa b_rf b_ro b_im b_ke u_fd b_tp u_td u_fr u_to u_so u_wo u_fa u_bd u_nc b_nl u_co b_op b_ar u_le b_pi b_pa u_pd u_od b_ws b_hw z149 b_se b_re z150 z151 z152 z153 z154 z155 z156 z157 b_pt z158 z159 b_ip u_ic b_ah b_be b_me u_wd b_tr b_ld u_st b_wn u_id)), (b_ro, (arI G 5740 v_ro)), (b_se, (arJ G 13 z160)), (b_re, (arJ G 400 z161)), (b_pt, (arI G 200 z162))] hP hD ?_
            clear hP hD
            intro hP hD
            refine g5_ti (v := z148) y163 ?_
            refine W.eq (g2 := F0 m 109 ls [.int z148]) rfl ?_
            refine lv_iload_n hx hb dX12_findSoonest_109 rfl (lv_at hl 4 rfl) ?_
            obtain ⟨hPc, hDc, hFc⟩ := g5_sub3 (wc := []) hP hD hS hA [] (by decide +kernel) rfl
            refine va_calli (va_runS (As := [.int z148, .int p_1]) (rest := []) ⟨hx, hb, hml, hown, hts⟩ (n_is l G H.size z148 p_1) (va_cwS 2 hts gS_X12_387 rfl rfl rfl hs_X12_is ⟨Nat.le_of_ble_eq_true rfl, Nat.le_of_ble_eq_true rfl⟩) (g5_preS hPc hK hDc hN hT hS hFc) rfl rfl hl.1 rfl (lv_room (Nat.le_of_ble_eq_true rfl)) dX12_findSoonest_110 ⟨Nat.le_of_ble_eq_true rfl, Nat.le_of_ble_eq_true rfl⟩) hS (fun q _ h => hFc q h) hFc (fun r u t H locs ht hvm hw hB hz1 hk1 hS => ?_)
            obtain ⟨hP1, hD1⟩ := hB
            have hP1 := g5_ht ht hP1
            obtain ⟨z165, (i_164 : 0 ≤ z165.toInt ∧ z165.toInt ≤ 1), y166, rfl⟩ := hw
            have hJ9 := g5_same hP hk1
            clear hP hPc hDc hFc ht hvm hz1 hk1 hP1 hD1
            have hP := hJ9
            clear hJ9
            refine g5_ti (v := z165) y166 ?_
            refine lv_if_eq (tgt := 134) hx hb dX12_findSoonest_113 (by decide +kernel) (fun c_167 => ?_) (fun c_167 => ?_)
            ·
              have i_167 : z165.toInt = 0 := g5_eq (a := z165.toInt) (b := 0) rfl (by decide +kernel) c_167
              refine lv_iconst (v := 0) hx hb dX12_findSoonest_134 (by decide +kernel) ?_
              refine lv_istore (lv' := [(7, .int 0), (4, .int k78_4), (6, .int k78_6), (5, .int k62_5), (0, .ref b_o), (1, .int p_1), (2, .int p_2), (3, .int p_3)]) hx hb dX12_findSoonest_135 hl (by decide +kernel) rfl ?_
              clear hl
              intro ls hl
              refine g5_loop (α := (Int32) × (Nat → Int32)) (fun (q : (Int32) × (Nat → Int32)) (ls : Array Slot) (H : Heap) (locs : List Loc) => match q with | (k137_7, k137_tr) => lv_has ls 9 [(7, .int k137_7), (4, .int k78_4), (6, .int k78_6), (5, .int k62_5), (0, .ref b_o), (1, .int p_1), (2, .int p_2), (3, .int p_3)] ∧ va_P G.1 vwCl [(b_tr, (arZ G 1536 k137_tr)), (b_ld, (arZ G 1536 k78_ld)), (b_o, (oc12 u_th u_sa b_rf b_ro b_im b_ke u_fd b_tp u_td u_fr u_to u_so u_wo u_fa u_bd u_nc b_nl u_co b_op b_ar u_le b_pi b_pa u_pd u_od b_ws b_hw z149 b_se b_re z150 z151 z152 z153 z154 z155 z156 z157 b_pt z158 z159 b_ip u_ic b_ah b_be b_me u_wd b_tr b_ld u_st b_wn u_id)), (b_ro, (arI G 5740 v_ro)), (b_se, (arJ G 13 z160)), (b_re, (arJ G 400 z161)), (b_pt, (arI G 200 z162))] H ∧ va_D A [(b_tr, (arZ G 1536 k137_tr)), (b_ld, (arZ G 1536 k78_ld)), (b_o, (oc12 u_th u_sa b_rf b_ro b_im b_ke u_fd b_tp u_td u_fr u_to u_so u_wo u_fa u_bd u_nc b_nl u_co b_op b_ar u_le b_pi b_pa u_pd u_od b_ws b_hw z149 b_se b_re z150 z151 z152 z153 z154 z155 z156 z157 b_pt z158 z159 b_ip u_ic b_ah b_be b_me u_wd b_tr b_ld u_st b_wn u_id)), (b_ro, (arI G 5740 v_ro)), (b_se, (arJ G 13 z160)), (b_re, (arJ G 400 z161)), (b_pt, (arI G 200 z162))] ∧ va_S A s.heap H locs ∧ (0 ≤ k137_7.toInt ∧ k137_7.toInt ≤ 5)) (fun (q : (Int32) × (Nat → Int32)) => match q with | (k137_7, k137_tr) => Int.toNat (5 - k137_7.toInt)) (0, k78_tr) ⟨lv_sub hl [0, 1, 2, 3, 4, 5, 6, 7] rfl, hP, hD, hS, ⟨by decide, by decide⟩⟩ ?_
              rintro ⟨k137_7, k137_tr⟩ ls H locs ⟨hl, hP, hD, hS, (i_168 : 0 ≤ k137_7.toInt ∧ k137_7.toInt ≤ 5)⟩ ih_137_169
              replace hl : lv_has ls 9 [(7, .int k137_7), (4, .int k78_4), (6, .int k78_6), (5, .int k62_5), (0, .ref b_o), (1, .int p_1), (2, .int p_2), (3, .int p_3)] := hl
              refine g5_rs [(b_tr, (arZ G 1536 k137_tr)), (b_ld, (arZ G 1536 k78_ld)), (b_o, (oc12 u_th u_sa b_rf b_ro b_im b_ke u_fd b_tp u_td u_fr u_to u_so u_wo u_fa u_bd u_nc b_nl u_co b_op b_ar u_le b_pi b_pa u_pd u_od b_ws b_hw z149 b_se b_re z150 z151 z152 z153 z154 z155 z156 z157 b_pt z158 z159 b_ip u_ic b_ah b_be b_me u_wd b_tr b_ld u_st b_wn u_id)), (b_ro, (arI G 5740 v_ro)), (b_se, (arJ G 13 z160)), (b_re, (arJ G 400 z161)), (b_pt, (arI G 200 z162))] hP hD ?_
              clear hP hD
              intro hP hD
              refine lv_iload hx hb dX12_findSoonest_137 (lv_at hl 0 rfl) ?_
              refine lv_iconst (v := 5) hx hb dX12_findSoonest_139 (by decide +kernel) ?_
              refine lv_icmp_ge (tgt := 216) hx hb dX12_findSoonest_140 (by decide +kernel) (fun c_170 => ?_) (fun c_170 => ?_)
              ·
                have i_170 : k137_7.toInt ≥ 5 := g5_ge (a := k137_7.toInt) (b := 5) rfl (by decide +kernel) c_170
                refine lv_iinc (v := (k78_6 + 1)) (lv' := [(6, .int (k78_6 + 1)), (7, .int k137_7), (4, .int k78_4), (5, .int k62_5), (0, .ref b_o), (1, .int p_1), (2, .int p_2), (3, .int p_3)]) hx hb dX12_findSoonest_216 hl (k := 2) rfl rfl (by decide +kernel) rfl ?_
                clear hl
                intro ls hl
                have t_171 : (k78_6 + 1).toInt = k78_6.toInt + 1 := g5_iadd (a := k78_6.toInt) (b := 1) rfl (by decide +kernel) (by omega) (by omega)
                refine lv_goto (tgt := 78) hx hb dX12_findSoonest_219 (by decide +kernel) ?_
                exact ih_78_133 ((k78_6 + 1), k78_4, z149, z150, z151, z152, z153, z154, z155, z156, z157, z158, z159, z160, z161, z162, k137_tr, k78_ld) ls H locs (show Int.toNat (64 - (k78_6 + 1).toInt) < Int.toNat (64 - k78_6.toInt) from g_up (show k78_6.toInt < (k78_6 + 1).toInt by omega) (show k78_6.toInt < 64 by omega)) ⟨lv_sub hl [2, 0, 3, 4, 5, 6, 7] rfl, hP.sub [2, 3, 4, 5, 6, 0, 1] rfl, hD.sub [2, 3, 4, 5, 6, 0, 1] (by decide +kernel) rfl, hS, ⟨by omega, by omega⟩, i_124, i_140, i_141, i_142, i_143, i_144, i_145, i_146, i_147⟩
              ·
                have i_170 : k137_7.toInt < 5 := g5_geN (a := k137_7.toInt) (b := 5) rfl (by decide +kernel) c_170
                refine lv_iload hx hb dX12_findSoonest_143 (lv_at hl 3 rfl) ?_
                refine lv_bipush (v := 23) hx hb dX12_findSoonest_145 (by decide +kernel) ?_
                refine lv_icmp_ge (tgt := 216) hx hb dX12_findSoonest_147 (by decide +kernel) (fun c_172 => ?_) (fun c_172 => ?_)
                ·
                  have i_172 : k62_5.toInt ≥ 23 := g5_ge (a := k62_5.toInt) (b := 23) rfl (by decide +kernel) c_172
                  refine lv_iinc (v := (k78_6 + 1)) (lv' := [(6, .int (k78_6 + 1)), (7, .int k137_7), (4, .int k78_4), (5, .int k62_5), (0, .ref b_o), (1, .int p_1), (2, .int p_2), (3, .int p_3)]) hx hb dX12_findSoonest_216 hl (k := 2) rfl rfl (by decide +kernel) rfl ?_
                  clear hl
                  intro ls hl
                  have t_173 : (k78_6 + 1).toInt = k78_6.toInt + 1 := g5_iadd (a := k78_6.toInt) (b := 1) rfl (by decide +kernel) (by omega) (by omega)
                  refine lv_goto (tgt := 78) hx hb dX12_findSoonest_219 (by decide +kernel) ?_
                  exact ih_78_133 ((k78_6 + 1), k78_4, z149, z150, z151, z152, z153, z154, z155, z156, z157, z158, z159, z160, z161, z162, k137_tr, k78_ld) ls H locs (show Int.toNat (64 - (k78_6 + 1).toInt) < Int.toNat (64 - k78_6.toInt) from g_up (show k78_6.toInt < (k78_6 + 1).toInt by omega) (show k78_6.toInt < 64 by omega)) ⟨lv_sub hl [2, 0, 3, 4, 5, 6, 7] rfl, hP.sub [2, 3, 4, 5, 6, 0, 1] rfl, hD.sub [2, 3, 4, 5, 6, 0, 1] (by decide +kernel) rfl, hS, ⟨by omega, by omega⟩, i_124, i_140, i_141, i_142, i_143, i_144, i_145, i_146, i_147⟩
                ·
                  have i_172 : k62_5.toInt < 23 := g5_geN (a := k62_5.toInt) (b := 23) rfl (by decide +kernel) c_172
                  refine lv_iload hx hb dX12_findSoonest_150 (lv_at hl 0 rfl) ?_
                  refine lv_iconst (v := 4) hx hb dX12_findSoonest_152 (by decide +kernel) ?_
                  refine lv_icmp_ne (tgt := 161) hx hb dX12_findSoonest_153 (by decide +kernel) (fun c_174 => ?_) (fun c_174 => ?_)
                  ·
                    have n_174 : gNe (k137_7.toInt) (4) := g5_ne (a := k137_7.toInt) (b := 4) rfl (by decide +kernel) c_174
                    have i_174 : k137_7.toInt ≤ 3 := by have z := g5_ne (a := k137_7.toInt) (b := 4) (by rfl) (by decide +kernel) c_174; omega
                    refine lv_iload hx hb dX12_findSoonest_161 (lv_at hl 2 rfl) ?_
                    refine lv_iload hx hb dX12_findSoonest_163 (lv_at hl 0 rfl) ?_
                    obtain ⟨hPc, hDc, hFc⟩ := g5_sub3 (wc := []) hP hD hS hA [] (by decide +kernel) rfl
                    refine va_calli (va_runS (As := [.int k78_6, .int k137_7]) (rest := []) ⟨hx, hb, hml, hown, hts⟩ (n_beside l G H.size k78_6 k137_7 ⟨by omega, by omega⟩) (va_cwS 2 hts gS_X12_374 rfl rfl rfl hs_X12_beside ⟨Nat.le_of_ble_eq_true rfl, Nat.le_of_ble_eq_true rfl⟩) (g5_preS hPc hK hDc hN hT hS hFc) rfl rfl hl.1 rfl (lv_room (Nat.le_of_ble_eq_true rfl)) dX12_findSoonest_165 ⟨Nat.le_of_ble_eq_true rfl, Nat.le_of_ble_eq_true rfl⟩) hS (fun q _ h => hFc q h) hFc (fun r u t H locs ht hvm hw hB hz1 hk1 hS => ?_)
                    obtain ⟨hP1, hD1⟩ := hB
                    have hP1 := g5_ht ht hP1
                    obtain ⟨z176, (i_175 : -1 ≤ z176.toInt ∧ z176.toInt ≤ 63), y177, rfl⟩ := hw
                    have hJ9 := g5_same hP hk1
                    clear hP hPc hDc hFc ht hvm hz1 hk1 hP1 hD1
                    have hP := hJ9
                    clear hJ9
                    refine g5_ti (v := z176) y177 ?_
                    refine lv_istore (lv' := [(8, .int z176), (7, .int k137_7), (4, .int k78_4), (6, .int k78_6), (5, .int k62_5), (0, .ref b_o), (1, .int p_1), (2, .int p_2), (3, .int p_3)]) hx hb dX12_findSoonest_168 hl (by decide +kernel) rfl ?_
                    clear hl
                    intro ls hl
                    refine W.eq (g2 := F0 m 170 ls []) rfl ?_
                    refine lv_iload hx hb dX12_findSoonest_170 (lv_at hl 0 rfl) ?_
                    refine lv_iconst (v := (-1)) hx hb dX12_findSoonest_172 (by decide +kernel) ?_
                    refine lv_icmp_eq (tgt := 210) hx hb dX12_findSoonest_173 (by decide +kernel) (fun c_178 => ?_) (fun c_178 => ?_)
                    ·
                      have i_178 : z176.toInt = (-1) := g5_eq (a := z176.toInt) (b := (-1)) rfl (by decide +kernel) c_178
                      refine lv_iinc (v := (k137_7 + 1)) (lv' := [(7, .int (k137_7 + 1)), (8, .int z176), (4, .int k78_4), (6, .int k78_6), (5, .int k62_5), (0, .ref b_o), (1, .int p_1), (2, .int p_2), (3, .int p_3)]) hx hb dX12_findSoonest_210 hl (k := 1) rfl rfl (by decide +kernel) rfl ?_
                      clear hl
                      intro ls hl
                      have t_179 : (k137_7 + 1).toInt = k137_7.toInt + 1 := g5_iadd (a := k137_7.toInt) (b := 1) rfl (by decide +kernel) (by omega) (by omega)
                      refine lv_goto (tgt := 137) hx hb dX12_findSoonest_213 (by decide +kernel) ?_
                      exact ih_137_169 ((k137_7 + 1), k137_tr) ls H locs (show Int.toNat (5 - (k137_7 + 1).toInt) < Int.toNat (5 - k137_7.toInt) from g_up (show k137_7.toInt < (k137_7 + 1).toInt by omega) (show k137_7.toInt < 5 by omega)) ⟨lv_sub hl [0, 2, 3, 4, 5, 6, 7, 8] rfl, hP, hD, hS, ⟨by omega, by omega⟩⟩
                    ·
                      have n_178 : gNe (z176.toInt) ((-1)) := g5_eqN (a := z176.toInt) (b := (-1)) rfl (by decide +kernel) c_178
                      have i_178 : z176.toInt ≥ 0 := by have z := g5_eqN (a := z176.toInt) (b := (-1)) (by rfl) (by decide +kernel) c_178; omega
                      refine lv_aload_n hx hb dX12_findSoonest_176 rfl (lv_at hl 5 rfl) ?_
                      refine lv_iload hx hb dX12_findSoonest_177 (lv_at hl 0 rfl) ?_
                      refine lv_if_ge (tgt := 186) hx hb dX12_findSoonest_179 (by decide +kernel) (fun c_180 => ?_) (fun c_180 => ?_)
                      ·
                        have i_180 : z176.toInt ≥ 0 := g5_ge (a := z176.toInt) (b := 0) rfl (by decide +kernel) c_180
                        refine lv_iload hx hb dX12_findSoonest_186 (lv_at hl 0 rfl) ?_
                        obtain ⟨hPc, hDc, hFc⟩ := g5_sub3 (wc := [(b_o, (oc12 u_th u_sa b_rf b_ro b_im b_ke u_fd b_tp u_td u_fr u_to u_so u_wo u_fa u_bd u_nc b_nl u_co b_op b_ar u_le b_pi b_pa u_pd u_od b_ws b_hw z149 b_se b_re z150 z151 z152 z153 z154 z155 z156 z157 b_pt z158 z159 b_ip u_ic b_ah b_be b_me u_wd b_tr b_ld u_st b_wn u_id)), (b_ro, (arI G 5740 v_ro))]) hP hD hS hA [2, 3] (by decide +kernel) rfl
                        refine va_calli (va_runV (As := [.int z176]) (rest := []) ⟨hx, hb, hml, hown, hts⟩ (n_isWall l G b_o b_ro b_rf b_im b_ke b_tp b_nl b_op b_ar b_pi b_pa b_ws b_hw b_se b_re b_pt b_ip b_ah b_be b_me b_tr b_ld b_wn H.size u_th u_sa u_fd u_td u_fr u_to u_so u_fa u_bd u_nc u_co u_le u_pd u_od z149 z150 z153 z154 z155 z156 z157 z158 z159 u_ic u_wd u_id z176 u_wo z151 z152 u_st v_ro h_u_td h_u_fr h_u_to h_u_bd h_u_nc h_u_co h_u_pd i_140 i_141 i_142 i_143 i_144 i_145 i_146 h_u_ic h_u_id ⟨by omega, by omega⟩ (r_ro)) (cwV 1 hts gV_X12_160 rfl rfl rfl hv_X12_isWall ⟨Nat.le_of_ble_eq_true rfl, Nat.le_of_ble_eq_true rfl⟩) (g5_preV hPc hK hDc hN hT hS hFc (ci := 12) (q0 := 0) rfl rfl) rfl rfl hl.1 rfl (lv_room (Nat.le_of_ble_eq_true rfl)) dX12_findSoonest_188 ⟨Nat.le_of_ble_eq_true rfl, Nat.le_of_ble_eq_true rfl⟩) hS (fun q _ h => hFc q h) hFc (fun r u t H locs ht hvm hw hB hz1 hk1 hS => ?_)
                        obtain ⟨hP1, hD1⟩ := hB
                        have hP1 := g5_ht ht hP1
                        obtain ⟨z182, (i_181 : 0 ≤ z182.toInt ∧ z182.toInt ≤ 1), y183, rfl⟩ := hw
                        have hJ9 := va_join (wr := [(b_tr, (arZ G 1536 k137_tr)), (b_ld, (arZ G 1536 k78_ld)), (b_se, (arJ G 13 z160)), (b_re, (arJ G 400 z161)), (b_pt, (arI G 200 z162))]) hP hD [2, 3] [0, 1, 4, 5, 6] rfl rfl (by decide +kernel) (by decide +kernel) hk1 hFc hP1 hD1
                        clear hP hD hPc hDc hFc ht hvm hz1 hk1 hP1 hD1
                        obtain ⟨hP, hD⟩ := hJ9
                        refine g5_rs [(b_tr, (arZ G 1536 k137_tr)), (b_ld, (arZ G 1536 k78_ld)), (b_se, (arJ G 13 z160)), (b_re, (arJ G 400 z161)), (b_pt, (arI G 200 z162)), (b_o, (oc12 u_th u_sa b_rf b_ro b_im b_ke u_fd b_tp u_td u_fr u_to u_so u_wo u_fa u_bd u_nc b_nl u_co b_op b_ar u_le b_pi b_pa u_pd u_od b_ws b_hw z149 b_se b_re z150 z151 z152 z153 z154 z155 z156 z157 b_pt z158 z159 b_ip u_ic b_ah b_be b_me u_wd b_tr b_ld u_st b_wn u_id)), (b_ro, (arI G 5740 v_ro))] hP hD ?_
                        clear hP hD
                        intro hP hD
                        refine g5_ti (v := z182) y183 ?_
                        refine lv_if_ne (tgt := 210) hx hb dX12_findSoonest_191 (by decide +kernel) (fun c_184 => ?_) (fun c_184 => ?_)
                        ·
                          have n_184 : gNe (z182.toInt) (0) := g5_ne (a := z182.toInt) (b := 0) rfl (by decide +kernel) c_184
                          have i_184 : z182.toInt ≥ 1 := by have z := g5_ne (a := z182.toInt) (b := 0) (by rfl) (by decide +kernel) c_184; omega
                          refine lv_iinc (v := (k137_7 + 1)) (lv' := [(7, .int (k137_7 + 1)), (8, .int z176), (4, .int k78_4), (6, .int k78_6), (5, .int k62_5), (0, .ref b_o), (1, .int p_1), (2, .int p_2), (3, .int p_3)]) hx hb dX12_findSoonest_210 hl (k := 1) rfl rfl (by decide +kernel) rfl ?_
                          clear hl
                          intro ls hl
                          have t_185 : (k137_7 + 1).toInt = k137_7.toInt + 1 := g5_iadd (a := k137_7.toInt) (b := 1) rfl (by decide +kernel) (by omega) (by omega)
                          refine lv_goto (tgt := 137) hx hb dX12_findSoonest_213 (by decide +kernel) ?_
                          exact ih_137_169 ((k137_7 + 1), k137_tr) ls H locs (show Int.toNat (5 - (k137_7 + 1).toInt) < Int.toNat (5 - k137_7.toInt) from g_up (show k137_7.toInt < (k137_7 + 1).toInt by omega) (show k137_7.toInt < 5 by omega)) ⟨lv_sub hl [0, 2, 3, 4, 5, 6, 7, 8] rfl, hP.sub [0, 1, 5, 6, 2, 3, 4] rfl, hD.sub [0, 1, 5, 6, 2, 3, 4] (by decide +kernel) rfl, hS, ⟨by omega, by omega⟩⟩
                        ·
                          have i_184 : z182.toInt = 0 := g5_neN (a := z182.toInt) (b := 0) rfl (by decide +kernel) c_184
                          refine lv_aload_n hx hb dX12_findSoonest_194 rfl (lv_at hl 5 rfl) ?_
                          refine va_get (D := G.1) (ci := 12) (v := .ref b_tr) (C := RX12) (T := TX12) (N := 52) hx hb hts inG_X12 hown hK hP 5 rfl rfl 47 (by decide +kernel) (hts _ fl_X12_98) (fun _ h9 => h9) rfl dX12_findSoonest_195 ?_
                          refine lv_bipush (v := 64) hx hb dX12_findSoonest_198 (by decide +kernel) ?_
                          refine lv_iload hx hb dX12_findSoonest_200 (lv_at hl 4 rfl) ?_
                          refine W.eq (g2 := F0 m 202 ls [.int k62_5, .int 64, .ref b_tr]) rfl ?_
                          refine lv_iconst (v := 1) hx hb dX12_findSoonest_202 (by decide +kernel) ?_
                          refine lv_iadd hx hb dX12_findSoonest_203 ?_
                          have t_186 : (k62_5 + 1).toInt = k62_5.toInt + 1 := g5_iadd (a := k62_5.toInt) (b := 1) (by rfl) (by decide +kernel) (by omega) (by omega)
                          refine lv_imul hx hb dX12_findSoonest_204 ?_
                          have t_187 : (64 * (k62_5 + 1)).toInt = 64 * (k62_5 + 1).toInt := g5_imul (a := 64) (b := (k62_5 + 1).toInt) (by decide +kernel) (by rfl) (by omega) (by omega)
                          refine lv_iload hx hb dX12_findSoonest_205 (lv_at hl 0 rfl) ?_
                          refine lv_iadd hx hb dX12_findSoonest_207 ?_
                          have t_188 : ((64 * (k62_5 + 1)) + z176).toInt = (64 * (k62_5 + 1)).toInt + z176.toInt := g5_iadd (a := (64 * (k62_5 + 1)).toInt) (b := z176.toInt) (by rfl) (by rfl) (by omega) (by omega)
                          refine W.eq (g2 := F0 m 208 ls [.int ((64 * (k62_5 + 1)) + z176), .ref b_tr]) rfl ?_
                          refine lv_iconst (v := 1) hx hb dX12_findSoonest_208 (by decide +kernel) ?_
                          refine va_zast hx hb hK hP hD hS 0 2 rfl rfl (i := ((64 * (k62_5 + 1)) + z176)) (x := 1) (vp_in_iff.mpr ⟨by omega, by omega⟩) dX12_findSoonest_209 ?_
                          clear hP hD hS
                          intro H locs hP hD hS
                          refine g5_rs [(b_tr, (arZ G 1536 (upd k137_tr ((64 * (k62_5 + 1)) + z176).toNatClampNeg 1))), (b_ld, (arZ G 1536 k78_ld)), (b_se, (arJ G 13 z160)), (b_re, (arJ G 400 z161)), (b_pt, (arI G 200 z162)), (b_o, (oc12 u_th u_sa b_rf b_ro b_im b_ke u_fd b_tp u_td u_fr u_to u_so u_wo u_fa u_bd u_nc b_nl u_co b_op b_ar u_le b_pi b_pa u_pd u_od b_ws b_hw z149 b_se b_re z150 z151 z152 z153 z154 z155 z156 z157 b_pt z158 z159 b_ip u_ic b_ah b_be b_me u_wd b_tr b_ld u_st b_wn u_id)), (b_ro, (arI G 5740 v_ro))] hP hD ?_
                          clear hP hD
                          intro hP hD
                          refine lv_iinc (v := (k137_7 + 1)) (lv' := [(7, .int (k137_7 + 1)), (8, .int z176), (4, .int k78_4), (6, .int k78_6), (5, .int k62_5), (0, .ref b_o), (1, .int p_1), (2, .int p_2), (3, .int p_3)]) hx hb dX12_findSoonest_210 hl (k := 1) rfl rfl (by decide +kernel) rfl ?_
                          clear hl
                          intro ls hl
                          have t_189 : (k137_7 + 1).toInt = k137_7.toInt + 1 := g5_iadd (a := k137_7.toInt) (b := 1) rfl (by decide +kernel) (by omega) (by omega)
                          refine lv_goto (tgt := 137) hx hb dX12_findSoonest_213 (by decide +kernel) ?_
                          exact ih_137_169 ((k137_7 + 1), (upd k137_tr ((64 * (k62_5 + 1)) + z176).toNatClampNeg 1)) ls H locs (show Int.toNat (5 - (k137_7 + 1).toInt) < Int.toNat (5 - k137_7.toInt) from g_up (show k137_7.toInt < (k137_7 + 1).toInt by omega) (show k137_7.toInt < 5 by omega)) ⟨lv_sub hl [0, 2, 3, 4, 5, 6, 7, 8] rfl, hP.sub [0, 1, 5, 6, 2, 3, 4] rfl, hD.sub [0, 1, 5, 6, 2, 3, 4] (by decide +kernel) rfl, hS, ⟨by omega, by omega⟩⟩
                      ·
                        have i_180 : z176.toInt < 0 := g5_geN (a := z176.toInt) (b := 0) rfl (by decide +kernel) c_180
                        omega
                  ·
                    have i_174 : k137_7.toInt = 4 := g5_neN (a := k137_7.toInt) (b := 4) rfl (by decide +kernel) c_174
                    refine lv_iload hx hb dX12_findSoonest_156 (lv_at hl 2 rfl) ?_
                    refine lv_goto (tgt := 168) hx hb dX12_findSoonest_158 (by decide +kernel) ?_
                    refine lv_istore (lv' := [(8, .int k78_6), (7, .int k137_7), (4, .int k78_4), (6, .int k78_6), (5, .int k62_5), (0, .ref b_o), (1, .int p_1), (2, .int p_2), (3, .int p_3)]) hx hb dX12_findSoonest_168 hl (by decide +kernel) rfl ?_
                    clear hl
                    intro ls hl
                    refine lv_iload hx hb dX12_findSoonest_170 (lv_at hl 0 rfl) ?_
                    refine W.eq (g2 := F0 m 172 ls [.int k78_6]) rfl ?_
                    refine lv_iconst (v := (-1)) hx hb dX12_findSoonest_172 (by decide +kernel) ?_
                    refine lv_icmp_eq (tgt := 210) hx hb dX12_findSoonest_173 (by decide +kernel) (fun c_190 => ?_) (fun c_190 => ?_)
                    ·
                      have i_190 : k78_6.toInt = (-1) := g5_eq (a := k78_6.toInt) (b := (-1)) rfl (by decide +kernel) c_190
                      omega
                    ·
                      have n_190 : gNe (k78_6.toInt) ((-1)) := g5_eqN (a := k78_6.toInt) (b := (-1)) rfl (by decide +kernel) c_190
                      refine lv_aload_n hx hb dX12_findSoonest_176 rfl (lv_at hl 5 rfl) ?_
                      refine lv_iload hx hb dX12_findSoonest_177 (lv_at hl 0 rfl) ?_
                      refine lv_if_ge (tgt := 186) hx hb dX12_findSoonest_179 (by decide +kernel) (fun c_191 => ?_) (fun c_191 => ?_)
                      ·
                        have i_191 : k78_6.toInt ≥ 0 := g5_ge (a := k78_6.toInt) (b := 0) rfl (by decide +kernel) c_191
                        refine lv_iload hx hb dX12_findSoonest_186 (lv_at hl 0 rfl) ?_
                        obtain ⟨hPc, hDc, hFc⟩ := g5_sub3 (wc := [(b_o, (oc12 u_th u_sa b_rf b_ro b_im b_ke u_fd b_tp u_td u_fr u_to u_so u_wo u_fa u_bd u_nc b_nl u_co b_op b_ar u_le b_pi b_pa u_pd u_od b_ws b_hw z149 b_se b_re z150 z151 z152 z153 z154 z155 z156 z157 b_pt z158 z159 b_ip u_ic b_ah b_be b_me u_wd b_tr b_ld u_st b_wn u_id)), (b_ro, (arI G 5740 v_ro))]) hP hD hS hA [2, 3] (by decide +kernel) rfl
                        refine va_calli (va_runV (As := [.int k78_6]) (rest := []) ⟨hx, hb, hml, hown, hts⟩ (n_isWall l G b_o b_ro b_rf b_im b_ke b_tp b_nl b_op b_ar b_pi b_pa b_ws b_hw b_se b_re b_pt b_ip b_ah b_be b_me b_tr b_ld b_wn H.size u_th u_sa u_fd u_td u_fr u_to u_so u_fa u_bd u_nc u_co u_le u_pd u_od z149 z150 z153 z154 z155 z156 z157 z158 z159 u_ic u_wd u_id k78_6 u_wo z151 z152 u_st v_ro h_u_td h_u_fr h_u_to h_u_bd h_u_nc h_u_co h_u_pd i_140 i_141 i_142 i_143 i_144 i_145 i_146 h_u_ic h_u_id ⟨by omega, by omega⟩ (r_ro)) (cwV 1 hts gV_X12_160 rfl rfl rfl hv_X12_isWall ⟨Nat.le_of_ble_eq_true rfl, Nat.le_of_ble_eq_true rfl⟩) (g5_preV hPc hK hDc hN hT hS hFc (ci := 12) (q0 := 0) rfl rfl) rfl rfl hl.1 rfl (lv_room (Nat.le_of_ble_eq_true rfl)) dX12_findSoonest_188 ⟨Nat.le_of_ble_eq_true rfl, Nat.le_of_ble_eq_true rfl⟩) hS (fun q _ h => hFc q h) hFc (fun r u t H locs ht hvm hw hB hz1 hk1 hS => ?_)
                        obtain ⟨hP1, hD1⟩ := hB
                        have hP1 := g5_ht ht hP1
                        obtain ⟨z193, (i_192 : 0 ≤ z193.toInt ∧ z193.toInt ≤ 1), y194, rfl⟩ := hw
                        have hJ9 := va_join (wr := [(b_tr, (arZ G 1536 k137_tr)), (b_ld, (arZ G 1536 k78_ld)), (b_se, (arJ G 13 z160)), (b_re, (arJ G 400 z161)), (b_pt, (arI G 200 z162))]) hP hD [2, 3] [0, 1, 4, 5, 6] rfl rfl (by decide +kernel) (by decide +kernel) hk1 hFc hP1 hD1
                        clear hP hD hPc hDc hFc ht hvm hz1 hk1 hP1 hD1
                        obtain ⟨hP, hD⟩ := hJ9
                        refine g5_rs [(b_tr, (arZ G 1536 k137_tr)), (b_ld, (arZ G 1536 k78_ld)), (b_se, (arJ G 13 z160)), (b_re, (arJ G 400 z161)), (b_pt, (arI G 200 z162)), (b_o, (oc12 u_th u_sa b_rf b_ro b_im b_ke u_fd b_tp u_td u_fr u_to u_so u_wo u_fa u_bd u_nc b_nl u_co b_op b_ar u_le b_pi b_pa u_pd u_od b_ws b_hw z149 b_se b_re z150 z151 z152 z153 z154 z155 z156 z157 b_pt z158 z159 b_ip u_ic b_ah b_be b_me u_wd b_tr b_ld u_st b_wn u_id)), (b_ro, (arI G 5740 v_ro))] hP hD ?_
                        clear hP hD
                        intro hP hD
                        refine g5_ti (v := z193) y194 ?_
                        refine lv_if_ne (tgt := 210) hx hb dX12_findSoonest_191 (by decide +kernel) (fun c_195 => ?_) (fun c_195 => ?_)
                        ·
                          have n_195 : gNe (z193.toInt) (0) := g5_ne (a := z193.toInt) (b := 0) rfl (by decide +kernel) c_195
                          have i_195 : z193.toInt ≥ 1 := by have z := g5_ne (a := z193.toInt) (b := 0) (by rfl) (by decide +kernel) c_195; omega
                          refine lv_iinc (v := (k137_7 + 1)) (lv' := [(7, .int (k137_7 + 1)), (8, .int k78_6), (4, .int k78_4), (6, .int k78_6), (5, .int k62_5), (0, .ref b_o), (1, .int p_1), (2, .int p_2), (3, .int p_3)]) hx hb dX12_findSoonest_210 hl (k := 1) rfl rfl (by decide +kernel) rfl ?_
                          clear hl
                          intro ls hl
                          have t_196 : (k137_7 + 1).toInt = k137_7.toInt + 1 := g5_iadd (a := k137_7.toInt) (b := 1) rfl (by decide +kernel) (by omega) (by omega)
                          refine lv_goto (tgt := 137) hx hb dX12_findSoonest_213 (by decide +kernel) ?_
                          exact ih_137_169 ((k137_7 + 1), k137_tr) ls H locs (show Int.toNat (5 - (k137_7 + 1).toInt) < Int.toNat (5 - k137_7.toInt) from g_up (show k137_7.toInt < (k137_7 + 1).toInt by omega) (show k137_7.toInt < 5 by omega)) ⟨lv_sub hl [0, 2, 3, 4, 5, 6, 7, 8] rfl, hP.sub [0, 1, 5, 6, 2, 3, 4] rfl, hD.sub [0, 1, 5, 6, 2, 3, 4] (by decide +kernel) rfl, hS, ⟨by omega, by omega⟩⟩
                        ·
                          have i_195 : z193.toInt = 0 := g5_neN (a := z193.toInt) (b := 0) rfl (by decide +kernel) c_195
                          refine lv_aload_n hx hb dX12_findSoonest_194 rfl (lv_at hl 5 rfl) ?_
                          refine va_get (D := G.1) (ci := 12) (v := .ref b_tr) (C := RX12) (T := TX12) (N := 52) hx hb hts inG_X12 hown hK hP 5 rfl rfl 47 (by decide +kernel) (hts _ fl_X12_98) (fun _ h9 => h9) rfl dX12_findSoonest_195 ?_
                          refine lv_bipush (v := 64) hx hb dX12_findSoonest_198 (by decide +kernel) ?_
                          refine lv_iload hx hb dX12_findSoonest_200 (lv_at hl 4 rfl) ?_
                          refine W.eq (g2 := F0 m 202 ls [.int k62_5, .int 64, .ref b_tr]) rfl ?_
                          refine lv_iconst (v := 1) hx hb dX12_findSoonest_202 (by decide +kernel) ?_
                          refine lv_iadd hx hb dX12_findSoonest_203 ?_
                          have t_197 : (k62_5 + 1).toInt = k62_5.toInt + 1 := g5_iadd (a := k62_5.toInt) (b := 1) (by rfl) (by decide +kernel) (by omega) (by omega)
                          refine lv_imul hx hb dX12_findSoonest_204 ?_
                          have t_198 : (64 * (k62_5 + 1)).toInt = 64 * (k62_5 + 1).toInt := g5_imul (a := 64) (b := (k62_5 + 1).toInt) (by decide +kernel) (by rfl) (by omega) (by omega)
                          refine lv_iload hx hb dX12_findSoonest_205 (lv_at hl 0 rfl) ?_
                          refine lv_iadd hx hb dX12_findSoonest_207 ?_
                          have t_199 : ((64 * (k62_5 + 1)) + k78_6).toInt = (64 * (k62_5 + 1)).toInt + k78_6.toInt := g5_iadd (a := (64 * (k62_5 + 1)).toInt) (b := k78_6.toInt) (by rfl) (by rfl) (by omega) (by omega)
                          refine W.eq (g2 := F0 m 208 ls [.int ((64 * (k62_5 + 1)) + k78_6), .ref b_tr]) rfl ?_
                          refine lv_iconst (v := 1) hx hb dX12_findSoonest_208 (by decide +kernel) ?_
                          refine va_zast hx hb hK hP hD hS 0 2 rfl rfl (i := ((64 * (k62_5 + 1)) + k78_6)) (x := 1) (vp_in_iff.mpr ⟨by omega, by omega⟩) dX12_findSoonest_209 ?_
                          clear hP hD hS
                          intro H locs hP hD hS
                          refine g5_rs [(b_tr, (arZ G 1536 (upd k137_tr ((64 * (k62_5 + 1)) + k78_6).toNatClampNeg 1))), (b_ld, (arZ G 1536 k78_ld)), (b_se, (arJ G 13 z160)), (b_re, (arJ G 400 z161)), (b_pt, (arI G 200 z162)), (b_o, (oc12 u_th u_sa b_rf b_ro b_im b_ke u_fd b_tp u_td u_fr u_to u_so u_wo u_fa u_bd u_nc b_nl u_co b_op b_ar u_le b_pi b_pa u_pd u_od b_ws b_hw z149 b_se b_re z150 z151 z152 z153 z154 z155 z156 z157 b_pt z158 z159 b_ip u_ic b_ah b_be b_me u_wd b_tr b_ld u_st b_wn u_id)), (b_ro, (arI G 5740 v_ro))] hP hD ?_
                          clear hP hD
                          intro hP hD
                          refine lv_iinc (v := (k137_7 + 1)) (lv' := [(7, .int (k137_7 + 1)), (8, .int k78_6), (4, .int k78_4), (6, .int k78_6), (5, .int k62_5), (0, .ref b_o), (1, .int p_1), (2, .int p_2), (3, .int p_3)]) hx hb dX12_findSoonest_210 hl (k := 1) rfl rfl (by decide +kernel) rfl ?_
                          clear hl
                          intro ls hl
                          have t_200 : (k137_7 + 1).toInt = k137_7.toInt + 1 := g5_iadd (a := k137_7.toInt) (b := 1) rfl (by decide +kernel) (by omega) (by omega)
                          refine lv_goto (tgt := 137) hx hb dX12_findSoonest_213 (by decide +kernel) ?_
                          exact ih_137_169 ((k137_7 + 1), (upd k137_tr ((64 * (k62_5 + 1)) + k78_6).toNatClampNeg 1)) ls H locs (show Int.toNat (5 - (k137_7 + 1).toInt) < Int.toNat (5 - k137_7.toInt) from g_up (show k137_7.toInt < (k137_7 + 1).toInt by omega) (show k137_7.toInt < 5 by omega)) ⟨lv_sub hl [0, 2, 3, 4, 5, 6, 7, 8] rfl, hP.sub [0, 1, 5, 6, 2, 3, 4] rfl, hD.sub [0, 1, 5, 6, 2, 3, 4] (by decide +kernel) rfl, hS, ⟨by omega, by omega⟩⟩
                      ·
                        have i_191 : k78_6.toInt < 0 := g5_geN (a := k78_6.toInt) (b := 0) rfl (by decide +kernel) c_191
                        omega
            ·
              have n_167 : gNe (z165.toInt) (0) := g5_eqN (a := z165.toInt) (b := 0) rfl (by decide +kernel) c_167
              have i_167 : z165.toInt ≥ 1 := by have z := g5_eqN (a := z165.toInt) (b := 0) (by rfl) (by decide +kernel) c_167; omega
              refine lv_aload_n hx hb dX12_findSoonest_116 rfl (lv_at hl 3 rfl) ?_
              refine va_get (D := G.1) (ci := 12) (v := .ref b_ld) (C := RX12) (T := TX12) (N := 52) hx hb hts inG_X12 hown hK hP 2 rfl rfl 48 (by decide +kernel) (hts _ fl_X12_101) (fun _ h9 => h9) rfl dX12_findSoonest_117 ?_
              refine lv_bipush (v := 64) hx hb dX12_findSoonest_120 (by decide +kernel) ?_
              refine lv_iload hx hb dX12_findSoonest_122 (lv_at hl 2 rfl) ?_
              refine W.eq (g2 := F0 m 124 ls [.int k62_5, .int 64, .ref b_ld]) rfl ?_
              refine lv_imul hx hb dX12_findSoonest_124 ?_
              have t_201 : (64 * k62_5).toInt = 64 * k62_5.toInt := g5_imul (a := 64) (b := k62_5.toInt) (by decide +kernel) (by rfl) (by omega) (by omega)
              refine lv_iload hx hb dX12_findSoonest_125 (lv_at hl 1 rfl) ?_
              refine lv_iadd hx hb dX12_findSoonest_127 ?_
              have t_202 : ((64 * k62_5) + k78_6).toInt = (64 * k62_5).toInt + k78_6.toInt := g5_iadd (a := (64 * k62_5).toInt) (b := k78_6.toInt) (by rfl) (by rfl) (by omega) (by omega)
              refine lv_iconst (v := 1) hx hb dX12_findSoonest_128 (by decide +kernel) ?_
              refine va_zast hx hb hK hP hD hS 1 2 rfl rfl (i := ((64 * k62_5) + k78_6)) (x := 1) (vp_in_iff.mpr ⟨by omega, by omega⟩) dX12_findSoonest_129 ?_
              clear hP hD hS
              intro H locs hP hD hS
              refine g5_rs [(b_tr, (arZ G 1536 k78_tr)), (b_ld, (arZ G 1536 (upd k78_ld ((64 * k62_5) + k78_6).toNatClampNeg 1))), (b_o, (oc12 u_th u_sa b_rf b_ro b_im b_ke u_fd b_tp u_td u_fr u_to u_so u_wo u_fa u_bd u_nc b_nl u_co b_op b_ar u_le b_pi b_pa u_pd u_od b_ws b_hw z149 b_se b_re z150 z151 z152 z153 z154 z155 z156 z157 b_pt z158 z159 b_ip u_ic b_ah b_be b_me u_wd b_tr b_ld u_st b_wn u_id)), (b_ro, (arI G 5740 v_ro)), (b_se, (arJ G 13 z160)), (b_re, (arJ G 400 z161)), (b_pt, (arI G 200 z162))] hP hD ?_
              clear hP hD
              intro hP hD
              refine W.eq (g2 := F0 m 130 ls []) rfl ?_
              refine lv_iload hx hb dX12_findSoonest_130 (lv_at hl 2 rfl) ?_
              refine lv_istore (lv' := [(4, .int k62_5), (6, .int k78_6), (5, .int k62_5), (0, .ref b_o), (1, .int p_1), (2, .int p_2), (3, .int p_3)]) hx hb dX12_findSoonest_132 hl (by decide +kernel) rfl ?_
              clear hl
              intro ls hl
              refine lv_iconst (v := 0) hx hb dX12_findSoonest_134 (by decide +kernel) ?_
              refine lv_istore (lv' := [(7, .int 0), (4, .int k62_5), (6, .int k78_6), (5, .int k62_5), (0, .ref b_o), (1, .int p_1), (2, .int p_2), (3, .int p_3)]) hx hb dX12_findSoonest_135 hl (by decide +kernel) rfl ?_
              clear hl
              intro ls hl
              refine g5_loop (α := (Int32) × (Nat → Int32)) (fun (q : (Int32) × (Nat → Int32)) (ls : Array Slot) (H : Heap) (locs : List Loc) => match q with | (k137_7, k137_tr) => lv_has ls 9 [(7, .int k137_7), (4, .int k62_5), (6, .int k78_6), (5, .int k62_5), (0, .ref b_o), (1, .int p_1), (2, .int p_2), (3, .int p_3)] ∧ va_P G.1 vwCl [(b_tr, (arZ G 1536 k137_tr)), (b_ld, (arZ G 1536 (upd k78_ld ((64 * k62_5) + k78_6).toNatClampNeg 1))), (b_o, (oc12 u_th u_sa b_rf b_ro b_im b_ke u_fd b_tp u_td u_fr u_to u_so u_wo u_fa u_bd u_nc b_nl u_co b_op b_ar u_le b_pi b_pa u_pd u_od b_ws b_hw z149 b_se b_re z150 z151 z152 z153 z154 z155 z156 z157 b_pt z158 z159 b_ip u_ic b_ah b_be b_me u_wd b_tr b_ld u_st b_wn u_id)), (b_ro, (arI G 5740 v_ro)), (b_se, (arJ G 13 z160)), (b_re, (arJ G 400 z161)), (b_pt, (arI G 200 z162))] H ∧ va_D A [(b_tr, (arZ G 1536 k137_tr)), (b_ld, (arZ G 1536 (upd k78_ld ((64 * k62_5) + k78_6).toNatClampNeg 1))), (b_o, (oc12 u_th u_sa b_rf b_ro b_im b_ke u_fd b_tp u_td u_fr u_to u_so u_wo u_fa u_bd u_nc b_nl u_co b_op b_ar u_le b_pi b_pa u_pd u_od b_ws b_hw z149 b_se b_re z150 z151 z152 z153 z154 z155 z156 z157 b_pt z158 z159 b_ip u_ic b_ah b_be b_me u_wd b_tr b_ld u_st b_wn u_id)), (b_ro, (arI G 5740 v_ro)), (b_se, (arJ G 13 z160)), (b_re, (arJ G 400 z161)), (b_pt, (arI G 200 z162))] ∧ va_S A s.heap H locs ∧ (0 ≤ k137_7.toInt ∧ k137_7.toInt ≤ 5)) (fun (q : (Int32) × (Nat → Int32)) => match q with | (k137_7, k137_tr) => Int.toNat (5 - k137_7.toInt)) (0, k78_tr) ⟨lv_sub hl [0, 1, 2, 3, 4, 5, 6, 7] rfl, hP, hD, hS, ⟨by decide, by decide⟩⟩ ?_
              rintro ⟨k137_7, k137_tr⟩ ls H locs ⟨hl, hP, hD, hS, (i_203 : 0 ≤ k137_7.toInt ∧ k137_7.toInt ≤ 5)⟩ ih_137_204
              replace hl : lv_has ls 9 [(7, .int k137_7), (4, .int k62_5), (6, .int k78_6), (5, .int k62_5), (0, .ref b_o), (1, .int p_1), (2, .int p_2), (3, .int p_3)] := hl
              refine g5_rs [(b_tr, (arZ G 1536 k137_tr)), (b_ld, (arZ G 1536 (upd k78_ld ((64 * k62_5) + k78_6).toNatClampNeg 1))), (b_o, (oc12 u_th u_sa b_rf b_ro b_im b_ke u_fd b_tp u_td u_fr u_to u_so u_wo u_fa u_bd u_nc b_nl u_co b_op b_ar u_le b_pi b_pa u_pd u_od b_ws b_hw z149 b_se b_re z150 z151 z152 z153 z154 z155 z156 z157 b_pt z158 z159 b_ip u_ic b_ah b_be b_me u_wd b_tr b_ld u_st b_wn u_id)), (b_ro, (arI G 5740 v_ro)), (b_se, (arJ G 13 z160)), (b_re, (arJ G 400 z161)), (b_pt, (arI G 200 z162))] hP hD ?_
              clear hP hD
              intro hP hD
              refine lv_iload hx hb dX12_findSoonest_137 (lv_at hl 0 rfl) ?_
              refine lv_iconst (v := 5) hx hb dX12_findSoonest_139 (by decide +kernel) ?_
              refine lv_icmp_ge (tgt := 216) hx hb dX12_findSoonest_140 (by decide +kernel) (fun c_205 => ?_) (fun c_205 => ?_)
              ·
                have i_205 : k137_7.toInt ≥ 5 := g5_ge (a := k137_7.toInt) (b := 5) rfl (by decide +kernel) c_205
                refine lv_iinc (v := (k78_6 + 1)) (lv' := [(6, .int (k78_6 + 1)), (7, .int k137_7), (4, .int k62_5), (5, .int k62_5), (0, .ref b_o), (1, .int p_1), (2, .int p_2), (3, .int p_3)]) hx hb dX12_findSoonest_216 hl (k := 2) rfl rfl (by decide +kernel) rfl ?_
                clear hl
                intro ls hl
                have t_206 : (k78_6 + 1).toInt = k78_6.toInt + 1 := g5_iadd (a := k78_6.toInt) (b := 1) rfl (by decide +kernel) (by omega) (by omega)
                refine lv_goto (tgt := 78) hx hb dX12_findSoonest_219 (by decide +kernel) ?_
                exact ih_78_133 ((k78_6 + 1), k62_5, z149, z150, z151, z152, z153, z154, z155, z156, z157, z158, z159, z160, z161, z162, k137_tr, (upd k78_ld ((64 * k62_5) + k78_6).toNatClampNeg 1)) ls H locs (show Int.toNat (64 - (k78_6 + 1).toInt) < Int.toNat (64 - k78_6.toInt) from g_up (show k78_6.toInt < (k78_6 + 1).toInt by omega) (show k78_6.toInt < 64 by omega)) ⟨lv_sub hl [2, 0, 3, 4, 5, 6, 7] rfl, hP.sub [2, 3, 4, 5, 6, 0, 1] rfl, hD.sub [2, 3, 4, 5, 6, 0, 1] (by decide +kernel) rfl, hS, ⟨by omega, by omega⟩, ⟨by omega, by omega⟩, i_140, i_141, i_142, i_143, i_144, i_145, i_146, i_147⟩
              ·
                have i_205 : k137_7.toInt < 5 := g5_geN (a := k137_7.toInt) (b := 5) rfl (by decide +kernel) c_205
                refine lv_iload hx hb dX12_findSoonest_143 (lv_at hl 3 rfl) ?_
                refine lv_bipush (v := 23) hx hb dX12_findSoonest_145 (by decide +kernel) ?_
                refine lv_icmp_ge (tgt := 216) hx hb dX12_findSoonest_147 (by decide +kernel) (fun c_207 => ?_) (fun c_207 => ?_)
                ·
                  have i_207 : k62_5.toInt ≥ 23 := g5_ge (a := k62_5.toInt) (b := 23) rfl (by decide +kernel) c_207
                  refine lv_iinc (v := (k78_6 + 1)) (lv' := [(6, .int (k78_6 + 1)), (7, .int k137_7), (4, .int k62_5), (5, .int k62_5), (0, .ref b_o), (1, .int p_1), (2, .int p_2), (3, .int p_3)]) hx hb dX12_findSoonest_216 hl (k := 2) rfl rfl (by decide +kernel) rfl ?_
                  clear hl
                  intro ls hl
                  have t_208 : (k78_6 + 1).toInt = k78_6.toInt + 1 := g5_iadd (a := k78_6.toInt) (b := 1) rfl (by decide +kernel) (by omega) (by omega)
                  refine lv_goto (tgt := 78) hx hb dX12_findSoonest_219 (by decide +kernel) ?_
                  exact ih_78_133 ((k78_6 + 1), k62_5, z149, z150, z151, z152, z153, z154, z155, z156, z157, z158, z159, z160, z161, z162, k137_tr, (upd k78_ld ((64 * k62_5) + k78_6).toNatClampNeg 1)) ls H locs (show Int.toNat (64 - (k78_6 + 1).toInt) < Int.toNat (64 - k78_6.toInt) from g_up (show k78_6.toInt < (k78_6 + 1).toInt by omega) (show k78_6.toInt < 64 by omega)) ⟨lv_sub hl [2, 0, 3, 4, 5, 6, 7] rfl, hP.sub [2, 3, 4, 5, 6, 0, 1] rfl, hD.sub [2, 3, 4, 5, 6, 0, 1] (by decide +kernel) rfl, hS, ⟨by omega, by omega⟩, ⟨by omega, by omega⟩, i_140, i_141, i_142, i_143, i_144, i_145, i_146, i_147⟩
                ·
                  have i_207 : k62_5.toInt < 23 := g5_geN (a := k62_5.toInt) (b := 23) rfl (by decide +kernel) c_207
                  refine lv_iload hx hb dX12_findSoonest_150 (lv_at hl 0 rfl) ?_
                  refine lv_iconst (v := 4) hx hb dX12_findSoonest_152 (by decide +kernel) ?_
                  refine lv_icmp_ne (tgt := 161) hx hb dX12_findSoonest_153 (by decide +kernel) (fun c_209 => ?_) (fun c_209 => ?_)
                  ·
                    have n_209 : gNe (k137_7.toInt) (4) := g5_ne (a := k137_7.toInt) (b := 4) rfl (by decide +kernel) c_209
                    have i_209 : k137_7.toInt ≤ 3 := by have z := g5_ne (a := k137_7.toInt) (b := 4) (by rfl) (by decide +kernel) c_209; omega
                    refine lv_iload hx hb dX12_findSoonest_161 (lv_at hl 2 rfl) ?_
                    refine lv_iload hx hb dX12_findSoonest_163 (lv_at hl 0 rfl) ?_
                    obtain ⟨hPc, hDc, hFc⟩ := g5_sub3 (wc := []) hP hD hS hA [] (by decide +kernel) rfl
                    refine va_calli (va_runS (As := [.int k78_6, .int k137_7]) (rest := []) ⟨hx, hb, hml, hown, hts⟩ (n_beside l G H.size k78_6 k137_7 ⟨by omega, by omega⟩) (va_cwS 2 hts gS_X12_374 rfl rfl rfl hs_X12_beside ⟨Nat.le_of_ble_eq_true rfl, Nat.le_of_ble_eq_true rfl⟩) (g5_preS hPc hK hDc hN hT hS hFc) rfl rfl hl.1 rfl (lv_room (Nat.le_of_ble_eq_true rfl)) dX12_findSoonest_165 ⟨Nat.le_of_ble_eq_true rfl, Nat.le_of_ble_eq_true rfl⟩) hS (fun q _ h => hFc q h) hFc (fun r u t H locs ht hvm hw hB hz1 hk1 hS => ?_)
                    obtain ⟨hP1, hD1⟩ := hB
                    have hP1 := g5_ht ht hP1
                    obtain ⟨z211, (i_210 : -1 ≤ z211.toInt ∧ z211.toInt ≤ 63), y212, rfl⟩ := hw
                    have hJ9 := g5_same hP hk1
                    clear hP hPc hDc hFc ht hvm hz1 hk1 hP1 hD1
                    have hP := hJ9
                    clear hJ9
                    refine g5_ti (v := z211) y212 ?_
                    refine lv_istore (lv' := [(8, .int z211), (7, .int k137_7), (4, .int k62_5), (6, .int k78_6), (5, .int k62_5), (0, .ref b_o), (1, .int p_1), (2, .int p_2), (3, .int p_3)]) hx hb dX12_findSoonest_168 hl (by decide +kernel) rfl ?_
                    clear hl
                    intro ls hl
                    refine W.eq (g2 := F0 m 170 ls []) rfl ?_
                    refine lv_iload hx hb dX12_findSoonest_170 (lv_at hl 0 rfl) ?_
                    refine lv_iconst (v := (-1)) hx hb dX12_findSoonest_172 (by decide +kernel) ?_
                    refine lv_icmp_eq (tgt := 210) hx hb dX12_findSoonest_173 (by decide +kernel) (fun c_213 => ?_) (fun c_213 => ?_)
                    ·
                      have i_213 : z211.toInt = (-1) := g5_eq (a := z211.toInt) (b := (-1)) rfl (by decide +kernel) c_213
                      refine lv_iinc (v := (k137_7 + 1)) (lv' := [(7, .int (k137_7 + 1)), (8, .int z211), (4, .int k62_5), (6, .int k78_6), (5, .int k62_5), (0, .ref b_o), (1, .int p_1), (2, .int p_2), (3, .int p_3)]) hx hb dX12_findSoonest_210 hl (k := 1) rfl rfl (by decide +kernel) rfl ?_
                      clear hl
                      intro ls hl
                      have t_214 : (k137_7 + 1).toInt = k137_7.toInt + 1 := g5_iadd (a := k137_7.toInt) (b := 1) rfl (by decide +kernel) (by omega) (by omega)
                      refine lv_goto (tgt := 137) hx hb dX12_findSoonest_213 (by decide +kernel) ?_
                      exact ih_137_204 ((k137_7 + 1), k137_tr) ls H locs (show Int.toNat (5 - (k137_7 + 1).toInt) < Int.toNat (5 - k137_7.toInt) from g_up (show k137_7.toInt < (k137_7 + 1).toInt by omega) (show k137_7.toInt < 5 by omega)) ⟨lv_sub hl [0, 2, 3, 4, 5, 6, 7, 8] rfl, hP, hD, hS, ⟨by omega, by omega⟩⟩
                    ·
                      have n_213 : gNe (z211.toInt) ((-1)) := g5_eqN (a := z211.toInt) (b := (-1)) rfl (by decide +kernel) c_213
                      have i_213 : z211.toInt ≥ 0 := by have z := g5_eqN (a := z211.toInt) (b := (-1)) (by rfl) (by decide +kernel) c_213; omega
                      refine lv_aload_n hx hb dX12_findSoonest_176 rfl (lv_at hl 5 rfl) ?_
                      refine lv_iload hx hb dX12_findSoonest_177 (lv_at hl 0 rfl) ?_
                      refine lv_if_ge (tgt := 186) hx hb dX12_findSoonest_179 (by decide +kernel) (fun c_215 => ?_) (fun c_215 => ?_)
                      ·
                        have i_215 : z211.toInt ≥ 0 := g5_ge (a := z211.toInt) (b := 0) rfl (by decide +kernel) c_215
                        refine lv_iload hx hb dX12_findSoonest_186 (lv_at hl 0 rfl) ?_
                        obtain ⟨hPc, hDc, hFc⟩ := g5_sub3 (wc := [(b_o, (oc12 u_th u_sa b_rf b_ro b_im b_ke u_fd b_tp u_td u_fr u_to u_so u_wo u_fa u_bd u_nc b_nl u_co b_op b_ar u_le b_pi b_pa u_pd u_od b_ws b_hw z149 b_se b_re z150 z151 z152 z153 z154 z155 z156 z157 b_pt z158 z159 b_ip u_ic b_ah b_be b_me u_wd b_tr b_ld u_st b_wn u_id)), (b_ro, (arI G 5740 v_ro))]) hP hD hS hA [2, 3] (by decide +kernel) rfl
                        refine va_calli (va_runV (As := [.int z211]) (rest := []) ⟨hx, hb, hml, hown, hts⟩ (n_isWall l G b_o b_ro b_rf b_im b_ke b_tp b_nl b_op b_ar b_pi b_pa b_ws b_hw b_se b_re b_pt b_ip b_ah b_be b_me b_tr b_ld b_wn H.size u_th u_sa u_fd u_td u_fr u_to u_so u_fa u_bd u_nc u_co u_le u_pd u_od z149 z150 z153 z154 z155 z156 z157 z158 z159 u_ic u_wd u_id z211 u_wo z151 z152 u_st v_ro h_u_td h_u_fr h_u_to h_u_bd h_u_nc h_u_co h_u_pd i_140 i_141 i_142 i_143 i_144 i_145 i_146 h_u_ic h_u_id ⟨by omega, by omega⟩ (r_ro)) (cwV 1 hts gV_X12_160 rfl rfl rfl hv_X12_isWall ⟨Nat.le_of_ble_eq_true rfl, Nat.le_of_ble_eq_true rfl⟩) (g5_preV hPc hK hDc hN hT hS hFc (ci := 12) (q0 := 0) rfl rfl) rfl rfl hl.1 rfl (lv_room (Nat.le_of_ble_eq_true rfl)) dX12_findSoonest_188 ⟨Nat.le_of_ble_eq_true rfl, Nat.le_of_ble_eq_true rfl⟩) hS (fun q _ h => hFc q h) hFc (fun r u t H locs ht hvm hw hB hz1 hk1 hS => ?_)
                        obtain ⟨hP1, hD1⟩ := hB
                        have hP1 := g5_ht ht hP1
                        obtain ⟨z217, (i_216 : 0 ≤ z217.toInt ∧ z217.toInt ≤ 1), y218, rfl⟩ := hw
                        have hJ9 := va_join (wr := [(b_tr, (arZ G 1536 k137_tr)), (b_ld, (arZ G 1536 (upd k78_ld ((64 * k62_5) + k78_6).toNatClampNeg 1))), (b_se, (arJ G 13 z160)), (b_re, (arJ G 400 z161)), (b_pt, (arI G 200 z162))]) hP hD [2, 3] [0, 1, 4, 5, 6] rfl rfl (by decide +kernel) (by decide +kernel) hk1 hFc hP1 hD1
                        clear hP hD hPc hDc hFc ht hvm hz1 hk1 hP1 hD1
                        obtain ⟨hP, hD⟩ := hJ9
                        refine g5_rs [(b_tr, (arZ G 1536 k137_tr)), (b_ld, (arZ G 1536 (upd k78_ld ((64 * k62_5) + k78_6).toNatClampNeg 1))), (b_se, (arJ G 13 z160)), (b_re, (arJ G 400 z161)), (b_pt, (arI G 200 z162)), (b_o, (oc12 u_th u_sa b_rf b_ro b_im b_ke u_fd b_tp u_td u_fr u_to u_so u_wo u_fa u_bd u_nc b_nl u_co b_op b_ar u_le b_pi b_pa u_pd u_od b_ws b_hw z149 b_se b_re z150 z151 z152 z153 z154 z155 z156 z157 b_pt z158 z159 b_ip u_ic b_ah b_be b_me u_wd b_tr b_ld u_st b_wn u_id)), (b_ro, (arI G 5740 v_ro))] hP hD ?_
                        clear hP hD
                        intro hP hD
                        refine g5_ti (v := z217) y218 ?_
                        refine lv_if_ne (tgt := 210) hx hb dX12_findSoonest_191 (by decide +kernel) (fun c_219 => ?_) (fun c_219 => ?_)
                        ·
                          have n_219 : gNe (z217.toInt) (0) := g5_ne (a := z217.toInt) (b := 0) rfl (by decide +kernel) c_219
                          have i_219 : z217.toInt ≥ 1 := by have z := g5_ne (a := z217.toInt) (b := 0) (by rfl) (by decide +kernel) c_219; omega
                          refine lv_iinc (v := (k137_7 + 1)) (lv' := [(7, .int (k137_7 + 1)), (8, .int z211), (4, .int k62_5), (6, .int k78_6), (5, .int k62_5), (0, .ref b_o), (1, .int p_1), (2, .int p_2), (3, .int p_3)]) hx hb dX12_findSoonest_210 hl (k := 1) rfl rfl (by decide +kernel) rfl ?_
                          clear hl
                          intro ls hl
                          have t_220 : (k137_7 + 1).toInt = k137_7.toInt + 1 := g5_iadd (a := k137_7.toInt) (b := 1) rfl (by decide +kernel) (by omega) (by omega)
                          refine lv_goto (tgt := 137) hx hb dX12_findSoonest_213 (by decide +kernel) ?_
                          exact ih_137_204 ((k137_7 + 1), k137_tr) ls H locs (show Int.toNat (5 - (k137_7 + 1).toInt) < Int.toNat (5 - k137_7.toInt) from g_up (show k137_7.toInt < (k137_7 + 1).toInt by omega) (show k137_7.toInt < 5 by omega)) ⟨lv_sub hl [0, 2, 3, 4, 5, 6, 7, 8] rfl, hP.sub [0, 1, 5, 6, 2, 3, 4] rfl, hD.sub [0, 1, 5, 6, 2, 3, 4] (by decide +kernel) rfl, hS, ⟨by omega, by omega⟩⟩
                        ·
                          have i_219 : z217.toInt = 0 := g5_neN (a := z217.toInt) (b := 0) rfl (by decide +kernel) c_219
                          refine lv_aload_n hx hb dX12_findSoonest_194 rfl (lv_at hl 5 rfl) ?_
                          refine va_get (D := G.1) (ci := 12) (v := .ref b_tr) (C := RX12) (T := TX12) (N := 52) hx hb hts inG_X12 hown hK hP 5 rfl rfl 47 (by decide +kernel) (hts _ fl_X12_98) (fun _ h9 => h9) rfl dX12_findSoonest_195 ?_
                          refine lv_bipush (v := 64) hx hb dX12_findSoonest_198 (by decide +kernel) ?_
                          refine lv_iload hx hb dX12_findSoonest_200 (lv_at hl 4 rfl) ?_
                          refine W.eq (g2 := F0 m 202 ls [.int k62_5, .int 64, .ref b_tr]) rfl ?_
                          refine lv_iconst (v := 1) hx hb dX12_findSoonest_202 (by decide +kernel) ?_
                          refine lv_iadd hx hb dX12_findSoonest_203 ?_
                          have t_221 : (k62_5 + 1).toInt = k62_5.toInt + 1 := g5_iadd (a := k62_5.toInt) (b := 1) (by rfl) (by decide +kernel) (by omega) (by omega)
                          refine lv_imul hx hb dX12_findSoonest_204 ?_
                          have t_222 : (64 * (k62_5 + 1)).toInt = 64 * (k62_5 + 1).toInt := g5_imul (a := 64) (b := (k62_5 + 1).toInt) (by decide +kernel) (by rfl) (by omega) (by omega)
                          refine lv_iload hx hb dX12_findSoonest_205 (lv_at hl 0 rfl) ?_
                          refine lv_iadd hx hb dX12_findSoonest_207 ?_
                          have t_223 : ((64 * (k62_5 + 1)) + z211).toInt = (64 * (k62_5 + 1)).toInt + z211.toInt := g5_iadd (a := (64 * (k62_5 + 1)).toInt) (b := z211.toInt) (by rfl) (by rfl) (by omega) (by omega)
                          refine W.eq (g2 := F0 m 208 ls [.int ((64 * (k62_5 + 1)) + z211), .ref b_tr]) rfl ?_
                          refine lv_iconst (v := 1) hx hb dX12_findSoonest_208 (by decide +kernel) ?_
                          refine va_zast hx hb hK hP hD hS 0 2 rfl rfl (i := ((64 * (k62_5 + 1)) + z211)) (x := 1) (vp_in_iff.mpr ⟨by omega, by omega⟩) dX12_findSoonest_209 ?_
                          clear hP hD hS
                          intro H locs hP hD hS
                          refine g5_rs [(b_tr, (arZ G 1536 (upd k137_tr ((64 * (k62_5 + 1)) + z211).toNatClampNeg 1))), (b_ld, (arZ G 1536 (upd k78_ld ((64 * k62_5) + k78_6).toNatClampNeg 1))), (b_se, (arJ G 13 z160)), (b_re, (arJ G 400 z161)), (b_pt, (arI G 200 z162)), (b_o, (oc12 u_th u_sa b_rf b_ro b_im b_ke u_fd b_tp u_td u_fr u_to u_so u_wo u_fa u_bd u_nc b_nl u_co b_op b_ar u_le b_pi b_pa u_pd u_od b_ws b_hw z149 b_se b_re z150 z151 z152 z153 z154 z155 z156 z157 b_pt z158 z159 b_ip u_ic b_ah b_be b_me u_wd b_tr b_ld u_st b_wn u_id)), (b_ro, (arI G 5740 v_ro))] hP hD ?_
                          clear hP hD
                          intro hP hD
                          refine lv_iinc (v := (k137_7 + 1)) (lv' := [(7, .int (k137_7 + 1)), (8, .int z211), (4, .int k62_5), (6, .int k78_6), (5, .int k62_5), (0, .ref b_o), (1, .int p_1), (2, .int p_2), (3, .int p_3)]) hx hb dX12_findSoonest_210 hl (k := 1) rfl rfl (by decide +kernel) rfl ?_
                          clear hl
                          intro ls hl
                          have t_224 : (k137_7 + 1).toInt = k137_7.toInt + 1 := g5_iadd (a := k137_7.toInt) (b := 1) rfl (by decide +kernel) (by omega) (by omega)
                          refine lv_goto (tgt := 137) hx hb dX12_findSoonest_213 (by decide +kernel) ?_
                          exact ih_137_204 ((k137_7 + 1), (upd k137_tr ((64 * (k62_5 + 1)) + z211).toNatClampNeg 1)) ls H locs (show Int.toNat (5 - (k137_7 + 1).toInt) < Int.toNat (5 - k137_7.toInt) from g_up (show k137_7.toInt < (k137_7 + 1).toInt by omega) (show k137_7.toInt < 5 by omega)) ⟨lv_sub hl [0, 2, 3, 4, 5, 6, 7, 8] rfl, hP.sub [0, 1, 5, 6, 2, 3, 4] rfl, hD.sub [0, 1, 5, 6, 2, 3, 4] (by decide +kernel) rfl, hS, ⟨by omega, by omega⟩⟩
                      ·
                        have i_215 : z211.toInt < 0 := g5_geN (a := z211.toInt) (b := 0) rfl (by decide +kernel) c_215
                        omega
                  ·
                    have i_209 : k137_7.toInt = 4 := g5_neN (a := k137_7.toInt) (b := 4) rfl (by decide +kernel) c_209
                    refine lv_iload hx hb dX12_findSoonest_156 (lv_at hl 2 rfl) ?_
                    refine lv_goto (tgt := 168) hx hb dX12_findSoonest_158 (by decide +kernel) ?_
                    refine lv_istore (lv' := [(8, .int k78_6), (7, .int k137_7), (4, .int k62_5), (6, .int k78_6), (5, .int k62_5), (0, .ref b_o), (1, .int p_1), (2, .int p_2), (3, .int p_3)]) hx hb dX12_findSoonest_168 hl (by decide +kernel) rfl ?_
                    clear hl
                    intro ls hl
                    refine lv_iload hx hb dX12_findSoonest_170 (lv_at hl 0 rfl) ?_
                    refine W.eq (g2 := F0 m 172 ls [.int k78_6]) rfl ?_
                    refine lv_iconst (v := (-1)) hx hb dX12_findSoonest_172 (by decide +kernel) ?_
                    refine lv_icmp_eq (tgt := 210) hx hb dX12_findSoonest_173 (by decide +kernel) (fun c_225 => ?_) (fun c_225 => ?_)
                    ·
                      have i_225 : k78_6.toInt = (-1) := g5_eq (a := k78_6.toInt) (b := (-1)) rfl (by decide +kernel) c_225
                      omega
                    ·
                      have n_225 : gNe (k78_6.toInt) ((-1)) := g5_eqN (a := k78_6.toInt) (b := (-1)) rfl (by decide +kernel) c_225
                      refine lv_aload_n hx hb dX12_findSoonest_176 rfl (lv_at hl 5 rfl) ?_
                      refine lv_iload hx hb dX12_findSoonest_177 (lv_at hl 0 rfl) ?_
                      refine lv_if_ge (tgt := 186) hx hb dX12_findSoonest_179 (by decide +kernel) (fun c_226 => ?_) (fun c_226 => ?_)
                      ·
                        have i_226 : k78_6.toInt ≥ 0 := g5_ge (a := k78_6.toInt) (b := 0) rfl (by decide +kernel) c_226
                        refine lv_iload hx hb dX12_findSoonest_186 (lv_at hl 0 rfl) ?_
                        obtain ⟨hPc, hDc, hFc⟩ := g5_sub3 (wc := [(b_o, (oc12 u_th u_sa b_rf b_ro b_im b_ke u_fd b_tp u_td u_fr u_to u_so u_wo u_fa u_bd u_nc b_nl u_co b_op b_ar u_le b_pi b_pa u_pd u_od b_ws b_hw z149 b_se b_re z150 z151 z152 z153 z154 z155 z156 z157 b_pt z158 z159 b_ip u_ic b_ah b_be b_me u_wd b_tr b_ld u_st b_wn u_id)), (b_ro, (arI G 5740 v_ro))]) hP hD hS hA [2, 3] (by decide +kernel) rfl
                        refine va_calli (va_runV (As := [.int k78_6]) (rest := []) ⟨hx, hb, hml, hown, hts⟩ (n_isWall l G b_o b_ro b_rf b_im b_ke b_tp b_nl b_op b_ar b_pi b_pa b_ws b_hw b_se b_re b_pt b_ip b_ah b_be b_me b_tr b_ld b_wn H.size u_th u_sa u_fd u_td u_fr u_to u_so u_fa u_bd u_nc u_co u_le u_pd u_od z149 z150 z153 z154 z155 z156 z157 z158 z159 u_ic u_wd u_id k78_6 u_wo z151 z152 u_st v_ro h_u_td h_u_fr h_u_to h_u_bd h_u_nc h_u_co h_u_pd i_140 i_141 i_142 i_143 i_144 i_145 i_146 h_u_ic h_u_id ⟨by omega, by omega⟩ (r_ro)) (cwV 1 hts gV_X12_160 rfl rfl rfl hv_X12_isWall ⟨Nat.le_of_ble_eq_true rfl, Nat.le_of_ble_eq_true rfl⟩) (g5_preV hPc hK hDc hN hT hS hFc (ci := 12) (q0 := 0) rfl rfl) rfl rfl hl.1 rfl (lv_room (Nat.le_of_ble_eq_true rfl)) dX12_findSoonest_188 ⟨Nat.le_of_ble_eq_true rfl, Nat.le_of_ble_eq_true rfl⟩) hS (fun q _ h => hFc q h) hFc (fun r u t H locs ht hvm hw hB hz1 hk1 hS => ?_)
                        obtain ⟨hP1, hD1⟩ := hB
                        have hP1 := g5_ht ht hP1
                        obtain ⟨z228, (i_227 : 0 ≤ z228.toInt ∧ z228.toInt ≤ 1), y229, rfl⟩ := hw
                        have hJ9 := va_join (wr := [(b_tr, (arZ G 1536 k137_tr)), (b_ld, (arZ G 1536 (upd k78_ld ((64 * k62_5) + k78_6).toNatClampNeg 1))), (b_se, (arJ G 13 z160)), (b_re, (arJ G 400 z161)), (b_pt, (arI G 200 z162))]) hP hD [2, 3] [0, 1, 4, 5, 6] rfl rfl (by decide +kernel) (by decide +kernel) hk1 hFc hP1 hD1
                        clear hP hD hPc hDc hFc ht hvm hz1 hk1 hP1 hD1
                        obtain ⟨hP, hD⟩ := hJ9
                        refine g5_rs [(b_tr, (arZ G 1536 k137_tr)), (b_ld, (arZ G 1536 (upd k78_ld ((64 * k62_5) + k78_6).toNatClampNeg 1))), (b_se, (arJ G 13 z160)), (b_re, (arJ G 400 z161)), (b_pt, (arI G 200 z162)), (b_o, (oc12 u_th u_sa b_rf b_ro b_im b_ke u_fd b_tp u_td u_fr u_to u_so u_wo u_fa u_bd u_nc b_nl u_co b_op b_ar u_le b_pi b_pa u_pd u_od b_ws b_hw z149 b_se b_re z150 z151 z152 z153 z154 z155 z156 z157 b_pt z158 z159 b_ip u_ic b_ah b_be b_me u_wd b_tr b_ld u_st b_wn u_id)), (b_ro, (arI G 5740 v_ro))] hP hD ?_
                        clear hP hD
                        intro hP hD
                        refine g5_ti (v := z228) y229 ?_
                        refine lv_if_ne (tgt := 210) hx hb dX12_findSoonest_191 (by decide +kernel) (fun c_230 => ?_) (fun c_230 => ?_)
                        ·
                          have n_230 : gNe (z228.toInt) (0) := g5_ne (a := z228.toInt) (b := 0) rfl (by decide +kernel) c_230
                          have i_230 : z228.toInt ≥ 1 := by have z := g5_ne (a := z228.toInt) (b := 0) (by rfl) (by decide +kernel) c_230; omega
                          refine lv_iinc (v := (k137_7 + 1)) (lv' := [(7, .int (k137_7 + 1)), (8, .int k78_6), (4, .int k62_5), (6, .int k78_6), (5, .int k62_5), (0, .ref b_o), (1, .int p_1), (2, .int p_2), (3, .int p_3)]) hx hb dX12_findSoonest_210 hl (k := 1) rfl rfl (by decide +kernel) rfl ?_
                          clear hl
                          intro ls hl
                          have t_231 : (k137_7 + 1).toInt = k137_7.toInt + 1 := g5_iadd (a := k137_7.toInt) (b := 1) rfl (by decide +kernel) (by omega) (by omega)
                          refine lv_goto (tgt := 137) hx hb dX12_findSoonest_213 (by decide +kernel) ?_
                          exact ih_137_204 ((k137_7 + 1), k137_tr) ls H locs (show Int.toNat (5 - (k137_7 + 1).toInt) < Int.toNat (5 - k137_7.toInt) from g_up (show k137_7.toInt < (k137_7 + 1).toInt by omega) (show k137_7.toInt < 5 by omega)) ⟨lv_sub hl [0, 2, 3, 4, 5, 6, 7, 8] rfl, hP.sub [0, 1, 5, 6, 2, 3, 4] rfl, hD.sub [0, 1, 5, 6, 2, 3, 4] (by decide +kernel) rfl, hS, ⟨by omega, by omega⟩⟩
                        ·
                          have i_230 : z228.toInt = 0 := g5_neN (a := z228.toInt) (b := 0) rfl (by decide +kernel) c_230
                          refine lv_aload_n hx hb dX12_findSoonest_194 rfl (lv_at hl 5 rfl) ?_
                          refine va_get (D := G.1) (ci := 12) (v := .ref b_tr) (C := RX12) (T := TX12) (N := 52) hx hb hts inG_X12 hown hK hP 5 rfl rfl 47 (by decide +kernel) (hts _ fl_X12_98) (fun _ h9 => h9) rfl dX12_findSoonest_195 ?_
                          refine lv_bipush (v := 64) hx hb dX12_findSoonest_198 (by decide +kernel) ?_
                          refine lv_iload hx hb dX12_findSoonest_200 (lv_at hl 4 rfl) ?_
                          refine W.eq (g2 := F0 m 202 ls [.int k62_5, .int 64, .ref b_tr]) rfl ?_
                          refine lv_iconst (v := 1) hx hb dX12_findSoonest_202 (by decide +kernel) ?_
                          refine lv_iadd hx hb dX12_findSoonest_203 ?_
                          have t_232 : (k62_5 + 1).toInt = k62_5.toInt + 1 := g5_iadd (a := k62_5.toInt) (b := 1) (by rfl) (by decide +kernel) (by omega) (by omega)
                          refine lv_imul hx hb dX12_findSoonest_204 ?_
                          have t_233 : (64 * (k62_5 + 1)).toInt = 64 * (k62_5 + 1).toInt := g5_imul (a := 64) (b := (k62_5 + 1).toInt) (by decide +kernel) (by rfl) (by omega) (by omega)
                          refine lv_iload hx hb dX12_findSoonest_205 (lv_at hl 0 rfl) ?_
                          refine lv_iadd hx hb dX12_findSoonest_207 ?_
                          have t_234 : ((64 * (k62_5 + 1)) + k78_6).toInt = (64 * (k62_5 + 1)).toInt + k78_6.toInt := g5_iadd (a := (64 * (k62_5 + 1)).toInt) (b := k78_6.toInt) (by rfl) (by rfl) (by omega) (by omega)
                          refine W.eq (g2 := F0 m 208 ls [.int ((64 * (k62_5 + 1)) + k78_6), .ref b_tr]) rfl ?_
                          refine lv_iconst (v := 1) hx hb dX12_findSoonest_208 (by decide +kernel) ?_
                          refine va_zast hx hb hK hP hD hS 0 2 rfl rfl (i := ((64 * (k62_5 + 1)) + k78_6)) (x := 1) (vp_in_iff.mpr ⟨by omega, by omega⟩) dX12_findSoonest_209 ?_
                          clear hP hD hS
                          intro H locs hP hD hS
                          refine g5_rs [(b_tr, (arZ G 1536 (upd k137_tr ((64 * (k62_5 + 1)) + k78_6).toNatClampNeg 1))), (b_ld, (arZ G 1536 (upd k78_ld ((64 * k62_5) + k78_6).toNatClampNeg 1))), (b_se, (arJ G 13 z160)), (b_re, (arJ G 400 z161)), (b_pt, (arI G 200 z162)), (b_o, (oc12 u_th u_sa b_rf b_ro b_im b_ke u_fd b_tp u_td u_fr u_to u_so u_wo u_fa u_bd u_nc b_nl u_co b_op b_ar u_le b_pi b_pa u_pd u_od b_ws b_hw z149 b_se b_re z150 z151 z152 z153 z154 z155 z156 z157 b_pt z158 z159 b_ip u_ic b_ah b_be b_me u_wd b_tr b_ld u_st b_wn u_id)), (b_ro, (arI G 5740 v_ro))] hP hD ?_
                          clear hP hD
                          intro hP hD
                          refine lv_iinc (v := (k137_7 + 1)) (lv' := [(7, .int (k137_7 + 1)), (8, .int k78_6), (4, .int k62_5), (6, .int k78_6), (5, .int k62_5), (0, .ref b_o), (1, .int p_1), (2, .int p_2), (3, .int p_3)]) hx hb dX12_findSoonest_210 hl (k := 1) rfl rfl (by decide +kernel) rfl ?_
                          clear hl
                          intro ls hl
                          have t_235 : (k137_7 + 1).toInt = k137_7.toInt + 1 := g5_iadd (a := k137_7.toInt) (b := 1) rfl (by decide +kernel) (by omega) (by omega)
                          refine lv_goto (tgt := 137) hx hb dX12_findSoonest_213 (by decide +kernel) ?_
                          exact ih_137_204 ((k137_7 + 1), (upd k137_tr ((64 * (k62_5 + 1)) + k78_6).toNatClampNeg 1)) ls H locs (show Int.toNat (5 - (k137_7 + 1).toInt) < Int.toNat (5 - k137_7.toInt) from g_up (show k137_7.toInt < (k137_7 + 1).toInt by omega) (show k137_7.toInt < 5 by omega)) ⟨lv_sub hl [0, 2, 3, 4, 5, 6, 7, 8] rfl, hP.sub [0, 1, 5, 6, 2, 3, 4] rfl, hD.sub [0, 1, 5, 6, 2, 3, 4] (by decide +kernel) rfl, hS, ⟨by omega, by omega⟩⟩
                      ·
                        have i_226 : k78_6.toInt < 0 := g5_geN (a := k78_6.toInt) (b := 0) rfl (by decide +kernel) c_226
                        omega
  ·
    have i_3 : k3_4.toInt < 1536 := g5_geN (a := k3_4.toInt) (b := 1536) rfl (by decide +kernel) c_3
    refine lv_aload_n hx hb dX12_findSoonest_11 rfl (lv_at hl 1 rfl) ?_
    refine va_get (D := G.1) (ci := 12) (v := .ref b_tr) (C := RX12) (T := TX12) (N := 52) hx hb hts inG_X12 hown hK hP 0 rfl rfl 47 (by decide +kernel) (hts _ fl_X12_98) (fun _ h9 => h9) rfl dX12_findSoonest_12 ?_
    refine lv_iload hx hb dX12_findSoonest_15 (lv_at hl 0 rfl) ?_
    refine lv_iload hx hb dX12_findSoonest_17 (lv_at hl 0 rfl) ?_
    refine W.eq (g2 := F0 m 19 ls [.int k3_4, .int k3_4, .ref b_tr]) rfl ?_
    refine lv_bipush (v := 64) hx hb dX12_findSoonest_19 (by decide +kernel) ?_
    refine lv_iload_n hx hb dX12_findSoonest_21 rfl (lv_at hl 4 rfl) ?_
    refine lv_imul hx hb dX12_findSoonest_22 ?_
    have t_236 : (64 * p_3).toInt = 64 * p_3.toInt := g5_imul (a := 64) (b := p_3.toInt) (by decide +kernel) (by rfl) (by omega) (by omega)
    refine lv_iload_n hx hb dX12_findSoonest_23 rfl (lv_at hl 3 rfl) ?_
    refine lv_iadd hx hb dX12_findSoonest_24 ?_
    have t_237 : ((64 * p_3) + p_2).toInt = (64 * p_3).toInt + p_2.toInt := g5_iadd (a := (64 * p_3).toInt) (b := p_2.toInt) (by rfl) (by rfl) (by omega) (by omega)
    refine W.eq (g2 := F0 m 25 ls [.int ((64 * p_3) + p_2), .int k3_4, .int k3_4, .ref b_tr]) rfl ?_
    refine lv_icmp_ne (tgt := 40) hx hb dX12_findSoonest_25 (by decide +kernel) (fun c_238 => ?_) (fun c_238 => ?_)
    ·
      have n_238 : gNe (k3_4.toInt) (((64 * p_3.toInt) + p_2.toInt)) := by have z := g5_ne (a := k3_4.toInt) (b := ((64 * p_3) + p_2).toInt) (by rfl) (by rfl) c_238; unfold gNe; omega
      refine lv_iconst (v := 0) hx hb dX12_findSoonest_40 (by decide +kernel) ?_
      refine va_zast hx hb hK hP hD hS 5 2 rfl rfl (i := k3_4) (x := 0) (vp_in_iff.mpr ⟨by omega, by omega⟩) dX12_findSoonest_41 ?_
      clear hP hD hS
      intro H locs hP hD hS
      refine g5_rs [(b_o, (oc12 u_th u_sa b_rf b_ro b_im b_ke u_fd b_tp u_td u_fr u_to u_so u_wo u_fa u_bd u_nc b_nl u_co b_op b_ar u_le b_pi b_pa u_pd u_od b_ws b_hw u_la b_se b_re u_bk u_va u_su u_ce u_ho u_wy u_bt u_ps b_pt u_tg u_sn b_ip u_ic b_ah b_be b_me u_wd b_tr b_ld u_st b_wn u_id)), (b_ro, (arI G 5740 v_ro)), (b_se, (arJ G 13 v_se)), (b_re, (arJ G 400 v_re)), (b_pt, (arI G 200 v_pt)), (b_tr, (arZ G 1536 (upd k3_tr k3_4.toNatClampNeg 0))), (b_ld, (arZ G 1536 k3_ld))] hP hD ?_
      clear hP hD
      intro hP hD
      refine lv_aload_n hx hb dX12_findSoonest_42 rfl (lv_at hl 1 rfl) ?_
      refine va_get (D := G.1) (ci := 12) (v := .ref b_ld) (C := RX12) (T := TX12) (N := 52) hx hb hts inG_X12 hown hK hP 0 rfl rfl 48 (by decide +kernel) (hts _ fl_X12_101) (fun _ h9 => h9) rfl dX12_findSoonest_43 ?_
      refine W.eq (g2 := F0 m 46 ls [.ref b_ld]) rfl ?_
      refine lv_iload hx hb dX12_findSoonest_46 (lv_at hl 0 rfl) ?_
      refine lv_iconst (v := 0) hx hb dX12_findSoonest_48 (by decide +kernel) ?_
      refine va_zast hx hb hK hP hD hS 6 2 rfl rfl (i := k3_4) (x := 0) (vp_in_iff.mpr ⟨by omega, by omega⟩) dX12_findSoonest_49 ?_
      clear hP hD hS
      intro H locs hP hD hS
      refine g5_rs [(b_o, (oc12 u_th u_sa b_rf b_ro b_im b_ke u_fd b_tp u_td u_fr u_to u_so u_wo u_fa u_bd u_nc b_nl u_co b_op b_ar u_le b_pi b_pa u_pd u_od b_ws b_hw u_la b_se b_re u_bk u_va u_su u_ce u_ho u_wy u_bt u_ps b_pt u_tg u_sn b_ip u_ic b_ah b_be b_me u_wd b_tr b_ld u_st b_wn u_id)), (b_ro, (arI G 5740 v_ro)), (b_se, (arJ G 13 v_se)), (b_re, (arJ G 400 v_re)), (b_pt, (arI G 200 v_pt)), (b_tr, (arZ G 1536 (upd k3_tr k3_4.toNatClampNeg 0))), (b_ld, (arZ G 1536 (upd k3_ld k3_4.toNatClampNeg 0)))] hP hD ?_
      clear hP hD
      intro hP hD
      refine lv_iinc (v := (k3_4 + 1)) (lv' := [(4, .int (k3_4 + 1)), (0, .ref b_o), (1, .int p_1), (2, .int p_2), (3, .int p_3)]) hx hb dX12_findSoonest_50 hl (k := 0) rfl rfl (by decide +kernel) rfl ?_
      clear hl
      intro ls hl
      have t_239 : (k3_4 + 1).toInt = k3_4.toInt + 1 := g5_iadd (a := k3_4.toInt) (b := 1) rfl (by decide +kernel) (by omega) (by omega)
      refine lv_goto (tgt := 3) hx hb dX12_findSoonest_53 (by decide +kernel) ?_
      exact ih_3_2 ((k3_4 + 1), (upd k3_tr k3_4.toNatClampNeg 0), (upd k3_ld k3_4.toNatClampNeg 0)) ls H locs (show Int.toNat (1536 - (k3_4 + 1).toInt) < Int.toNat (1536 - k3_4.toInt) from g_up (show k3_4.toInt < (k3_4 + 1).toInt by omega) (show k3_4.toInt < 1536 by omega)) ⟨lv_sub hl [0, 1, 2, 3, 4] rfl, hP, hD, hS, ⟨by omega, by omega⟩⟩
    ·
      have i_238 : k3_4.toInt = ((64 * p_3.toInt) + p_2.toInt) := by have z := g5_neN (a := k3_4.toInt) (b := ((64 * p_3) + p_2).toInt) (by rfl) (by rfl) c_238; omega
      refine lv_aload_n hx hb dX12_findSoonest_28 rfl (lv_at hl 1 rfl) ?_
      refine lv_iload_n hx hb dX12_findSoonest_29 rfl (lv_at hl 3 rfl) ?_
      obtain ⟨hPc, hDc, hFc⟩ := g5_sub3 (wc := [(b_o, (oc12 u_th u_sa b_rf b_ro b_im b_ke u_fd b_tp u_td u_fr u_to u_so u_wo u_fa u_bd u_nc b_nl u_co b_op b_ar u_le b_pi b_pa u_pd u_od b_ws b_hw u_la b_se b_re u_bk u_va u_su u_ce u_ho u_wy u_bt u_ps b_pt u_tg u_sn b_ip u_ic b_ah b_be b_me u_wd b_tr b_ld u_st b_wn u_id)), (b_ro, (arI G 5740 v_ro))]) hP hD hS hA [0, 1] (by decide +kernel) rfl
      refine va_calli (va_runV (As := [.int p_2]) (rest := [.int k3_4, .ref b_tr]) ⟨hx, hb, hml, hown, hts⟩ (n_isWall l G b_o b_ro b_rf b_im b_ke b_tp b_nl b_op b_ar b_pi b_pa b_ws b_hw b_se b_re b_pt b_ip b_ah b_be b_me b_tr b_ld b_wn H.size u_th u_sa u_fd u_td u_fr u_to u_so u_fa u_bd u_nc u_co u_le u_pd u_od u_la u_bk u_ce u_ho u_wy u_bt u_ps u_tg u_sn u_ic u_wd u_id p_2 u_wo u_va u_su u_st v_ro h_u_td h_u_fr h_u_to h_u_bd h_u_nc h_u_co h_u_pd h_u_la h_u_bk h_u_ce h_u_ho h_u_wy h_u_bt h_u_ps h_u_ic h_u_id h_p_2 (r_ro)) (cwV 1 hts gV_X12_160 rfl rfl rfl hv_X12_isWall ⟨Nat.le_of_ble_eq_true rfl, Nat.le_of_ble_eq_true rfl⟩) (g5_preV hPc hK hDc hN hT hS hFc (ci := 12) (q0 := 0) rfl rfl) rfl rfl hl.1 rfl (lv_room (Nat.le_of_ble_eq_true rfl)) dX12_findSoonest_30 ⟨Nat.le_of_ble_eq_true rfl, Nat.le_of_ble_eq_true rfl⟩) hS (fun q _ h => hFc q h) hFc (fun r u t H locs ht hvm hw hB hz1 hk1 hS => ?_)
      obtain ⟨hP1, hD1⟩ := hB
      have hP1 := g5_ht ht hP1
      obtain ⟨z241, (i_240 : 0 ≤ z241.toInt ∧ z241.toInt ≤ 1), y242, rfl⟩ := hw
      have hJ9 := va_join (wr := [(b_se, (arJ G 13 v_se)), (b_re, (arJ G 400 v_re)), (b_pt, (arI G 200 v_pt)), (b_tr, (arZ G 1536 k3_tr)), (b_ld, (arZ G 1536 k3_ld))]) hP hD [0, 1] [2, 3, 4, 5, 6] rfl rfl (by decide +kernel) (by decide +kernel) hk1 hFc hP1 hD1
      clear hP hD hPc hDc hFc ht hvm hz1 hk1 hP1 hD1
      obtain ⟨hP, hD⟩ := hJ9
      refine g5_rs [(b_se, (arJ G 13 v_se)), (b_re, (arJ G 400 v_re)), (b_pt, (arI G 200 v_pt)), (b_tr, (arZ G 1536 k3_tr)), (b_ld, (arZ G 1536 k3_ld)), (b_o, (oc12 u_th u_sa b_rf b_ro b_im b_ke u_fd b_tp u_td u_fr u_to u_so u_wo u_fa u_bd u_nc b_nl u_co b_op b_ar u_le b_pi b_pa u_pd u_od b_ws b_hw u_la b_se b_re u_bk u_va u_su u_ce u_ho u_wy u_bt u_ps b_pt u_tg u_sn b_ip u_ic b_ah b_be b_me u_wd b_tr b_ld u_st b_wn u_id)), (b_ro, (arI G 5740 v_ro))] hP hD ?_
      clear hP hD
      intro hP hD
      refine g5_ti (v := z241) y242 ?_
      refine lv_if_ne (tgt := 40) hx hb dX12_findSoonest_33 (by decide +kernel) (fun c_243 => ?_) (fun c_243 => ?_)
      ·
        have n_243 : gNe (z241.toInt) (0) := g5_ne (a := z241.toInt) (b := 0) rfl (by decide +kernel) c_243
        have i_243 : z241.toInt ≥ 1 := by have z := g5_ne (a := z241.toInt) (b := 0) (by rfl) (by decide +kernel) c_243; omega
        refine lv_iconst (v := 0) hx hb dX12_findSoonest_40 (by decide +kernel) ?_
        refine va_zast hx hb hK hP hD hS 3 2 rfl rfl (i := k3_4) (x := 0) (vp_in_iff.mpr ⟨by omega, by omega⟩) dX12_findSoonest_41 ?_
        clear hP hD hS
        intro H locs hP hD hS
        refine g5_rs [(b_se, (arJ G 13 v_se)), (b_re, (arJ G 400 v_re)), (b_pt, (arI G 200 v_pt)), (b_tr, (arZ G 1536 (upd k3_tr k3_4.toNatClampNeg 0))), (b_ld, (arZ G 1536 k3_ld)), (b_o, (oc12 u_th u_sa b_rf b_ro b_im b_ke u_fd b_tp u_td u_fr u_to u_so u_wo u_fa u_bd u_nc b_nl u_co b_op b_ar u_le b_pi b_pa u_pd u_od b_ws b_hw u_la b_se b_re u_bk u_va u_su u_ce u_ho u_wy u_bt u_ps b_pt u_tg u_sn b_ip u_ic b_ah b_be b_me u_wd b_tr b_ld u_st b_wn u_id)), (b_ro, (arI G 5740 v_ro))] hP hD ?_
        clear hP hD
        intro hP hD
        refine lv_aload_n hx hb dX12_findSoonest_42 rfl (lv_at hl 1 rfl) ?_
        refine va_get (D := G.1) (ci := 12) (v := .ref b_ld) (C := RX12) (T := TX12) (N := 52) hx hb hts inG_X12 hown hK hP 5 rfl rfl 48 (by decide +kernel) (hts _ fl_X12_101) (fun _ h9 => h9) rfl dX12_findSoonest_43 ?_
        refine W.eq (g2 := F0 m 46 ls [.ref b_ld]) rfl ?_
        refine lv_iload hx hb dX12_findSoonest_46 (lv_at hl 0 rfl) ?_
        refine lv_iconst (v := 0) hx hb dX12_findSoonest_48 (by decide +kernel) ?_
        refine va_zast hx hb hK hP hD hS 4 2 rfl rfl (i := k3_4) (x := 0) (vp_in_iff.mpr ⟨by omega, by omega⟩) dX12_findSoonest_49 ?_
        clear hP hD hS
        intro H locs hP hD hS
        refine g5_rs [(b_se, (arJ G 13 v_se)), (b_re, (arJ G 400 v_re)), (b_pt, (arI G 200 v_pt)), (b_tr, (arZ G 1536 (upd k3_tr k3_4.toNatClampNeg 0))), (b_ld, (arZ G 1536 (upd k3_ld k3_4.toNatClampNeg 0))), (b_o, (oc12 u_th u_sa b_rf b_ro b_im b_ke u_fd b_tp u_td u_fr u_to u_so u_wo u_fa u_bd u_nc b_nl u_co b_op b_ar u_le b_pi b_pa u_pd u_od b_ws b_hw u_la b_se b_re u_bk u_va u_su u_ce u_ho u_wy u_bt u_ps b_pt u_tg u_sn b_ip u_ic b_ah b_be b_me u_wd b_tr b_ld u_st b_wn u_id)), (b_ro, (arI G 5740 v_ro))] hP hD ?_
        clear hP hD
        intro hP hD
        refine lv_iinc (v := (k3_4 + 1)) (lv' := [(4, .int (k3_4 + 1)), (0, .ref b_o), (1, .int p_1), (2, .int p_2), (3, .int p_3)]) hx hb dX12_findSoonest_50 hl (k := 0) rfl rfl (by decide +kernel) rfl ?_
        clear hl
        intro ls hl
        have t_244 : (k3_4 + 1).toInt = k3_4.toInt + 1 := g5_iadd (a := k3_4.toInt) (b := 1) rfl (by decide +kernel) (by omega) (by omega)
        refine lv_goto (tgt := 3) hx hb dX12_findSoonest_53 (by decide +kernel) ?_
        exact ih_3_2 ((k3_4 + 1), (upd k3_tr k3_4.toNatClampNeg 0), (upd k3_ld k3_4.toNatClampNeg 0)) ls H locs (show Int.toNat (1536 - (k3_4 + 1).toInt) < Int.toNat (1536 - k3_4.toInt) from g_up (show k3_4.toInt < (k3_4 + 1).toInt by omega) (show k3_4.toInt < 1536 by omega)) ⟨lv_sub hl [0, 1, 2, 3, 4] rfl, hP.sub [5, 6, 0, 1, 2, 3, 4] rfl, hD.sub [5, 6, 0, 1, 2, 3, 4] (by decide +kernel) rfl, hS, ⟨by omega, by omega⟩⟩
      ·
        have i_243 : z241.toInt = 0 := g5_neN (a := z241.toInt) (b := 0) rfl (by decide +kernel) c_243
        refine lv_iconst (v := 1) hx hb dX12_findSoonest_36 (by decide +kernel) ?_
        refine lv_goto (tgt := 41) hx hb dX12_findSoonest_37 (by decide +kernel) ?_
        refine va_zast hx hb hK hP hD hS 3 2 rfl rfl (i := k3_4) (x := 1) (vp_in_iff.mpr ⟨by omega, by omega⟩) dX12_findSoonest_41 ?_
        clear hP hD hS
        intro H locs hP hD hS
        refine g5_rs [(b_se, (arJ G 13 v_se)), (b_re, (arJ G 400 v_re)), (b_pt, (arI G 200 v_pt)), (b_tr, (arZ G 1536 (upd k3_tr k3_4.toNatClampNeg 1))), (b_ld, (arZ G 1536 k3_ld)), (b_o, (oc12 u_th u_sa b_rf b_ro b_im b_ke u_fd b_tp u_td u_fr u_to u_so u_wo u_fa u_bd u_nc b_nl u_co b_op b_ar u_le b_pi b_pa u_pd u_od b_ws b_hw u_la b_se b_re u_bk u_va u_su u_ce u_ho u_wy u_bt u_ps b_pt u_tg u_sn b_ip u_ic b_ah b_be b_me u_wd b_tr b_ld u_st b_wn u_id)), (b_ro, (arI G 5740 v_ro))] hP hD ?_
        clear hP hD
        intro hP hD
        refine lv_aload_n hx hb dX12_findSoonest_42 rfl (lv_at hl 1 rfl) ?_
        refine W.eq (g2 := F0 m 43 ls [.ref b_o]) rfl ?_
        refine va_get (D := G.1) (ci := 12) (v := .ref b_ld) (C := RX12) (T := TX12) (N := 52) hx hb hts inG_X12 hown hK hP 5 rfl rfl 48 (by decide +kernel) (hts _ fl_X12_101) (fun _ h9 => h9) rfl dX12_findSoonest_43 ?_
        refine lv_iload hx hb dX12_findSoonest_46 (lv_at hl 0 rfl) ?_
        refine lv_iconst (v := 0) hx hb dX12_findSoonest_48 (by decide +kernel) ?_
        refine va_zast hx hb hK hP hD hS 4 2 rfl rfl (i := k3_4) (x := 0) (vp_in_iff.mpr ⟨by omega, by omega⟩) dX12_findSoonest_49 ?_
        clear hP hD hS
        intro H locs hP hD hS
        refine g5_rs [(b_se, (arJ G 13 v_se)), (b_re, (arJ G 400 v_re)), (b_pt, (arI G 200 v_pt)), (b_tr, (arZ G 1536 (upd k3_tr k3_4.toNatClampNeg 1))), (b_ld, (arZ G 1536 (upd k3_ld k3_4.toNatClampNeg 0))), (b_o, (oc12 u_th u_sa b_rf b_ro b_im b_ke u_fd b_tp u_td u_fr u_to u_so u_wo u_fa u_bd u_nc b_nl u_co b_op b_ar u_le b_pi b_pa u_pd u_od b_ws b_hw u_la b_se b_re u_bk u_va u_su u_ce u_ho u_wy u_bt u_ps b_pt u_tg u_sn b_ip u_ic b_ah b_be b_me u_wd b_tr b_ld u_st b_wn u_id)), (b_ro, (arI G 5740 v_ro))] hP hD ?_
        clear hP hD
        intro hP hD
        refine lv_iinc (v := (k3_4 + 1)) (lv' := [(4, .int (k3_4 + 1)), (0, .ref b_o), (1, .int p_1), (2, .int p_2), (3, .int p_3)]) hx hb dX12_findSoonest_50 hl (k := 0) rfl rfl (by decide +kernel) rfl ?_
        clear hl
        intro ls hl
        have t_245 : (k3_4 + 1).toInt = k3_4.toInt + 1 := g5_iadd (a := k3_4.toInt) (b := 1) rfl (by decide +kernel) (by omega) (by omega)
        refine W.eq (g2 := F0 m 53 ls []) rfl ?_
        refine lv_goto (tgt := 3) hx hb dX12_findSoonest_53 (by decide +kernel) ?_
        exact ih_3_2 ((k3_4 + 1), (upd k3_tr k3_4.toNatClampNeg 1), (upd k3_ld k3_4.toNatClampNeg 0)) ls H locs (show Int.toNat (1536 - (k3_4 + 1).toInt) < Int.toNat (1536 - k3_4.toInt) from g_up (show k3_4.toInt < (k3_4 + 1).toInt by omega) (show k3_4.toInt < 1536 by omega)) ⟨lv_sub hl [0, 1, 2, 3, 4] rfl, hP.sub [5, 6, 0, 1, 2, 3, 4] rfl, hD.sub [5, 6, 0, 1, 2, 3, 4] (by decide +kernel) rfl, hS, ⟨by omega, by omega⟩⟩
