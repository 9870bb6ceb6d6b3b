theorem dgX12_body_0 : ∀ r ∈ ([(0, (.aload_n 0, 1)), (1, (.iconst 0, 1)), (2, (.putfield 107, 3)), (5, (.aload_n 0, 1)), (6, (.getfield 13, 3)), (9, (.iconst 1, 1)), (10, (.iaload, 1)), (11, (.istore_n 1, 1)), (12, (.iload_n 1, 1)), (13, (.iconst 5, 1)), (14, (.if_icmp .ne 10, 3)), (17, (.aload_n 0, 1)), (18, (.bipush (-5), 2)), (20, (.invokevirtual 125, 3)), (23, (.ireturn, 1)), (24, (.iconst 0, 1)), (25, (.istore_n 2, 1)), (26, (.iload_n 2, 1)), (27, (.bipush 24, 2)), (29, (.if_icmp .ge 24, 3)), (32, (.aload_n 0, 1)), (33, (.getfield 13, 3)), (36, (.bipush 110, 2)), (38, (.bipush 24, 2)), (40, (.iload_n 1, 1)), (41, (.imul, 1)), (42, (.iadd, 1)), (43, (.iload_n 2, 1)), (44, (.iadd, 1)), (45, (.iconst (-1), 1)), (46, (.iastore, 1)), (47, (.iinc 2 1, 3)), (50, (.goto (-24), 3)), (53, (.aload_n 0, 1)), (54, (.getfield 13, 3)), (57, (.iconst 1, 1)), (58, (.dup2, 1)), (59, (.iaload, 1)), (60, (.iconst 1, 1)), (61, (.iadd, 1))] : List (Nat × (Instr × Nat))), decode cX12_body r.1 = .ok r.2 := by decide +kernel
theorem dX12_body_0 : decode cX12_body 0 = .ok (.aload_n 0, 1) := dgX12_body_0 (0, (.aload_n 0, 1)) (List.mem_of_getElem? (i := 0) rfl)
theorem dX12_body_1 : decode cX12_body 1 = .ok (.iconst 0, 1) := dgX12_body_0 (1, (.iconst 0, 1)) (List.mem_of_getElem? (i := 1) rfl)
theorem dX12_body_2 : decode cX12_body 2 = .ok (.putfield 107, 3) := dgX12_body_0 (2, (.putfield 107, 3)) (List.mem_of_getElem? (i := 2) rfl)
theorem dX12_body_5 : decode cX12_body 5 = .ok (.aload_n 0, 1) := dgX12_body_0 (5, (.aload_n 0, 1)) (List.mem_of_getElem? (i := 3) rfl)
theorem dX12_body_6 : decode cX12_body 6 = .ok (.getfield 13, 3) := dgX12_body_0 (6, (.getfield 13, 3)) (List.mem_of_getElem? (i := 4) rfl)
theorem dX12_body_9 : decode cX12_body 9 = .ok (.iconst 1, 1) := dgX12_body_0 (9, (.iconst 1, 1)) (List.mem_of_getElem? (i := 5) rfl)
theorem dX12_body_10 : decode cX12_body 10 = .ok (.iaload, 1) := dgX12_body_0 (10, (.iaload, 1)) (List.mem_of_getElem? (i := 6) rfl)
theorem dX12_body_11 : decode cX12_body 11 = .ok (.istore_n 1, 1) := dgX12_body_0 (11, (.istore_n 1, 1)) (List.mem_of_getElem? (i := 7) rfl)
theorem dX12_body_12 : decode cX12_body 12 = .ok (.iload_n 1, 1) := dgX12_body_0 (12, (.iload_n 1, 1)) (List.mem_of_getElem? (i := 8) rfl)
theorem dX12_body_13 : decode cX12_body 13 = .ok (.iconst 5, 1) := dgX12_body_0 (13, (.iconst 5, 1)) (List.mem_of_getElem? (i := 9) rfl)
theorem dX12_body_14 : decode cX12_body 14 = .ok (.if_icmp .ne 10, 3) := dgX12_body_0 (14, (.if_icmp .ne 10, 3)) (List.mem_of_getElem? (i := 10) rfl)
theorem dX12_body_17 : decode cX12_body 17 = .ok (.aload_n 0, 1) := dgX12_body_0 (17, (.aload_n 0, 1)) (List.mem_of_getElem? (i := 11) rfl)
theorem dX12_body_18 : decode cX12_body 18 = .ok (.bipush (-5), 2) := dgX12_body_0 (18, (.bipush (-5), 2)) (List.mem_of_getElem? (i := 12) rfl)
theorem dX12_body_20 : decode cX12_body 20 = .ok (.invokevirtual 125, 3) := dgX12_body_0 (20, (.invokevirtual 125, 3)) (List.mem_of_getElem? (i := 13) rfl)
theorem dX12_body_23 : decode cX12_body 23 = .ok (.ireturn, 1) := dgX12_body_0 (23, (.ireturn, 1)) (List.mem_of_getElem? (i := 14) rfl)
theorem dX12_body_24 : decode cX12_body 24 = .ok (.iconst 0, 1) := dgX12_body_0 (24, (.iconst 0, 1)) (List.mem_of_getElem? (i := 15) rfl)
theorem dX12_body_25 : decode cX12_body 25 = .ok (.istore_n 2, 1) := dgX12_body_0 (25, (.istore_n 2, 1)) (List.mem_of_getElem? (i := 16) rfl)
theorem dX12_body_26 : decode cX12_body 26 = .ok (.iload_n 2, 1) := dgX12_body_0 (26, (.iload_n 2, 1)) (List.mem_of_getElem? (i := 17) rfl)
theorem dX12_body_27 : decode cX12_body 27 = .ok (.bipush 24, 2) := dgX12_body_0 (27, (.bipush 24, 2)) (List.mem_of_getElem? (i := 18) rfl)
theorem dX12_body_29 : decode cX12_body 29 = .ok (.if_icmp .ge 24, 3) := dgX12_body_0 (29, (.if_icmp .ge 24, 3)) (List.mem_of_getElem? (i := 19) rfl)
theorem dX12_body_32 : decode cX12_body 32 = .ok (.aload_n 0, 1) := dgX12_body_0 (32, (.aload_n 0, 1)) (List.mem_of_getElem? (i := 20) rfl)
theorem dX12_body_33 : decode cX12_body 33 = .ok (.getfield 13, 3) := dgX12_body_0 (33, (.getfield 13, 3)) (List.mem_of_getElem? (i := 21) rfl)
theorem dX12_body_36 : decode cX12_body 36 = .ok (.bipush 110, 2) := dgX12_body_0 (36, (.bipush 110, 2)) (List.mem_of_getElem? (i := 22) rfl)
theorem dX12_body_38 : decode cX12_body 38 = .ok (.bipush 24, 2) := dgX12_body_0 (38, (.bipush 24, 2)) (List.mem_of_getElem? (i := 23) rfl)
theorem dX12_body_40 : decode cX12_body 40 = .ok (.iload_n 1, 1) := dgX12_body_0 (40, (.iload_n 1, 1)) (List.mem_of_getElem? (i := 24) rfl)
theorem dX12_body_41 : decode cX12_body 41 = .ok (.imul, 1) := dgX12_body_0 (41, (.imul, 1)) (List.mem_of_getElem? (i := 25) rfl)
theorem dX12_body_42 : decode cX12_body 42 = .ok (.iadd, 1) := dgX12_body_0 (42, (.iadd, 1)) (List.mem_of_getElem? (i := 26) rfl)
theorem dX12_body_43 : decode cX12_body 43 = .ok (.iload_n 2, 1) := dgX12_body_0 (43, (.iload_n 2, 1)) (List.mem_of_getElem? (i := 27) rfl)
theorem dX12_body_44 : decode cX12_body 44 = .ok (.iadd, 1) := dgX12_body_0 (44, (.iadd, 1)) (List.mem_of_getElem? (i := 28) rfl)
theorem dX12_body_45 : decode cX12_body 45 = .ok (.iconst (-1), 1) := dgX12_body_0 (45, (.iconst (-1), 1)) (List.mem_of_getElem? (i := 29) rfl)
theorem dX12_body_46 : decode cX12_body 46 = .ok (.iastore, 1) := dgX12_body_0 (46, (.iastore, 1)) (List.mem_of_getElem? (i := 30) rfl)
theorem dX12_body_47 : decode cX12_body 47 = .ok (.iinc 2 1, 3) := dgX12_body_0 (47, (.iinc 2 1, 3)) (List.mem_of_getElem? (i := 31) rfl)
theorem dX12_body_50 : decode cX12_body 50 = .ok (.goto (-24), 3) := dgX12_body_0 (50, (.goto (-24), 3)) (List.mem_of_getElem? (i := 32) rfl)
theorem dX12_body_53 : decode cX12_body 53 = .ok (.aload_n 0, 1) := dgX12_body_0 (53, (.aload_n 0, 1)) (List.mem_of_getElem? (i := 33) rfl)
theorem dX12_body_54 : decode cX12_body 54 = .ok (.getfield 13, 3) := dgX12_body_0 (54, (.getfield 13, 3)) (List.mem_of_getElem? (i := 34) rfl)
theorem dX12_body_57 : decode cX12_body 57 = .ok (.iconst 1, 1) := dgX12_body_0 (57, (.iconst 1, 1)) (List.mem_of_getElem? (i := 35) rfl)
theorem dX12_body_58 : decode cX12_body 58 = .ok (.dup2, 1) := dgX12_body_0 (58, (.dup2, 1)) (List.mem_of_getElem? (i := 36) rfl)
theorem dX12_body_59 : decode cX12_body 59 = .ok (.iaload, 1) := dgX12_body_0 (59, (.iaload, 1)) (List.mem_of_getElem? (i := 37) rfl)
theorem dX12_body_60 : decode cX12_body 60 = .ok (.iconst 1, 1) := dgX12_body_0 (60, (.iconst 1, 1)) (List.mem_of_getElem? (i := 38) rfl)
theorem dX12_body_61 : decode cX12_body 61 = .ok (.iadd, 1) := dgX12_body_0 (61, (.iadd, 1)) (List.mem_of_getElem? (i := 39) rfl)
theorem dgX12_body_1 : ∀ r ∈ ([(62, (.iastore, 1)), (63, (.aload_n 0, 1)), (64, (.iload_n 1, 1)), (65, (.invokevirtual 125, 3)), (68, (.ireturn, 1))] : List (Nat × (Instr × Nat))), decode cX12_body r.1 = .ok r.2 := by decide +kernel
theorem dX12_body_62 : decode cX12_body 62 = .ok (.iastore, 1) := dgX12_body_1 (62, (.iastore, 1)) (List.mem_of_getElem? (i := 0) rfl)
theorem dX12_body_63 : decode cX12_body 63 = .ok (.aload_n 0, 1) := dgX12_body_1 (63, (.aload_n 0, 1)) (List.mem_of_getElem? (i := 1) rfl)
theorem dX12_body_64 : decode cX12_body 64 = .ok (.iload_n 1, 1) := dgX12_body_1 (64, (.iload_n 1, 1)) (List.mem_of_getElem? (i := 2) rfl)
theorem dX12_body_65 : decode cX12_body 65 = .ok (.invokevirtual 125, 3) := dgX12_body_1 (65, (.invokevirtual 125, 3)) (List.mem_of_getElem? (i := 3) rfl)
theorem dX12_body_68 : decode cX12_body 68 = .ok (.ireturn, 1) := dgX12_body_1 (68, (.ireturn, 1)) (List.mem_of_getElem? (i := 4) rfl)
theorem dgX12_stays_0 : ∀ r ∈ ([(0, (.iload_n 2, 1)), (1, (.istore 5, 2)), (3, (.iload 5, 2)), (5, (.iload_n 3, 1)), (6, (.if_icmp .gt 26, 3)), (9, (.aload_n 0, 1)), (10, (.getfield 13, 3)), (13, (.bipush 110, 2)), (15, (.bipush 24, 2)), (17, (.iload_n 1, 1)), (18, (.imul, 1)), (19, (.iadd, 1)), (20, (.iload 5, 2)), (22, (.iadd, 1)), (23, (.iload 4, 2)), (25, (.iastore, 1)), (26, (.iinc 5 1, 3)), (29, (.goto (-26), 3)), (32, (.return_, 1))] : List (Nat × (Instr × Nat))), decode cX12_stays r.1 = .ok r.2 := by decide +kernel
theorem dX12_stays_0 : decode cX12_stays 0 = .ok (.iload_n 2, 1) := dgX12_stays_0 (0, (.iload_n 2, 1)) (List.mem_of_getElem? (i := 0) rfl)
theorem dX12_stays_1 : decode cX12_stays 1 = .ok (.istore 5, 2) := dgX12_stays_0 (1, (.istore 5, 2)) (List.mem_of_getElem? (i := 1) rfl)
theorem dX12_stays_3 : decode cX12_stays 3 = .ok (.iload 5, 2) := dgX12_stays_0 (3, (.iload 5, 2)) (List.mem_of_getElem? (i := 2) rfl)
theorem dX12_stays_5 : decode cX12_stays 5 = .ok (.iload_n 3, 1) := dgX12_stays_0 (5, (.iload_n 3, 1)) (List.mem_of_getElem? (i := 3) rfl)
theorem dX12_stays_6 : decode cX12_stays 6 = .ok (.if_icmp .gt 26, 3) := dgX12_stays_0 (6, (.if_icmp .gt 26, 3)) (List.mem_of_getElem? (i := 4) rfl)
theorem dX12_stays_9 : decode cX12_stays 9 = .ok (.aload_n 0, 1) := dgX12_stays_0 (9, (.aload_n 0, 1)) (List.mem_of_getElem? (i := 5) rfl)
theorem dX12_stays_10 : decode cX12_stays 10 = .ok (.getfield 13, 3) := dgX12_stays_0 (10, (.getfield 13, 3)) (List.mem_of_getElem? (i := 6) rfl)
theorem dX12_stays_13 : decode cX12_stays 13 = .ok (.bipush 110, 2) := dgX12_stays_0 (13, (.bipush 110, 2)) (List.mem_of_getElem? (i := 7) rfl)
theorem dX12_stays_15 : decode cX12_stays 15 = .ok (.bipush 24, 2) := dgX12_stays_0 (15, (.bipush 24, 2)) (List.mem_of_getElem? (i := 8) rfl)
theorem dX12_stays_17 : decode cX12_stays 17 = .ok (.iload_n 1, 1) := dgX12_stays_0 (17, (.iload_n 1, 1)) (List.mem_of_getElem? (i := 9) rfl)
theorem dX12_stays_18 : decode cX12_stays 18 = .ok (.imul, 1) := dgX12_stays_0 (18, (.imul, 1)) (List.mem_of_getElem? (i := 10) rfl)
theorem dX12_stays_19 : decode cX12_stays 19 = .ok (.iadd, 1) := dgX12_stays_0 (19, (.iadd, 1)) (List.mem_of_getElem? (i := 11) rfl)
theorem dX12_stays_20 : decode cX12_stays 20 = .ok (.iload 5, 2) := dgX12_stays_0 (20, (.iload 5, 2)) (List.mem_of_getElem? (i := 12) rfl)
theorem dX12_stays_22 : decode cX12_stays 22 = .ok (.iadd, 1) := dgX12_stays_0 (22, (.iadd, 1)) (List.mem_of_getElem? (i := 13) rfl)
theorem dX12_stays_23 : decode cX12_stays 23 = .ok (.iload 4, 2) := dgX12_stays_0 (23, (.iload 4, 2)) (List.mem_of_getElem? (i := 14) rfl)
theorem dX12_stays_25 : decode cX12_stays 25 = .ok (.iastore, 1) := dgX12_stays_0 (25, (.iastore, 1)) (List.mem_of_getElem? (i := 15) rfl)
theorem dX12_stays_26 : decode cX12_stays 26 = .ok (.iinc 5 1, 3) := dgX12_stays_0 (26, (.iinc 5 1, 3)) (List.mem_of_getElem? (i := 16) rfl)
theorem dX12_stays_29 : decode cX12_stays 29 = .ok (.goto (-26), 3) := dgX12_stays_0 (29, (.goto (-26), 3)) (List.mem_of_getElem? (i := 17) rfl)
theorem dX12_stays_32 : decode cX12_stays 32 = .ok (.return_, 1) := dgX12_stays_0 (32, (.return_, 1)) (List.mem_of_getElem? (i := 18) rfl)
theorem dgX12_stay_0 : ∀ r ∈ ([(0, (.aload_n 0, 1)), (1, (.iconst 0, 1)), (2, (.putfield 107, 3)), (5, (.iload_n 2, 1)), (6, (.invokestatic 175, 3)), (9, (.ifCond .eq 30, 3)), (12, (.iload_n 3, 1)), (13, (.invokestatic 175, 3)), (16, (.ifCond .eq 23, 3)), (19, (.iload_n 3, 1)), (20, (.iload_n 2, 1)), (21, (.if_icmp .lt 18, 3)), (24, (.iload 4, 2)), (26, (.i2l, 1)), (27, (.ldc2_w 178, 3)), (30, (.ldc2_w 128, 3)), (33, (.invokestatic 121, 3)), (36, (.ifCond .ne 9, 3)), (39, (.aload_n 0, 1)), (40, (.iconst (-1), 1)), (41, (.invokevirtual 125, 3)), (44, (.ireturn, 1)), (45, (.aload_n 0, 1)), (46, (.iload_n 1, 1)), (47, (.invokevirtual 180, 3)), (50, (.ifCond .ne 10, 3)), (53, (.aload_n 0, 1)), (54, (.bipush (-2), 2)), (56, (.invokevirtual 125, 3)), (59, (.ireturn, 1)), (60, (.iload 4, 2)), (62, (.iconst (-1), 1)), (63, (.if_icmp .eq 29, 3)), (66, (.aload_n 0, 1)), (67, (.iload 4, 2)), (69, (.iconst (-1), 1)), (70, (.if_icmp .ne 7, 3)), (73, (.iconst 0, 1)), (74, (.goto 5, 3)), (77, (.iload 4, 2))] : List (Nat × (Instr × Nat))), decode cX12_stay r.1 = .ok r.2 := by decide +kernel
theorem dX12_stay_0 : decode cX12_stay 0 = .ok (.aload_n 0, 1) := dgX12_stay_0 (0, (.aload_n 0, 1)) (List.mem_of_getElem? (i := 0) rfl)
theorem dX12_stay_1 : decode cX12_stay 1 = .ok (.iconst 0, 1) := dgX12_stay_0 (1, (.iconst 0, 1)) (List.mem_of_getElem? (i := 1) rfl)
theorem dX12_stay_2 : decode cX12_stay 2 = .ok (.putfield 107, 3) := dgX12_stay_0 (2, (.putfield 107, 3)) (List.mem_of_getElem? (i := 2) rfl)
theorem dX12_stay_5 : decode cX12_stay 5 = .ok (.iload_n 2, 1) := dgX12_stay_0 (5, (.iload_n 2, 1)) (List.mem_of_getElem? (i := 3) rfl)
theorem dX12_stay_6 : decode cX12_stay 6 = .ok (.invokestatic 175, 3) := dgX12_stay_0 (6, (.invokestatic 175, 3)) (List.mem_of_getElem? (i := 4) rfl)
theorem dX12_stay_9 : decode cX12_stay 9 = .ok (.ifCond .eq 30, 3) := dgX12_stay_0 (9, (.ifCond .eq 30, 3)) (List.mem_of_getElem? (i := 5) rfl)
theorem dX12_stay_12 : decode cX12_stay 12 = .ok (.iload_n 3, 1) := dgX12_stay_0 (12, (.iload_n 3, 1)) (List.mem_of_getElem? (i := 6) rfl)
theorem dX12_stay_13 : decode cX12_stay 13 = .ok (.invokestatic 175, 3) := dgX12_stay_0 (13, (.invokestatic 175, 3)) (List.mem_of_getElem? (i := 7) rfl)
theorem dX12_stay_16 : decode cX12_stay 16 = .ok (.ifCond .eq 23, 3) := dgX12_stay_0 (16, (.ifCond .eq 23, 3)) (List.mem_of_getElem? (i := 8) rfl)
theorem dX12_stay_19 : decode cX12_stay 19 = .ok (.iload_n 3, 1) := dgX12_stay_0 (19, (.iload_n 3, 1)) (List.mem_of_getElem? (i := 9) rfl)
theorem dX12_stay_20 : decode cX12_stay 20 = .ok (.iload_n 2, 1) := dgX12_stay_0 (20, (.iload_n 2, 1)) (List.mem_of_getElem? (i := 10) rfl)
theorem dX12_stay_21 : decode cX12_stay 21 = .ok (.if_icmp .lt 18, 3) := dgX12_stay_0 (21, (.if_icmp .lt 18, 3)) (List.mem_of_getElem? (i := 11) rfl)
theorem dX12_stay_24 : decode cX12_stay 24 = .ok (.iload 4, 2) := dgX12_stay_0 (24, (.iload 4, 2)) (List.mem_of_getElem? (i := 12) rfl)
theorem dX12_stay_26 : decode cX12_stay 26 = .ok (.i2l, 1) := dgX12_stay_0 (26, (.i2l, 1)) (List.mem_of_getElem? (i := 13) rfl)
theorem dX12_stay_27 : decode cX12_stay 27 = .ok (.ldc2_w 178, 3) := dgX12_stay_0 (27, (.ldc2_w 178, 3)) (List.mem_of_getElem? (i := 14) rfl)
theorem dX12_stay_30 : decode cX12_stay 30 = .ok (.ldc2_w 128, 3) := dgX12_stay_0 (30, (.ldc2_w 128, 3)) (List.mem_of_getElem? (i := 15) rfl)
theorem dX12_stay_33 : decode cX12_stay 33 = .ok (.invokestatic 121, 3) := dgX12_stay_0 (33, (.invokestatic 121, 3)) (List.mem_of_getElem? (i := 16) rfl)
theorem dX12_stay_36 : decode cX12_stay 36 = .ok (.ifCond .ne 9, 3) := dgX12_stay_0 (36, (.ifCond .ne 9, 3)) (List.mem_of_getElem? (i := 17) rfl)
theorem dX12_stay_39 : decode cX12_stay 39 = .ok (.aload_n 0, 1) := dgX12_stay_0 (39, (.aload_n 0, 1)) (List.mem_of_getElem? (i := 18) rfl)
theorem dX12_stay_40 : decode cX12_stay 40 = .ok (.iconst (-1), 1) := dgX12_stay_0 (40, (.iconst (-1), 1)) (List.mem_of_getElem? (i := 19) rfl)
theorem dX12_stay_41 : decode cX12_stay 41 = .ok (.invokevirtual 125, 3) := dgX12_stay_0 (41, (.invokevirtual 125, 3)) (List.mem_of_getElem? (i := 20) rfl)
theorem dX12_stay_44 : decode cX12_stay 44 = .ok (.ireturn, 1) := dgX12_stay_0 (44, (.ireturn, 1)) (List.mem_of_getElem? (i := 21) rfl)
theorem dX12_stay_45 : decode cX12_stay 45 = .ok (.aload_n 0, 1) := dgX12_stay_0 (45, (.aload_n 0, 1)) (List.mem_of_getElem? (i := 22) rfl)
theorem dX12_stay_46 : decode cX12_stay 46 = .ok (.iload_n 1, 1) := dgX12_stay_0 (46, (.iload_n 1, 1)) (List.mem_of_getElem? (i := 23) rfl)
theorem dX12_stay_47 : decode cX12_stay 47 = .ok (.invokevirtual 180, 3) := dgX12_stay_0 (47, (.invokevirtual 180, 3)) (List.mem_of_getElem? (i := 24) rfl)
theorem dX12_stay_50 : decode cX12_stay 50 = .ok (.ifCond .ne 10, 3) := dgX12_stay_0 (50, (.ifCond .ne 10, 3)) (List.mem_of_getElem? (i := 25) rfl)
theorem dX12_stay_53 : decode cX12_stay 53 = .ok (.aload_n 0, 1) := dgX12_stay_0 (53, (.aload_n 0, 1)) (List.mem_of_getElem? (i := 26) rfl)
theorem dX12_stay_54 : decode cX12_stay 54 = .ok (.bipush (-2), 2) := dgX12_stay_0 (54, (.bipush (-2), 2)) (List.mem_of_getElem? (i := 27) rfl)
theorem dX12_stay_56 : decode cX12_stay 56 = .ok (.invokevirtual 125, 3) := dgX12_stay_0 (56, (.invokevirtual 125, 3)) (List.mem_of_getElem? (i := 28) rfl)
theorem dX12_stay_59 : decode cX12_stay 59 = .ok (.ireturn, 1) := dgX12_stay_0 (59, (.ireturn, 1)) (List.mem_of_getElem? (i := 29) rfl)
theorem dX12_stay_60 : decode cX12_stay 60 = .ok (.iload 4, 2) := dgX12_stay_0 (60, (.iload 4, 2)) (List.mem_of_getElem? (i := 30) rfl)
theorem dX12_stay_62 : decode cX12_stay 62 = .ok (.iconst (-1), 1) := dgX12_stay_0 (62, (.iconst (-1), 1)) (List.mem_of_getElem? (i := 31) rfl)
theorem dX12_stay_63 : decode cX12_stay 63 = .ok (.if_icmp .eq 29, 3) := dgX12_stay_0 (63, (.if_icmp .eq 29, 3)) (List.mem_of_getElem? (i := 32) rfl)
theorem dX12_stay_66 : decode cX12_stay 66 = .ok (.aload_n 0, 1) := dgX12_stay_0 (66, (.aload_n 0, 1)) (List.mem_of_getElem? (i := 33) rfl)
theorem dX12_stay_67 : decode cX12_stay 67 = .ok (.iload 4, 2) := dgX12_stay_0 (67, (.iload 4, 2)) (List.mem_of_getElem? (i := 34) rfl)
theorem dX12_stay_69 : decode cX12_stay 69 = .ok (.iconst (-1), 1) := dgX12_stay_0 (69, (.iconst (-1), 1)) (List.mem_of_getElem? (i := 35) rfl)
theorem dX12_stay_70 : decode cX12_stay 70 = .ok (.if_icmp .ne 7, 3) := dgX12_stay_0 (70, (.if_icmp .ne 7, 3)) (List.mem_of_getElem? (i := 36) rfl)
theorem dX12_stay_77 : decode cX12_stay 77 = .ok (.iload 4, 2) := dgX12_stay_0 (77, (.iload 4, 2)) (List.mem_of_getElem? (i := 39) rfl)
theorem dgX12_stay_1 : ∀ r ∈ ([(79, (.invokevirtual 160, 3)), (82, (.ifCond .eq 10, 3)), (85, (.aload_n 0, 1)), (86, (.bipush (-3), 2)), (88, (.invokevirtual 125, 3)), (91, (.ireturn, 1)), (92, (.aload_n 0, 1)), (93, (.iload_n 1, 1)), (94, (.iload_n 2, 1)), (95, (.iload_n 3, 1)), (96, (.iload 4, 2)), (98, (.invokevirtual 183, 3)), (101, (.aload_n 0, 1)), (102, (.iconst 0, 1)), (103, (.invokevirtual 125, 3)), (106, (.ireturn, 1))] : List (Nat × (Instr × Nat))), decode cX12_stay r.1 = .ok r.2 := by decide +kernel
theorem dX12_stay_79 : decode cX12_stay 79 = .ok (.invokevirtual 160, 3) := dgX12_stay_1 (79, (.invokevirtual 160, 3)) (List.mem_of_getElem? (i := 0) rfl)
theorem dX12_stay_82 : decode cX12_stay 82 = .ok (.ifCond .eq 10, 3) := dgX12_stay_1 (82, (.ifCond .eq 10, 3)) (List.mem_of_getElem? (i := 1) rfl)
theorem dX12_stay_85 : decode cX12_stay 85 = .ok (.aload_n 0, 1) := dgX12_stay_1 (85, (.aload_n 0, 1)) (List.mem_of_getElem? (i := 2) rfl)
theorem dX12_stay_86 : decode cX12_stay 86 = .ok (.bipush (-3), 2) := dgX12_stay_1 (86, (.bipush (-3), 2)) (List.mem_of_getElem? (i := 3) rfl)
theorem dX12_stay_88 : decode cX12_stay 88 = .ok (.invokevirtual 125, 3) := dgX12_stay_1 (88, (.invokevirtual 125, 3)) (List.mem_of_getElem? (i := 4) rfl)
theorem dX12_stay_91 : decode cX12_stay 91 = .ok (.ireturn, 1) := dgX12_stay_1 (91, (.ireturn, 1)) (List.mem_of_getElem? (i := 5) rfl)
theorem dX12_stay_92 : decode cX12_stay 92 = .ok (.aload_n 0, 1) := dgX12_stay_1 (92, (.aload_n 0, 1)) (List.mem_of_getElem? (i := 6) rfl)
theorem dX12_stay_93 : decode cX12_stay 93 = .ok (.iload_n 1, 1) := dgX12_stay_1 (93, (.iload_n 1, 1)) (List.mem_of_getElem? (i := 7) rfl)
theorem dX12_stay_94 : decode cX12_stay 94 = .ok (.iload_n 2, 1) := dgX12_stay_1 (94, (.iload_n 2, 1)) (List.mem_of_getElem? (i := 8) rfl)
theorem dX12_stay_95 : decode cX12_stay 95 = .ok (.iload_n 3, 1) := dgX12_stay_1 (95, (.iload_n 3, 1)) (List.mem_of_getElem? (i := 9) rfl)
theorem dX12_stay_96 : decode cX12_stay 96 = .ok (.iload 4, 2) := dgX12_stay_1 (96, (.iload 4, 2)) (List.mem_of_getElem? (i := 10) rfl)
theorem dX12_stay_98 : decode cX12_stay 98 = .ok (.invokevirtual 183, 3) := dgX12_stay_1 (98, (.invokevirtual 183, 3)) (List.mem_of_getElem? (i := 11) rfl)
theorem dX12_stay_101 : decode cX12_stay 101 = .ok (.aload_n 0, 1) := dgX12_stay_1 (101, (.aload_n 0, 1)) (List.mem_of_getElem? (i := 12) rfl)
theorem dX12_stay_102 : decode cX12_stay 102 = .ok (.iconst 0, 1) := dgX12_stay_1 (102, (.iconst 0, 1)) (List.mem_of_getElem? (i := 13) rfl)
theorem dX12_stay_103 : decode cX12_stay 103 = .ok (.invokevirtual 125, 3) := dgX12_stay_1 (103, (.invokevirtual 125, 3)) (List.mem_of_getElem? (i := 14) rfl)
theorem dX12_stay_106 : decode cX12_stay 106 = .ok (.ireturn, 1) := dgX12_stay_1 (106, (.ireturn, 1)) (List.mem_of_getElem? (i := 15) rfl)
theorem kl_X12_178 : Cond.constantLong RX12 178 (-1) ∈ tblG := tg 1450 (by decide +kernel) (by decide +kernel)
set_option maxHeartbeats 4000000 in
set_option maxRecDepth 100000 in
theorem n_in_m1_63 (l : Launch) (G : g5_G) (sz : Nat) (p_x : Int32) : Met l yX12_in (wsG yX12_in cX12_in 6 (some .boolean)) ({ frames := 0, cells := 0, slots := 0, locals := 0 }) (va_Pc [.long p_x.toInt64, .long (-1), .long 63] (g5_P G [] sz)) (va_Qi (fun (r : Int32) (u : va_W) => ((p_x.toInt < (-1) ∨ 63 < p_x.toInt) ∧ (r = 0) ∧ (u = [])) ∨ (((-1) ≤ p_x.toInt ∧ p_x.toInt ≤ 63) ∧ (r = 1) ∧ (u = []))) (g5_B G (va_A [] sz)) (va_A [] sz)) 0 0 (va_A [] sz) := by
  refine Met.ofW (cc := cX12_in) (maxL := 6) (ret := (some .boolean)) (by decide) rfl ?_
  intro p e s m args below meth c s₁ B hml hv
  obtain ⟨rfl, hsz, hP, hK, hD0, hN, hT⟩ := hv
  have hx := B.exec
  have hb := B.bytes
  have hr := B.returns
  have hts : ∀ w ∈ tblG, w.before _ s = true := fun w h => atoms_spec (ws := (wsG yX12_in cX12_in 6 (some .boolean))) B.pre w (List.mem_cons_of_mem _ h)
  have hown : s.vm.findClass RX12 = some m.cls := findClass_of_methodNamed B.named
  have hlocks := B.notSynchronized
  subst hsz
  have hD := hD0.self (sz := s.heap.size)
  generalize hAe : va_A [] s.heap.size = A at hD hT ⊢
  have hA : ∀ q : Nat, s.heap.size ≤ q → A q := fun q h => by rw [← hAe]; exact Or.inr h
  have hS : va_S A s.heap s.heap [] := va_S.rf
  have hP : va_P G.1 vwCl [] s.heap := hP
  have hl := lv_entry ([.long p_x.toInt64, .long (-1), .long 63]) (n := 6) (Nat.le_of_ble_eq_true rfl)
  rw [lg_entry_eq]
  generalize (lg_sl ([.long p_x.toInt64, .long (-1), .long 63]) ++ List.replicate (6 - (lg_sl ([.long p_x.toInt64, .long (-1), .long 63])).length) Slot.unset).toArray = ls at hl ⊢
  have hl : lv_has ls 6 [(0, .long p_x.toInt64), (2, .long (-1)), (4, .long 63)] := hl
  refine lv_lload_n hx hb dX12_in_0 rfl (lv_at hl 0 rfl) ?_
  refine lv_lload_n hx hb dX12_in_1 rfl (lv_at hl 1 rfl) ?_
  have tl_1 : p_x.toInt64.toInt = p_x.toInt := Int32.toInt_toInt64 _
  have tl_2 : ((-1) : Int64).toInt = (-1) := (by decide)
  have tc_3 := g5_cmpI p_x.toInt64 (-1)
  refine W.lcmp hx hb dX12_in_2 ?_
  refine lv_if_lt (tgt := 17) hx hb dX12_in_3 (by decide) (fun c_4 => ?_) (fun c_4 => ?_)
  ·
    have i_4 : (lg_cmp p_x.toInt64 (-1)).toInt < 0 := by have z := g5_lt (a := (lg_cmp p_x.toInt64 (-1)).toInt) (b := 0) (by rfl) (by decide) c_4; omega
    refine lv_iconst (v := 0) hx hb dX12_in_17 (by decide) ?_
    exact W.zret (v := 0) hx hb hr rfl (fun t ht hW => ⟨⟨0, [], rfl, Or.inl (⟨by omega, rfl, rfl⟩), by rw [ht]; exact hP.sub [] rfl, hD.sub [] (by decide) rfl⟩, hS.F ht⟩) hS.2.2 dX12_in_18
  ·
    have i_4 : (lg_cmp p_x.toInt64 (-1)).toInt ≥ 0 := by have z := g5_ltN (a := (lg_cmp p_x.toInt64 (-1)).toInt) (b := 0) (by rfl) (by decide) c_4; omega
    refine lv_lload_n hx hb dX12_in_6 rfl (lv_at hl 0 rfl) ?_
    refine lv_lload hx hb dX12_in_7 (lv_at hl 2 rfl) ?_
    have tl_5 : p_x.toInt64.toInt = p_x.toInt := Int32.toInt_toInt64 _
    have tl_6 : (63 : Int64).toInt = 63 := (by decide)
    have tc_7 := g5_cmpI p_x.toInt64 63
    refine W.lcmp hx hb dX12_in_9 ?_
    refine lv_if_gt (tgt := 17) hx hb dX12_in_10 (by decide) (fun c_8 => ?_) (fun c_8 => ?_)
    ·
      have i_8 : (lg_cmp p_x.toInt64 63).toInt > 0 := by have z := g5_gt (a := (lg_cmp p_x.toInt64 63).toInt) (b := 0) (by rfl) (by decide) c_8; omega
      refine lv_iconst (v := 0) hx hb dX12_in_17 (by decide) ?_
      exact W.zret (v := 0) hx hb hr rfl (fun t ht hW => ⟨⟨0, [], rfl, Or.inl (⟨by omega, rfl, rfl⟩), by rw [ht]; exact hP.sub [] rfl, hD.sub [] (by decide) rfl⟩, hS.F ht⟩) hS.2.2 dX12_in_18
    ·
      have i_8 : (lg_cmp p_x.toInt64 63).toInt ≤ 0 := by have z := g5_gtN (a := (lg_cmp p_x.toInt64 63).toInt) (b := 0) (by rfl) (by decide) c_8; omega
      refine lv_iconst (v := 1) hx hb dX12_in_13 (by decide) ?_
      refine lv_goto (tgt := 18) hx hb dX12_in_14 (by decide) ?_
      exact W.zret (v := 1) hx hb hr rfl (fun t ht hW => ⟨⟨1, [], rfl, Or.inr (⟨by omega, rfl, rfl⟩), by rw [ht]; exact hP.sub [] rfl, hD.sub [] (by decide) rfl⟩, hS.F ht⟩) hS.2.2 dX12_in_18
theorem ml_X12_180 : Cond.methodLink RX12 180 yX12_isBody ∈ tblG := tg 1451 (by decide +kernel) (by decide +kernel)
theorem im_X12_isBody : Cond.instanceMethod yX12_isBody ∈ tblG := tg 1453 (by decide +kernel) (by decide +kernel)
theorem se_X12_isBody : Cond.selects RX12 yX12_isBody yX12_isBody ∈ tblG := tg 39 (by decide +kernel) (by decide +kernel)
theorem cd_X12_isBody : Cond.code yX12_isBody cX12_isBody 2 (some .boolean) ∈ tblG := tg 1454 (by decide +kernel) (by decide +kernel)
theorem gW_X12_isBody : GoodIn tblG (wsG yX12_isBody cX12_isBody 2 (some .boolean)) := tgi cd_X12_isBody
theorem gV_X12_180 : GoodIn tblG (wsV RX12 180 RX12 yX12_isBody (wsG yX12_isBody cX12_isBody 2 (some .boolean))) := tgV ml_X12_180 im_X12_isBody se_X12_isBody ini_X12 gW_X12_isBody
theorem hv_X12_isBody : yX12_isBody.cls = RX12 ∧ yX12_isBody.cls ≠ "java/lang/invoke/MethodHandle" ∧ yX12_isBody.cls ≠ "java/lang/invoke/VarHandle" ∧ (parseMethodDescriptor yX12_isBody.desc).map (fun d => d.parameters.length) = some 1 := by decide +kernel
theorem ml_X12_183 : Cond.methodLink RX12 183 yX12_stays ∈ tblG := tg 1455 (by decide +kernel) (by decide +kernel)
theorem im_X12_stays : Cond.instanceMethod yX12_stays ∈ tblG := tg 1457 (by decide +kernel) (by decide +kernel)
theorem se_X12_stays : Cond.selects RX12 yX12_stays yX12_stays ∈ tblG := tg 40 (by decide +kernel) (by decide +kernel)
theorem cd_X12_stays : Cond.code yX12_stays cX12_stays 6 none ∈ tblG := tg 1458 (by decide +kernel) (by decide +kernel)
theorem gW_X12_stays : GoodIn tblG (wsG yX12_stays cX12_stays 6 none) := tgi cd_X12_stays
theorem gV_X12_183 : GoodIn tblG (wsV RX12 183 RX12 yX12_stays (wsG yX12_stays cX12_stays 6 none)) := tgV ml_X12_183 im_X12_stays se_X12_stays ini_X12 gW_X12_stays
theorem hv_X12_stays : yX12_stays.cls = RX12 ∧ yX12_stays.cls ≠ "java/lang/invoke/MethodHandle" ∧ yX12_stays.cls ≠ "java/lang/invoke/VarHandle" ∧ (parseMethodDescriptor yX12_stays.desc).map (fun d => d.parameters.length) = some 4 := by decide +kernel
