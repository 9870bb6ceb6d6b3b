theorem dgX4_readTest_0 : ∀ r ∈ ([(0, (.aload_n 0, 1)), (1, (.iload_n 1, 1)), (2, (.invokevirtual 83, 3)), (5, (.ifCond .ne 5, 3)), (8, (.iconst 0, 1)), (9, (.ireturn, 1)), (10, (.iconst (-1), 1)), (11, (.istore_n 2, 1)), (12, (.iconst 0, 1)), (13, (.istore_n 3, 1)), (14, (.iload_n 3, 1)), (15, (.sipush 400, 3)), (18, (.if_icmp .ge 104, 3)), (21, (.aload_n 0, 1)), (22, (.sipush 261, 3)), (25, (.invokevirtual 49, 3)), (28, (.ifCond .ne 13, 3)), (31, (.aload_n 0, 1)), (32, (.sipush 262, 3)), (35, (.invokevirtual 49, 3)), (38, (.ifCond .eq 84, 3)), (41, (.aload_n 0, 1)), (42, (.sipush 261, 3)), (45, (.invokevirtual 49, 3)), (48, (.istore 4, 2)), (50, (.aload_n 0, 1)), (51, (.dup, 1)), (52, (.getfield 42, 3)), (55, (.iconst 1, 1)), (56, (.iadd, 1)), (57, (.putfield 42, 3)), (60, (.iload 4, 2)), (62, (.ifCond .eq 8, 3)), (65, (.aload_n 0, 1)), (66, (.iload_n 2, 1)), (67, (.invokevirtual 86, 3)), (70, (.aload_n 0, 1)), (71, (.iload 4, 2)), (73, (.ifCond .eq 8, 3)), (76, (.bipush 11, 2))] : List (Nat × (Instr × Nat))), decode cX4_readTest r.1 = .ok r.2 := by decide +kernel
theorem dX4_readTest_0 : decode cX4_readTest 0 = .ok (.aload_n 0, 1) := dgX4_readTest_0 (0, (.aload_n 0, 1)) (List.mem_of_getElem? (i := 0) rfl)
theorem dX4_readTest_1 : decode cX4_readTest 1 = .ok (.iload_n 1, 1) := dgX4_readTest_0 (1, (.iload_n 1, 1)) (List.mem_of_getElem? (i := 1) rfl)
theorem dX4_readTest_2 : decode cX4_readTest 2 = .ok (.invokevirtual 83, 3) := dgX4_readTest_0 (2, (.invokevirtual 83, 3)) (List.mem_of_getElem? (i := 2) rfl)
theorem dX4_readTest_5 : decode cX4_readTest 5 = .ok (.ifCond .ne 5, 3) := dgX4_readTest_0 (5, (.ifCond .ne 5, 3)) (List.mem_of_getElem? (i := 3) rfl)
theorem dX4_readTest_8 : decode cX4_readTest 8 = .ok (.iconst 0, 1) := dgX4_readTest_0 (8, (.iconst 0, 1)) (List.mem_of_getElem? (i := 4) rfl)
theorem dX4_readTest_9 : decode cX4_readTest 9 = .ok (.ireturn, 1) := dgX4_readTest_0 (9, (.ireturn, 1)) (List.mem_of_getElem? (i := 5) rfl)
theorem dX4_readTest_10 : decode cX4_readTest 10 = .ok (.iconst (-1), 1) := dgX4_readTest_0 (10, (.iconst (-1), 1)) (List.mem_of_getElem? (i := 6) rfl)
theorem dX4_readTest_11 : decode cX4_readTest 11 = .ok (.istore_n 2, 1) := dgX4_readTest_0 (11, (.istore_n 2, 1)) (List.mem_of_getElem? (i := 7) rfl)
theorem dX4_readTest_12 : decode cX4_readTest 12 = .ok (.iconst 0, 1) := dgX4_readTest_0 (12, (.iconst 0, 1)) (List.mem_of_getElem? (i := 8) rfl)
theorem dX4_readTest_13 : decode cX4_readTest 13 = .ok (.istore_n 3, 1) := dgX4_readTest_0 (13, (.istore_n 3, 1)) (List.mem_of_getElem? (i := 9) rfl)
theorem dX4_readTest_14 : decode cX4_readTest 14 = .ok (.iload_n 3, 1) := dgX4_readTest_0 (14, (.iload_n 3, 1)) (List.mem_of_getElem? (i := 10) rfl)
theorem dX4_readTest_15 : decode cX4_readTest 15 = .ok (.sipush 400, 3) := dgX4_readTest_0 (15, (.sipush 400, 3)) (List.mem_of_getElem? (i := 11) rfl)
theorem dX4_readTest_18 : decode cX4_readTest 18 = .ok (.if_icmp .ge 104, 3) := dgX4_readTest_0 (18, (.if_icmp .ge 104, 3)) (List.mem_of_getElem? (i := 12) rfl)
theorem dX4_readTest_21 : decode cX4_readTest 21 = .ok (.aload_n 0, 1) := dgX4_readTest_0 (21, (.aload_n 0, 1)) (List.mem_of_getElem? (i := 13) rfl)
theorem dX4_readTest_22 : decode cX4_readTest 22 = .ok (.sipush 261, 3) := dgX4_readTest_0 (22, (.sipush 261, 3)) (List.mem_of_getElem? (i := 14) rfl)
theorem dX4_readTest_25 : decode cX4_readTest 25 = .ok (.invokevirtual 49, 3) := dgX4_readTest_0 (25, (.invokevirtual 49, 3)) (List.mem_of_getElem? (i := 15) rfl)
theorem dX4_readTest_28 : decode cX4_readTest 28 = .ok (.ifCond .ne 13, 3) := dgX4_readTest_0 (28, (.ifCond .ne 13, 3)) (List.mem_of_getElem? (i := 16) rfl)
theorem dX4_readTest_31 : decode cX4_readTest 31 = .ok (.aload_n 0, 1) := dgX4_readTest_0 (31, (.aload_n 0, 1)) (List.mem_of_getElem? (i := 17) rfl)
theorem dX4_readTest_32 : decode cX4_readTest 32 = .ok (.sipush 262, 3) := dgX4_readTest_0 (32, (.sipush 262, 3)) (List.mem_of_getElem? (i := 18) rfl)
theorem dX4_readTest_35 : decode cX4_readTest 35 = .ok (.invokevirtual 49, 3) := dgX4_readTest_0 (35, (.invokevirtual 49, 3)) (List.mem_of_getElem? (i := 19) rfl)
theorem dX4_readTest_38 : decode cX4_readTest 38 = .ok (.ifCond .eq 84, 3) := dgX4_readTest_0 (38, (.ifCond .eq 84, 3)) (List.mem_of_getElem? (i := 20) rfl)
theorem dX4_readTest_41 : decode cX4_readTest 41 = .ok (.aload_n 0, 1) := dgX4_readTest_0 (41, (.aload_n 0, 1)) (List.mem_of_getElem? (i := 21) rfl)
theorem dX4_readTest_42 : decode cX4_readTest 42 = .ok (.sipush 261, 3) := dgX4_readTest_0 (42, (.sipush 261, 3)) (List.mem_of_getElem? (i := 22) rfl)
theorem dX4_readTest_45 : decode cX4_readTest 45 = .ok (.invokevirtual 49, 3) := dgX4_readTest_0 (45, (.invokevirtual 49, 3)) (List.mem_of_getElem? (i := 23) rfl)
theorem dX4_readTest_48 : decode cX4_readTest 48 = .ok (.istore 4, 2) := dgX4_readTest_0 (48, (.istore 4, 2)) (List.mem_of_getElem? (i := 24) rfl)
theorem dX4_readTest_50 : decode cX4_readTest 50 = .ok (.aload_n 0, 1) := dgX4_readTest_0 (50, (.aload_n 0, 1)) (List.mem_of_getElem? (i := 25) rfl)
theorem dX4_readTest_51 : decode cX4_readTest 51 = .ok (.dup, 1) := dgX4_readTest_0 (51, (.dup, 1)) (List.mem_of_getElem? (i := 26) rfl)
theorem dX4_readTest_52 : decode cX4_readTest 52 = .ok (.getfield 42, 3) := dgX4_readTest_0 (52, (.getfield 42, 3)) (List.mem_of_getElem? (i := 27) rfl)
theorem dX4_readTest_55 : decode cX4_readTest 55 = .ok (.iconst 1, 1) := dgX4_readTest_0 (55, (.iconst 1, 1)) (List.mem_of_getElem? (i := 28) rfl)
theorem dX4_readTest_56 : decode cX4_readTest 56 = .ok (.iadd, 1) := dgX4_readTest_0 (56, (.iadd, 1)) (List.mem_of_getElem? (i := 29) rfl)
theorem dX4_readTest_57 : decode cX4_readTest 57 = .ok (.putfield 42, 3) := dgX4_readTest_0 (57, (.putfield 42, 3)) (List.mem_of_getElem? (i := 30) rfl)
theorem dX4_readTest_60 : decode cX4_readTest 60 = .ok (.iload 4, 2) := dgX4_readTest_0 (60, (.iload 4, 2)) (List.mem_of_getElem? (i := 31) rfl)
theorem dX4_readTest_62 : decode cX4_readTest 62 = .ok (.ifCond .eq 8, 3) := dgX4_readTest_0 (62, (.ifCond .eq 8, 3)) (List.mem_of_getElem? (i := 32) rfl)
theorem dX4_readTest_65 : decode cX4_readTest 65 = .ok (.aload_n 0, 1) := dgX4_readTest_0 (65, (.aload_n 0, 1)) (List.mem_of_getElem? (i := 33) rfl)
theorem dX4_readTest_66 : decode cX4_readTest 66 = .ok (.iload_n 2, 1) := dgX4_readTest_0 (66, (.iload_n 2, 1)) (List.mem_of_getElem? (i := 34) rfl)
theorem dX4_readTest_67 : decode cX4_readTest 67 = .ok (.invokevirtual 86, 3) := dgX4_readTest_0 (67, (.invokevirtual 86, 3)) (List.mem_of_getElem? (i := 35) rfl)
theorem dX4_readTest_70 : decode cX4_readTest 70 = .ok (.aload_n 0, 1) := dgX4_readTest_0 (70, (.aload_n 0, 1)) (List.mem_of_getElem? (i := 36) rfl)
theorem dX4_readTest_71 : decode cX4_readTest 71 = .ok (.iload 4, 2) := dgX4_readTest_0 (71, (.iload 4, 2)) (List.mem_of_getElem? (i := 37) rfl)
theorem dX4_readTest_73 : decode cX4_readTest 73 = .ok (.ifCond .eq 8, 3) := dgX4_readTest_0 (73, (.ifCond .eq 8, 3)) (List.mem_of_getElem? (i := 38) rfl)
theorem dX4_readTest_76 : decode cX4_readTest 76 = .ok (.bipush 11, 2) := dgX4_readTest_0 (76, (.bipush 11, 2)) (List.mem_of_getElem? (i := 39) rfl)
theorem dgX4_readTest_1 : ∀ r ∈ ([(78, (.goto 5, 3)), (81, (.bipush 12, 2)), (83, (.iconst 0, 1)), (84, (.invokevirtual 79, 3)), (87, (.istore 5, 2)), (89, (.aload_n 0, 1)), (90, (.iload_n 1, 1)), (91, (.invokevirtual 83, 3)), (94, (.ifCond .ne 5, 3)), (97, (.iconst 0, 1)), (98, (.ireturn, 1)), (99, (.iload 4, 2)), (101, (.ifCond .eq 9, 3)), (104, (.iload 5, 2)), (106, (.istore_n 2, 1)), (107, (.goto 9, 3)), (110, (.aload_n 0, 1)), (111, (.iload 5, 2)), (113, (.invokevirtual 86, 3)), (116, (.iinc 3 1, 3)), (119, (.goto (-105), 3)), (122, (.aload_n 0, 1)), (123, (.iload_n 2, 1)), (124, (.invokevirtual 86, 3)), (127, (.iconst 1, 1)), (128, (.ireturn, 1))] : List (Nat × (Instr × Nat))), decode cX4_readTest r.1 = .ok r.2 := by decide +kernel
theorem dX4_readTest_78 : decode cX4_readTest 78 = .ok (.goto 5, 3) := dgX4_readTest_1 (78, (.goto 5, 3)) (List.mem_of_getElem? (i := 0) rfl)
theorem dX4_readTest_81 : decode cX4_readTest 81 = .ok (.bipush 12, 2) := dgX4_readTest_1 (81, (.bipush 12, 2)) (List.mem_of_getElem? (i := 1) rfl)
theorem dX4_readTest_83 : decode cX4_readTest 83 = .ok (.iconst 0, 1) := dgX4_readTest_1 (83, (.iconst 0, 1)) (List.mem_of_getElem? (i := 2) rfl)
theorem dX4_readTest_84 : decode cX4_readTest 84 = .ok (.invokevirtual 79, 3) := dgX4_readTest_1 (84, (.invokevirtual 79, 3)) (List.mem_of_getElem? (i := 3) rfl)
theorem dX4_readTest_87 : decode cX4_readTest 87 = .ok (.istore 5, 2) := dgX4_readTest_1 (87, (.istore 5, 2)) (List.mem_of_getElem? (i := 4) rfl)
theorem dX4_readTest_89 : decode cX4_readTest 89 = .ok (.aload_n 0, 1) := dgX4_readTest_1 (89, (.aload_n 0, 1)) (List.mem_of_getElem? (i := 5) rfl)
theorem dX4_readTest_90 : decode cX4_readTest 90 = .ok (.iload_n 1, 1) := dgX4_readTest_1 (90, (.iload_n 1, 1)) (List.mem_of_getElem? (i := 6) rfl)
theorem dX4_readTest_91 : decode cX4_readTest 91 = .ok (.invokevirtual 83, 3) := dgX4_readTest_1 (91, (.invokevirtual 83, 3)) (List.mem_of_getElem? (i := 7) rfl)
theorem dX4_readTest_94 : decode cX4_readTest 94 = .ok (.ifCond .ne 5, 3) := dgX4_readTest_1 (94, (.ifCond .ne 5, 3)) (List.mem_of_getElem? (i := 8) rfl)
theorem dX4_readTest_97 : decode cX4_readTest 97 = .ok (.iconst 0, 1) := dgX4_readTest_1 (97, (.iconst 0, 1)) (List.mem_of_getElem? (i := 9) rfl)
theorem dX4_readTest_98 : decode cX4_readTest 98 = .ok (.ireturn, 1) := dgX4_readTest_1 (98, (.ireturn, 1)) (List.mem_of_getElem? (i := 10) rfl)
theorem dX4_readTest_99 : decode cX4_readTest 99 = .ok (.iload 4, 2) := dgX4_readTest_1 (99, (.iload 4, 2)) (List.mem_of_getElem? (i := 11) rfl)
theorem dX4_readTest_101 : decode cX4_readTest 101 = .ok (.ifCond .eq 9, 3) := dgX4_readTest_1 (101, (.ifCond .eq 9, 3)) (List.mem_of_getElem? (i := 12) rfl)
theorem dX4_readTest_104 : decode cX4_readTest 104 = .ok (.iload 5, 2) := dgX4_readTest_1 (104, (.iload 5, 2)) (List.mem_of_getElem? (i := 13) rfl)
theorem dX4_readTest_106 : decode cX4_readTest 106 = .ok (.istore_n 2, 1) := dgX4_readTest_1 (106, (.istore_n 2, 1)) (List.mem_of_getElem? (i := 14) rfl)
theorem dX4_readTest_107 : decode cX4_readTest 107 = .ok (.goto 9, 3) := dgX4_readTest_1 (107, (.goto 9, 3)) (List.mem_of_getElem? (i := 15) rfl)
theorem dX4_readTest_110 : decode cX4_readTest 110 = .ok (.aload_n 0, 1) := dgX4_readTest_1 (110, (.aload_n 0, 1)) (List.mem_of_getElem? (i := 16) rfl)
theorem dX4_readTest_111 : decode cX4_readTest 111 = .ok (.iload 5, 2) := dgX4_readTest_1 (111, (.iload 5, 2)) (List.mem_of_getElem? (i := 17) rfl)
theorem dX4_readTest_113 : decode cX4_readTest 113 = .ok (.invokevirtual 86, 3) := dgX4_readTest_1 (113, (.invokevirtual 86, 3)) (List.mem_of_getElem? (i := 18) rfl)
theorem dX4_readTest_116 : decode cX4_readTest 116 = .ok (.iinc 3 1, 3) := dgX4_readTest_1 (116, (.iinc 3 1, 3)) (List.mem_of_getElem? (i := 19) rfl)
theorem dX4_readTest_119 : decode cX4_readTest 119 = .ok (.goto (-105), 3) := dgX4_readTest_1 (119, (.goto (-105), 3)) (List.mem_of_getElem? (i := 20) rfl)
theorem dX4_readTest_122 : decode cX4_readTest 122 = .ok (.aload_n 0, 1) := dgX4_readTest_1 (122, (.aload_n 0, 1)) (List.mem_of_getElem? (i := 21) rfl)
theorem dX4_readTest_123 : decode cX4_readTest 123 = .ok (.iload_n 2, 1) := dgX4_readTest_1 (123, (.iload_n 2, 1)) (List.mem_of_getElem? (i := 22) rfl)
theorem dX4_readTest_124 : decode cX4_readTest 124 = .ok (.invokevirtual 86, 3) := dgX4_readTest_1 (124, (.invokevirtual 86, 3)) (List.mem_of_getElem? (i := 23) rfl)
theorem dX4_readTest_127 : decode cX4_readTest 127 = .ok (.iconst 1, 1) := dgX4_readTest_1 (127, (.iconst 1, 1)) (List.mem_of_getElem? (i := 24) rfl)
theorem dX4_readTest_128 : decode cX4_readTest 128 = .ok (.ireturn, 1) := dgX4_readTest_1 (128, (.ireturn, 1)) (List.mem_of_getElem? (i := 25) rfl)
theorem ml_X4_83 : Cond.methodLink RX4 83 yX4_readPlain ∈ tblG := tg 748 (by decide +kernel) (by decide +kernel)
theorem im_X4_readPlain : Cond.instanceMethod yX4_readPlain ∈ tblG := tg 750 (by decide +kernel) (by decide +kernel)
theorem se_X4_readPlain : Cond.selects RX4 yX4_readPlain yX4_readPlain ∈ tblG := tg 11 (by decide +kernel) (by decide +kernel)
theorem cd_X4_readPlain : Cond.code yX4_readPlain cX4_readPlain 4 (some .boolean) ∈ tblG := tg 751 (by decide +kernel) (by decide +kernel)
theorem gW_X4_readPlain : GoodIn tblG (wsG yX4_readPlain cX4_readPlain 4 (some .boolean)) := tgi cd_X4_readPlain
theorem gV_X4_83 : GoodIn tblG (wsV RX4 83 RX4 yX4_readPlain (wsG yX4_readPlain cX4_readPlain 4 (some .boolean))) := tgV ml_X4_83 im_X4_readPlain se_X4_readPlain ini_X4 gW_X4_readPlain
theorem hv_X4_readPlain : yX4_readPlain.cls = RX4 ∧ yX4_readPlain.cls ≠ "java/lang/invoke/MethodHandle" ∧ yX4_readPlain.cls ≠ "java/lang/invoke/VarHandle" ∧ (parseMethodDescriptor yX4_readPlain.desc).map (fun d => d.parameters.length) = some 1 := by decide +kernel
theorem ml_X4_86 : Cond.methodLink RX4 86 yX4_jumpHere ∈ tblG := tg 752 (by decide +kernel) (by decide +kernel)
theorem im_X4_jumpHere : Cond.instanceMethod yX4_jumpHere ∈ tblG := tg 754 (by decide +kernel) (by decide +kernel)
theorem se_X4_jumpHere : Cond.selects RX4 yX4_jumpHere yX4_jumpHere ∈ tblG := tg 12 (by decide +kernel) (by decide +kernel)
theorem cd_X4_jumpHere : Cond.code yX4_jumpHere cX4_jumpHere 2 none ∈ tblG := tg 755 (by decide +kernel) (by decide +kernel)
theorem gW_X4_jumpHere : GoodIn tblG (wsG yX4_jumpHere cX4_jumpHere 2 none) := tgi cd_X4_jumpHere
theorem gV_X4_86 : GoodIn tblG (wsV RX4 86 RX4 yX4_jumpHere (wsG yX4_jumpHere cX4_jumpHere 2 none)) := tgV ml_X4_86 im_X4_jumpHere se_X4_jumpHere ini_X4 gW_X4_jumpHere
theorem hv_X4_jumpHere : yX4_jumpHere.cls = RX4 ∧ yX4_jumpHere.cls ≠ "java/lang/invoke/MethodHandle" ∧ yX4_jumpHere.cls ≠ "java/lang/invoke/VarHandle" ∧ (parseMethodDescriptor yX4_jumpHere.desc).map (fun d => d.parameters.length) = some 1 := by decide +kernel
set_option maxHeartbeats 4000000 in
set_option maxRecDepth 100000 in
theorem r_test (fr lo f2 l2 : Nat) (p_d : Int32) (h_p_d : 0 ≤ p_d.toInt ∧ p_d.toInt ≤ 8) (h_sum : ∀ x : Int32, x.toInt = p_d.toInt + 1 → p_d.toInt < 8 → ∀ (l : Launch) (G : g5_G) (a_r a_tk a_kd a_nm a_rc a_rh a_rs a_pl : Nat) (sz : Nat) (e_ln : Int32) (e_pa : Int32) (e_at : Int32) (e_fp : Int32) (f_kd : Nat → Int32) (f_nm : Nat → Int32) (f_rc : Nat → Int32) (h_e_ln : 0 ≤ e_ln.toInt ∧ e_ln.toInt ≤ 400) (h_e_pa : 0 ≤ e_pa.toInt ∧ e_pa.toInt ≤ 50) (h_e_at : 0 ≤ e_at.toInt ∧ e_at.toInt ≤ 401) (e_tk : TOKI f_kd f_nm) (e_cd : CDI f_rc e_ln.toInt), Met l yX4_readSum (wsG yX4_readSum cX4_readSum 6 (some .boolean)) ({ frames := fr + 0, cells := 0, slots := 0, locals := lo + 0 }) (va_Pc [.ref a_r, .int x] (g5_P G [(a_r, (oc4 a_tk a_rh a_rs a_rc e_ln e_pa e_at e_fp)), (a_tk, (oc8 a_kd a_nm a_pl)), (a_kd, (arI G 401 f_kd)), (a_nm, (arI G 401 f_nm)), (a_rc, (arI G 400 f_rc))] sz)) (va_Qi (fun (r : Int32) (u : va_W) => (∃ (o_r : Int32) (o_ln : Int32) (o_pa : Int32) (o_at : Int32) (o_rc : Nat → Int32), (0 ≤ o_r.toInt ∧ o_r.toInt ≤ 1) ∧ (e_ln.toInt ≤ o_ln.toInt ∧ o_ln.toInt ≤ 400) ∧ (0 ≤ o_at.toInt ∧ o_at.toInt ≤ 401) ∧ (0 ≤ o_pa.toInt ∧ o_pa.toInt ≤ 50) ∧ (CDI o_rc o_ln.toInt) ∧ (OPK f_rc o_rc e_ln.toInt) ∧ (r = o_r) ∧ (u = [(a_r, (oc4 a_tk a_rh a_rs a_rc o_ln o_pa o_at e_fp)), (a_tk, (oc8 a_kd a_nm a_pl)), (a_kd, (arI G 401 f_kd)), (a_nm, (arI G 401 f_nm)), (a_rc, (arI G 400 o_rc))]))) (g5_B G (va_A [(a_r, (oc4 a_tk a_rh a_rs a_rc e_ln e_pa e_at e_fp)), (a_tk, (oc8 a_kd a_nm a_pl)), (a_kd, (arI G 401 f_kd)), (a_nm, (arI G 401 f_nm)), (a_rc, (arI G 400 f_rc))] sz)) (va_A [(a_r, (oc4 a_tk a_rh a_rs a_rc e_ln e_pa e_at e_fp)), (a_tk, (oc8 a_kd a_nm a_pl)), (a_kd, (arI G 401 f_kd)), (a_nm, (arI G 401 f_nm)), (a_rc, (arI G 400 f_rc))] sz)) 0 0 (va_A [(a_r, (oc4 a_tk a_rh a_rs a_rc e_ln e_pa e_at e_fp)), (a_tk, (oc8 a_kd a_nm a_pl)), (a_kd, (arI G 401 f_kd)), (a_nm, (arI G 401 f_nm)), (a_rc, (arI G 400 f_rc))] sz)) (h_test : ∀ x : Int32, x.toInt = p_d.toInt + 1 → p_d.toInt < 8 → ∀ (l : Launch) (G : g5_G) (a_r a_tk a_kd a_nm a_rc a_rh a_rs a_pl : Nat) (sz : Nat) (e_ln : Int32) (e_pa : Int32) (e_at : Int32) (e_fp : Int32) (f_kd : Nat → Int32) (f_nm : Nat → Int32) (f_rc : Nat → Int32) (h_e_ln : 0 ≤ e_ln.toInt ∧ e_ln.toInt ≤ 400) (h_e_pa : 0 ≤ e_pa.toInt ∧ e_pa.toInt ≤ 50) (h_e_at : 0 ≤ e_at.toInt ∧ e_at.toInt ≤ 401) (e_tk : TOKI f_kd f_nm) (e_cd : CDI f_rc e_ln.toInt), Met l yX4_readTest (wsG yX4_readTest cX4_readTest 6 (some .boolean)) ({ frames := f2 + 0, cells := 0, slots := 0, locals := l2 + 0 }) (va_Pc [.ref a_r, .int x] (g5_P G [(a_r, (oc4 a_tk a_rh a_rs a_rc e_ln e_pa e_at e_fp)), (a_tk, (oc8 a_kd a_nm a_pl)), (a_kd, (arI G 401 f_kd)), (a_nm, (arI G 401 f_nm)), (a_rc, (arI G 400 f_rc))] sz)) (va_Qi (fun (r : Int32) (u : va_W) => (∃ (o_r : Int32) (o_ln : Int32) (o_pa : Int32) (o_at : Int32) (o_rc : Nat → Int32), (0 ≤ o_r.toInt ∧ o_r.toInt ≤ 1) ∧ (e_ln.toInt ≤ o_ln.toInt ∧ o_ln.toInt ≤ 400) ∧ (0 ≤ o_at.toInt ∧ o_at.toInt ≤ 401) ∧ (0 ≤ o_pa.toInt ∧ o_pa.toInt ≤ 50) ∧ (CDI o_rc o_ln.toInt) ∧ (OPK f_rc o_rc e_ln.toInt) ∧ (r = o_r) ∧ (u = [(a_r, (oc4 a_tk a_rh a_rs a_rc o_ln o_pa o_at e_fp)), (a_tk, (oc8 a_kd a_nm a_pl)), (a_kd, (arI G 401 f_kd)), (a_nm, (arI G 401 f_nm)), (a_rc, (arI G 400 o_rc))]))) (g5_B G (va_A [(a_r, (oc4 a_tk a_rh a_rs a_rc e_ln e_pa e_at e_fp)), (a_tk, (oc8 a_kd a_nm a_pl)), (a_kd, (arI G 401 f_kd)), (a_nm, (arI G 401 f_nm)), (a_rc, (arI G 400 f_rc))] sz)) (va_A [(a_r, (oc4 a_tk a_rh a_rs a_rc e_ln e_pa e_at e_fp)), (a_tk, (oc8 a_kd a_nm a_pl)), (a_kd, (arI G 401 f_kd)), (a_nm, (arI G 401 f_nm)), (a_rc, (arI G 400 f_rc))] sz)) 0 0 (va_A [(a_r, (oc4 a_tk a_rh a_rs a_rc e_ln e_pa e_at e_fp)), (a_tk, (oc8 a_kd a_nm a_pl)), (a_kd, (arI G 401 f_kd)), (a_nm, (arI G 401 f_nm)), (a_rc, (arI G 400 f_rc))] sz)) (l : Launch) (G : g5_G) (a_r a_tk a_kd a_nm a_rc a_rh a_rs a_pl : Nat) (sz : Nat) (e_ln : Int32) (e_pa : Int32) (e_at : Int32) (e_fp : Int32) (f_kd : Nat → Int32) (f_nm : Nat → Int32) (f_rc : Nat → Int32) (h_e_ln : 0 ≤ e_ln.toInt ∧ e_ln.toInt ≤ 400) (h_e_pa : 0 ≤ e_pa.toInt ∧ e_pa.toInt ≤ 50) (h_e_at : 0 ≤ e_at.toInt ∧ e_at.toInt ≤ 401) (e_tk : TOKI f_kd f_nm) (e_cd : CDI f_rc e_ln.toInt) : Met l yX4_readTest (wsG yX4_readTest cX4_readTest 6 (some .boolean)) ({ frames := fr + f2 + 4, cells := 0, slots := 0, locals := lo + l2 + 96 }) (va_Pc [.ref a_r, .int p_d] (g5_P G [(a_r, (oc4 a_tk a_rh a_rs a_rc e_ln e_pa e_at e_fp)), (a_tk, (oc8 a_kd a_nm a_pl)), (a_kd, (arI G 401 f_kd)), (a_nm, (arI G 401 f_nm)), (a_rc, (arI G 400 f_rc))] sz)) (va_Qi (fun (r : Int32) (u : va_W) => (∃ (o_r : Int32) (o_ln : Int32) (o_pa : Int32) (o_at : Int32) (o_rc : Nat → Int32), (0 ≤ o_r.toInt ∧ o_r.toInt ≤ 1) ∧ (e_ln.toInt ≤ o_ln.toInt ∧ o_ln.toInt ≤ 400) ∧ (0 ≤ o_at.toInt ∧ o_at.toInt ≤ 401) ∧ (0 ≤ o_pa.toInt ∧ o_pa.toInt ≤ 50) ∧ (CDI o_rc o_ln.toInt) ∧ (OPK f_rc o_rc e_ln.toInt) ∧ (r = o_r) ∧ (u = [(a_r, (oc4 a_tk a_rh a_rs a_rc o_ln o_pa o_at e_fp)), (a_tk, (oc8 a_kd a_nm a_pl)), (a_kd, (arI G 401 f_kd)), (a_nm, (arI G 401 f_nm)), (a_rc, (arI G 400 o_rc))]))) (g5_B G (va_A [(a_r, (oc4 a_tk a_rh a_rs a_rc e_ln e_pa e_at e_fp)), (a_tk, (oc8 a_kd a_nm a_pl)), (a_kd, (arI G 401 f_kd)), (a_nm, (arI G 401 f_nm)), (a_rc, (arI G 400 f_rc))] sz)) (va_A [(a_r, (oc4 a_tk a_rh a_rs a_rc e_ln e_pa e_at e_fp)), (a_tk, (oc8 a_kd a_nm a_pl)), (a_kd, (arI G 401 f_kd)), (a_nm, (arI G 401 f_nm)), (a_rc, (arI G 400 f_rc))] sz)) 0 0 (va_A [(a_r, (oc4 a_tk a_rh a_rs a_rc e_ln e_pa e_at e_fp)), (a_tk, (oc8 a_kd a_nm a_pl)), (a_kd, (arI G 401 f_kd)), (a_nm, (arI G 401 f_nm)), (a_rc, (arI G 400 f_rc))] sz) := by
  refine Met.ofW (cc := cX4_readTest) (maxL := 6) (ret := (some .boolean)) (by decide) rfl ?_
  intro p e s m args below meth c s₁ B hml hv
  obtain ⟨rfl, hsz, hP, hK, hD0, hN, hT⟩ := hv
  have hx := B.exec
  have hb := B.bytes
  have hr := B.returns
  have hts : ∀ w ∈ tblG, w.before _ s = true := fun w h => atoms_spec (ws := (wsG yX4_readTest cX4_readTest 6 (some .boolean))) B.pre w (List.mem_cons_of_mem _ h)
  have hown : s.vm.findClass RX4 = some m.cls := findClass_of_methodNamed B.named
  have hlocks := B.notSynchronized
  subst hsz
  have hD := hD0.self (sz := s.heap.size)
  generalize hAe : va_A [(a_r, (oc4 a_tk a_rh a_rs a_rc e_ln e_pa e_at e_fp)), (a_tk, (oc8 a_kd a_nm a_pl)), (a_kd, (arI G 401 f_kd)), (a_nm, (arI G 401 f_nm)), (a_rc, (arI G 400 f_rc))] s.heap.size = A at hD hT ⊢
  have hA : ∀ q : Nat, s.heap.size ≤ q → A q := fun q h => by rw [← hAe]; exact Or.inr h
  have hS : va_S A s.heap s.heap [] := va_S.rf
  have hP : va_P G.1 vwCl [(a_r, (oc4 a_tk a_rh a_rs a_rc e_ln e_pa e_at e_fp)), (a_tk, (oc8 a_kd a_nm a_pl)), (a_kd, (arI G 401 f_kd)), (a_nm, (arI G 401 f_nm)), (a_rc, (arI G 400 f_rc))] s.heap := hP
  have hl := lv_entry ([.ref a_r, .int p_d]) (n := 6) (Nat.le_of_ble_eq_true rfl)
  rw [lg_entry_eq]
  generalize (lg_sl ([.ref a_r, .int p_d]) ++ List.replicate (6 - (lg_sl ([.ref a_r, .int p_d])).length) Slot.unset).toArray = ls at hl ⊢
  have hl : lv_has ls 6 [(0, .ref a_r), (1, .int p_d)] := hl
  refine lv_aload_n hx hb dX4_readTest_0 rfl (lv_at hl 0 rfl) ?_
  refine lv_iload_n hx hb dX4_readTest_1 rfl (lv_at hl 1 rfl) ?_
  obtain ⟨hPc, hDc, hFc⟩ := g5_sub3 (wc := [(a_r, (oc4 a_tk a_rh a_rs a_rc e_ln e_pa e_at e_fp)), (a_tk, (oc8 a_kd a_nm a_pl)), (a_kd, (arI G 401 f_kd)), (a_nm, (arI G 401 f_nm)), (a_rc, (arI G 400 f_rc))]) hP hD hS hA [0, 1, 2, 3, 4] (by decide) rfl
  refine va_calli (va_runV (As := [.int p_d]) (rest := []) ⟨hx, hb, hml, hown, hts⟩ ((r_plain fr lo f2 l2 p_d h_p_d h_sum h_test) l G a_r a_tk a_kd a_nm a_rc a_rh a_rs a_pl s.heap.size e_ln e_pa e_at e_fp f_kd f_nm f_rc h_e_ln h_e_pa h_e_at (e_tk) (e_cd)) (cwV 1 hts gV_X4_83 rfl rfl rfl hv_X4_readPlain ⟨by simp only [headSpec]; omega, by simp only [headSpec]; omega⟩) (g5_preV hPc hK hDc hN hT hS hFc (ci := 4) (q0 := 0) rfl rfl) rfl rfl hl.1 rfl (lv_room (Nat.le_of_ble_eq_true rfl)) dX4_readTest_2 ⟨Nat.le_of_ble_eq_true rfl, Nat.le_of_ble_eq_true rfl⟩) hS (fun q _ h => hFc q h) hFc (fun r u t H1 locs ht hvm hw hB hz1 hk1 hS => ?_)
  obtain ⟨hP1, hD1⟩ := hB
  rw [ht] at hP1
  obtain ⟨z7, z8, z9, z10, z11, i_1, i_2, i_3, i_4, i_5, i_6, y12, rfl⟩ := hw
  have i_1 : 0 ≤ z7.toInt ∧ z7.toInt ≤ 1 := i_1
  have i_2 : e_ln.toInt ≤ z8.toInt ∧ z8.toInt ≤ 400 := i_2
  have i_3 : 0 ≤ z10.toInt ∧ z10.toInt ≤ 401 := i_3
  have i_4 : 0 ≤ z9.toInt ∧ z9.toInt ≤ 50 := i_4
  have i_5 : CDI z11 z8.toInt := i_5
  have i_6 : OPK f_rc z11 e_ln.toInt := i_6
  obtain ⟨hP, hD⟩ := va_join (wr := []) hP hD [0, 1, 2, 3, 4] [] rfl rfl (by decide) (by decide) hk1 hFc hP1 hD1
  generalize H1 = H at hP hS ⊢
  refine g5_rs [(a_r, (oc4 a_tk a_rh a_rs a_rc z8 z9 z10 e_fp)), (a_tk, (oc8 a_kd a_nm a_pl)), (a_kd, (arI G 401 f_kd)), (a_nm, (arI G 401 f_nm)), (a_rc, (arI G 400 z11))] hP hD (fun hP hD => ?_)
  refine g5_ti (v := z7) y12 ?_
  refine lv_if_ne (tgt := 10) hx hb dX4_readTest_5 (by decide) (fun c_13 => ?_) (fun c_13 => ?_)
  ·
    have n_13 : gNe (z7.toInt) (0) := by have z := g5_ne (a := z7.toInt) (b := 0) (by rfl) (by decide) c_13; unfold gNe; omega
    have i_13 : z7.toInt ≥ 1 := by have z := g5_ne (a := z7.toInt) (b := 0) (by rfl) (by decide) c_13; omega
    refine lv_iconst (v := (-1)) hx hb dX4_readTest_10 (by decide) ?_
    refine lv_istore_n (lv' := [(2, .int (-1)), (0, .ref a_r), (1, .int p_d)]) hx hb dX4_readTest_11 rfl hl (by decide) rfl (fun ls hl => ?_)
    refine lv_iconst (v := 0) hx hb dX4_readTest_12 (by decide) ?_
    refine lv_istore_n (lv' := [(3, .int 0), (2, .int (-1)), (0, .ref a_r), (1, .int p_d)]) hx hb dX4_readTest_13 rfl hl (by decide) rfl (fun ls hl => ?_)
    refine g5_loop (α := (Int32) × (Int32) × (Int32) × (Int32) × (Int32) × (Nat → Int32)) (fun (q : (Int32) × (Int32) × (Int32) × (Int32) × (Int32) × (Nat → Int32)) (ls : Array Slot) (H : Heap) (locs : List Loc) => match q with | (k_w, k_i, k_ln, k_pa, k_at, k_rc) => lv_has ls 6 [(2, .int k_w), (3, .int k_i), (0, .ref a_r), (1, .int p_d)] ∧ va_P G.1 vwCl [(a_r, (oc4 a_tk a_rh a_rs a_rc k_ln k_pa k_at e_fp)), (a_tk, (oc8 a_kd a_nm a_pl)), (a_kd, (arI G 401 f_kd)), (a_nm, (arI G 401 f_nm)), (a_rc, (arI G 400 k_rc))] H ∧ va_D A [(a_r, (oc4 a_tk a_rh a_rs a_rc k_ln k_pa k_at e_fp)), (a_tk, (oc8 a_kd a_nm a_pl)), (a_kd, (arI G 401 f_kd)), (a_nm, (arI G 401 f_nm)), (a_rc, (arI G 400 k_rc))] ∧ va_S A s.heap H locs ∧ ((-1) ≤ k_w.toInt ∧ k_w.toInt ≤ 399) ∧ (0 ≤ k_i.toInt ∧ k_i.toInt ≤ 400) ∧ (0 ≤ k_ln.toInt ∧ k_ln.toInt ≤ 400) ∧ (0 ≤ k_pa.toInt ∧ k_pa.toInt ≤ 50) ∧ (0 ≤ k_at.toInt ∧ k_at.toInt ≤ 401) ∧ (e_ln.toInt ≤ k_ln.toInt) ∧ (CDI k_rc k_ln.toInt) ∧ (OPK f_rc k_rc e_ln.toInt) ∧ (JOK k_rc k_ln.toInt k_w)) (fun (q : (Int32) × (Int32) × (Int32) × (Int32) × (Int32) × (Nat → Int32)) => match q with | (k_w, k_i, k_ln, k_pa, k_at, k_rc) => Int.toNat (400 - k_i.toInt)) ((-1), 0, z8, z9, z10, z11) ⟨lv_sub hl [1, 0, 2, 3] rfl, hP, hD, hS, ⟨by decide, by decide⟩, ⟨by decide, by decide⟩, ⟨by omega, by omega⟩, i_4, i_3, by omega, i_5, i_6, jok_none⟩ ?_
    rintro ⟨k_w, k_i, k_ln, k_pa, k_at, k_rc⟩ ls H locs ⟨hl, hP, hD, hS, i_14, i_15, i_16, i_17, i_18, i_19, i_20, i_21, i_22⟩ ih_14_23
    have hl : lv_has ls 6 [(2, .int k_w), (3, .int k_i), (0, .ref a_r), (1, .int p_d)] := hl
    have i_14 : (-1) ≤ k_w.toInt ∧ k_w.toInt ≤ 399 := i_14
    have i_15 : 0 ≤ k_i.toInt ∧ k_i.toInt ≤ 400 := i_15
    have i_16 : 0 ≤ k_ln.toInt ∧ k_ln.toInt ≤ 400 := i_16
    have i_17 : 0 ≤ k_pa.toInt ∧ k_pa.toInt ≤ 50 := i_17
    have i_18 : 0 ≤ k_at.toInt ∧ k_at.toInt ≤ 401 := i_18
    have i_19 : e_ln.toInt ≤ k_ln.toInt := i_19
    have i_20 : CDI k_rc k_ln.toInt := i_20
    have i_21 : OPK f_rc k_rc e_ln.toInt := i_21
    have i_22 : JOK k_rc k_ln.toInt k_w := i_22
    refine g5_rs [(a_r, (oc4 a_tk a_rh a_rs a_rc k_ln k_pa k_at e_fp)), (a_tk, (oc8 a_kd a_nm a_pl)), (a_kd, (arI G 401 f_kd)), (a_nm, (arI G 401 f_nm)), (a_rc, (arI G 400 k_rc))] hP hD (fun hP hD => ?_)
    refine lv_iload_n hx hb dX4_readTest_14 rfl (lv_at hl 1 rfl) ?_
    refine lv_sipush (v := 400) hx hb dX4_readTest_15 (by decide) ?_
    refine lv_icmp_ge (tgt := 122) hx hb dX4_readTest_18 (by decide) (fun c_24 => ?_) (fun c_24 => ?_)
    ·
      have i_24 : k_i.toInt ≥ 400 := by have z := g5_ge (a := k_i.toInt) (b := 400) (by rfl) (by decide) c_24; omega
      refine lv_aload_n hx hb dX4_readTest_122 rfl (lv_at hl 2 rfl) ?_
      refine lv_iload_n hx hb dX4_readTest_123 rfl (lv_at hl 0 rfl) ?_
      obtain ⟨hPc, hDc, hFc⟩ := g5_sub3 (wc := [(a_r, (oc4 a_tk a_rh a_rs a_rc k_ln k_pa k_at e_fp)), (a_rc, (arI G 400 k_rc))]) hP hD hS hA [0, 4] (by decide) rfl
      refine va_callv (va_runV (As := [.int k_w]) (rest := []) ⟨hx, hb, hml, hown, hts⟩ (r_jump l G a_r a_rc a_tk a_rh a_rs H.size k_ln k_pa k_at e_fp k_w k_rc i_16 i_17 i_18 (i_20) (i_22)) (cwV 1 hts gV_X4_86 rfl rfl rfl hv_X4_jumpHere ⟨by simp only [headSpec]; omega, by simp only [headSpec]; omega⟩) (g5_preV hPc hK hDc hN hT hS hFc (ci := 4) (q0 := 0) rfl rfl) rfl rfl hl.1 rfl (lv_room (Nat.le_of_ble_eq_true rfl)) dX4_readTest_124 ⟨Nat.le_of_ble_eq_true rfl, Nat.le_of_ble_eq_true rfl⟩) hS (fun q _ h => hFc q h) hFc (fun u t H1 locs ht hvm hw hB hz1 hk1 hS => ?_)
      obtain ⟨hP1, hD1⟩ := hB
      rw [ht] at hP1
      obtain ⟨z27, i_25, i_26, rfl⟩ := hw
      have i_25 : CDI z27 k_ln.toInt := i_25
      have i_26 : OPK k_rc z27 k_ln.toInt := i_26
      obtain ⟨hP, hD⟩ := va_join (wr := [(a_tk, (oc8 a_kd a_nm a_pl)), (a_kd, (arI G 401 f_kd)), (a_nm, (arI G 401 f_nm))]) hP hD [0, 4] [1, 2, 3] rfl rfl (by decide) (by decide) hk1 hFc hP1 hD1
      generalize H1 = H at hP hS ⊢
      refine g5_rs [(a_tk, (oc8 a_kd a_nm a_pl)), (a_kd, (arI G 401 f_kd)), (a_nm, (arI G 401 f_nm)), (a_r, (oc4 a_tk a_rh a_rs a_rc k_ln k_pa k_at e_fp)), (a_rc, (arI G 400 z27))] hP hD (fun hP hD => ?_)
      refine lv_iconst (v := 1) hx hb dX4_readTest_127 (by decide) ?_
      exact W.zret (v := 1) hx hb hr rfl (fun t ht hW => ⟨⟨1, [(a_r, (oc4 a_tk a_rh a_rs a_rc k_ln k_pa k_at e_fp)), (a_tk, (oc8 a_kd a_nm a_pl)), (a_kd, (arI G 401 f_kd)), (a_nm, (arI G 401 f_nm)), (a_rc, (arI G 400 z27))], rfl, ⟨1, k_ln, k_pa, k_at, z27, ⟨by have zc_o_r : (1 : Int32).toInt = 1 := (by decide); omega, by have zc_o_r : (1 : Int32).toInt = 1 := (by decide); omega⟩, ⟨by omega, by omega⟩, i_18, i_17, i_25, opk_trans i_21 (i_26) (by omega), rfl, rfl⟩, by rw [ht]; exact hP.sub [3, 0, 1, 2, 4] rfl, hD.sub [3, 0, 1, 2, 4] (by decide) rfl⟩, hS.F ht⟩) hS.2.2 dX4_readTest_128
    ·
      have i_24 : k_i.toInt < 400 := by have z := g5_geN (a := k_i.toInt) (b := 400) (by rfl) (by decide) c_24; omega
      refine lv_aload_n hx hb dX4_readTest_21 rfl (lv_at hl 2 rfl) ?_
      refine lv_sipush (v := 261) hx hb dX4_readTest_22 (by decide) ?_
      obtain ⟨hPc, hDc, hFc⟩ := g5_sub3 (wc := [(a_r, (oc4 a_tk a_rh a_rs a_rc k_ln k_pa k_at e_fp)), (a_tk, (oc8 a_kd a_nm a_pl)), (a_kd, (arI G 401 f_kd))]) hP hD hS hA [0, 1, 2] (by decide) rfl
      refine va_calli (va_runV (As := [.int 261]) (rest := []) ⟨hx, hb, hml, hown, hts⟩ (r_isNext l G a_r a_tk a_kd a_rh a_rs a_rc a_nm a_pl H.size k_ln k_pa k_at e_fp 261 f_kd i_16 i_17 i_18) (cwV 1 hts gV_X4_49 rfl rfl rfl hv_X4_isNext ⟨by simp only [headSpec]; omega, by simp only [headSpec]; omega⟩) (g5_preV hPc hK hDc hN hT hS hFc (ci := 4) (q0 := 0) rfl rfl) rfl rfl hl.1 rfl (lv_room (Nat.le_of_ble_eq_true rfl)) dX4_readTest_25 ⟨Nat.le_of_ble_eq_true rfl, Nat.le_of_ble_eq_true rfl⟩) hS (fun q _ h => hFc q h) hFc (fun r u t H1 locs ht hvm hw hB hz1 hk1 hS => ?_)
      obtain ⟨hP1, hD1⟩ := hB
      rw [ht] at hP1
      rcases hw with ⟨i_28, i_29, rfl, rfl⟩ | ⟨rfl, rfl⟩
      ·
        have i_28 : k_at.toInt ≤ 400 := i_28
        have i_29 : f_kd k_at.toNatClampNeg = (261 : Int32) := i_29
        obtain ⟨hP, hD⟩ := va_join (wr := [(a_nm, (arI G 401 f_nm)), (a_rc, (arI G 400 k_rc))]) hP hD [0, 1, 2] [3, 4] rfl rfl (by decide) (by decide) hk1 hFc hP1 hD1
        generalize H1 = H at hP hS ⊢
        refine g5_rs [(a_nm, (arI G 401 f_nm)), (a_rc, (arI G 400 k_rc)), (a_r, (oc4 a_tk a_rh a_rs a_rc k_ln k_pa k_at e_fp)), (a_tk, (oc8 a_kd a_nm a_pl)), (a_kd, (arI G 401 f_kd))] hP hD (fun hP hD => ?_)
        refine lv_if_ne (tgt := 41) hx hb dX4_readTest_28 (by decide) (fun c_30 => ?_) (fun c_30 => ?_)
        ·
          refine lv_aload_n hx hb dX4_readTest_41 rfl (lv_at hl 2 rfl) ?_
          refine lv_sipush (v := 261) hx hb dX4_readTest_42 (by decide) ?_
          obtain ⟨hPc, hDc, hFc⟩ := g5_sub3 (wc := [(a_r, (oc4 a_tk a_rh a_rs a_rc k_ln k_pa k_at e_fp)), (a_tk, (oc8 a_kd a_nm a_pl)), (a_kd, (arI G 401 f_kd))]) hP hD hS hA [2, 3, 4] (by decide) rfl
          refine va_calli (va_runV (As := [.int 261]) (rest := []) ⟨hx, hb, hml, hown, hts⟩ (r_isNext l G a_r a_tk a_kd a_rh a_rs a_rc a_nm a_pl H.size k_ln k_pa k_at e_fp 261 f_kd i_16 i_17 i_18) (cwV 1 hts gV_X4_49 rfl rfl rfl hv_X4_isNext ⟨by simp only [headSpec]; omega, by simp only [headSpec]; omega⟩) (g5_preV hPc hK hDc hN hT hS hFc (ci := 4) (q0 := 0) rfl rfl) rfl rfl hl.1 rfl (lv_room (Nat.le_of_ble_eq_true rfl)) dX4_readTest_45 ⟨Nat.le_of_ble_eq_true rfl, Nat.le_of_ble_eq_true rfl⟩) hS (fun q _ h => hFc q h) hFc (fun r u t H1 locs ht hvm hw hB hz1 hk1 hS => ?_)
          obtain ⟨hP1, hD1⟩ := hB
          rw [ht] at hP1
          rcases hw with ⟨i_31, i_32, rfl, rfl⟩ | ⟨rfl, rfl⟩
          ·
            have i_31 : k_at.toInt ≤ 400 := i_31
            have i_32 : f_kd k_at.toNatClampNeg = (261 : Int32) := i_32
            obtain ⟨hP, hD⟩ := va_join (wr := [(a_nm, (arI G 401 f_nm)), (a_rc, (arI G 400 k_rc))]) hP hD [2, 3, 4] [0, 1] rfl rfl (by decide) (by decide) hk1 hFc hP1 hD1
            generalize H1 = H at hP hS ⊢
            refine g5_rs [(a_nm, (arI G 401 f_nm)), (a_rc, (arI G 400 k_rc)), (a_r, (oc4 a_tk a_rh a_rs a_rc k_ln k_pa k_at e_fp)), (a_tk, (oc8 a_kd a_nm a_pl)), (a_kd, (arI G 401 f_kd))] hP hD (fun hP hD => ?_)
            refine lv_istore (lv' := [(4, .int 1), (2, .int k_w), (3, .int k_i), (0, .ref a_r), (1, .int p_d)]) hx hb dX4_readTest_48 hl (by decide) rfl (fun ls hl => ?_)
            refine lv_aload_n hx hb dX4_readTest_50 rfl (lv_at hl 3 rfl) ?_
            refine lv_dup hx hb dX4_readTest_51 rfl ?_
            refine va_get (D := G.1) (ci := 4) (v := .int k_at) (C := RX4) (T := TX4) (N := 8) hx hb hts inG_X4 hown hK hP 2 rfl rfl 6 (by decide) (hts _ fl_X4_42) (fun _ h9 => h9) rfl dX4_readTest_52 ?_
            refine lv_iconst (v := 1) hx hb dX4_readTest_55 (by decide) ?_
            refine lv_iadd hx hb dX4_readTest_56 ?_
            have t_33 : (k_at + 1).toInt = k_at.toInt + 1 := g5_iadd (a := k_at.toInt) (b := 1) (by rfl) (by decide) (by omega) (by omega)
            refine va_put (D := G.1) (ci := 4) (v := .int (k_at + 1)) (ty := .int) (C := RX4) (T := TX4) (N := 8) hx hb hts inG_X4 tyX4 tyX4_ok nmX4 hown hK hP hD hS 2 rfl rfl 6 (by decide) (hts _ fl_X4_42) (fun _ h9 => h9) rfl (by decide +kernel) rfl rfl (Nat.le_of_ble_eq_true rfl) dX4_readTest_57 (fun H locs hP hD hS => ?_)
            refine g5_rs [(a_nm, (arI G 401 f_nm)), (a_rc, (arI G 400 k_rc)), (a_r, (oc4 a_tk a_rh a_rs a_rc k_ln k_pa (k_at + 1) e_fp)), (a_tk, (oc8 a_kd a_nm a_pl)), (a_kd, (arI G 401 f_kd))] hP hD (fun hP hD => ?_)
            refine lv_iload hx hb dX4_readTest_60 (lv_at hl 0 rfl) ?_
            refine lv_if_eq (tgt := 70) hx hb dX4_readTest_62 (by decide) (fun c_34 => ?_) (fun c_34 => ?_)
            ·
              exact absurd c_34 (by decide)
            ·
              refine lv_aload_n hx hb dX4_readTest_65 rfl (lv_at hl 3 rfl) ?_
              refine lv_iload_n hx hb dX4_readTest_66 rfl (lv_at hl 1 rfl) ?_
              obtain ⟨hPc, hDc, hFc⟩ := g5_sub3 (wc := [(a_r, (oc4 a_tk a_rh a_rs a_rc k_ln k_pa (k_at + 1) e_fp)), (a_rc, (arI G 400 k_rc))]) hP hD hS hA [2, 1] (by decide) rfl
              refine va_callv (va_runV (As := [.int k_w]) (rest := []) ⟨hx, hb, hml, hown, hts⟩ (r_jump l G a_r a_rc a_tk a_rh a_rs H.size k_ln k_pa (k_at + 1) e_fp k_w k_rc i_16 i_17 ⟨by omega, by omega⟩ (i_20) (i_22)) (cwV 1 hts gV_X4_86 rfl rfl rfl hv_X4_jumpHere ⟨by simp only [headSpec]; omega, by simp only [headSpec]; omega⟩) (g5_preV hPc hK hDc hN hT hS hFc (ci := 4) (q0 := 0) rfl rfl) rfl rfl hl.1 rfl (lv_room (Nat.le_of_ble_eq_true rfl)) dX4_readTest_67 ⟨Nat.le_of_ble_eq_true rfl, Nat.le_of_ble_eq_true rfl⟩) hS (fun q _ h => hFc q h) hFc (fun u t H1 locs ht hvm hw hB hz1 hk1 hS => ?_)
              obtain ⟨hP1, hD1⟩ := hB
              rw [ht] at hP1
              obtain ⟨z37, i_35, i_36, rfl⟩ := hw
              have i_35 : CDI z37 k_ln.toInt := i_35
              have i_36 : OPK k_rc z37 k_ln.toInt := i_36
              obtain ⟨hP, hD⟩ := va_join (wr := [(a_nm, (arI G 401 f_nm)), (a_tk, (oc8 a_kd a_nm a_pl)), (a_kd, (arI G 401 f_kd))]) hP hD [2, 1] [0, 3, 4] rfl rfl (by decide) (by decide) hk1 hFc hP1 hD1
              generalize H1 = H at hP hS ⊢
              refine g5_rs [(a_nm, (arI G 401 f_nm)), (a_tk, (oc8 a_kd a_nm a_pl)), (a_kd, (arI G 401 f_kd)), (a_r, (oc4 a_tk a_rh a_rs a_rc k_ln k_pa (k_at + 1) e_fp)), (a_rc, (arI G 400 z37))] hP hD (fun hP hD => ?_)
              refine lv_aload_n hx hb dX4_readTest_70 rfl (lv_at hl 3 rfl) ?_
              refine lv_iload hx hb dX4_readTest_71 (lv_at hl 0 rfl) ?_
              refine lv_if_eq (tgt := 81) hx hb dX4_readTest_73 (by decide) (fun c_38 => ?_) (fun c_38 => ?_)
              ·
                exact absurd c_38 (by decide)
              ·
                refine lv_bipush (v := 11) hx hb dX4_readTest_76 (by decide) ?_
                refine lv_goto (tgt := 83) hx hb dX4_readTest_78 (by decide) ?_
                refine lv_iconst (v := 0) hx hb dX4_readTest_83 (by decide) ?_
                obtain ⟨hPc, hDc, hFc⟩ := g5_sub3 (wc := [(a_r, (oc4 a_tk a_rh a_rs a_rc k_ln k_pa (k_at + 1) e_fp)), (a_rc, (arI G 400 z37))]) hP hD hS hA [3, 4] (by decide) rfl
                refine va_calli (va_runV (As := [.int 11, .int 0]) (rest := []) ⟨hx, hb, hml, hown, hts⟩ (r_emit l G a_r a_rc a_tk a_rh a_rs H.size k_ln k_pa (k_at + 1) e_fp 11 0 z37 i_16 i_17 ⟨by omega, by omega⟩ (i_35) (by unfold wOK; decide)) (cwV 2 hts gV_X4_79 rfl rfl rfl hv_X4_emit ⟨by simp only [headSpec]; omega, by simp only [headSpec]; omega⟩) (g5_preV hPc hK hDc hN hT hS hFc (ci := 4) (q0 := 0) rfl rfl) rfl rfl hl.1 rfl (lv_room (Nat.le_of_ble_eq_true rfl)) dX4_readTest_84 ⟨Nat.le_of_ble_eq_true rfl, Nat.le_of_ble_eq_true rfl⟩) hS (fun q _ h => hFc q h) hFc (fun r u t H1 locs ht hvm hw hB hz1 hk1 hS => ?_)
                obtain ⟨hP1, hD1⟩ := hB
                rw [ht] at hP1
                obtain ⟨z44, z45, z46, i_39, i_40, i_41, i_42, i_43, y47, rfl⟩ := hw
                have i_39 : -1 ≤ z44.toInt ∧ z44.toInt ≤ 399 := i_39
                have i_40 : k_ln.toInt ≤ z45.toInt ∧ z45.toInt ≤ 400 := i_40
                have i_41 : CDI z46 z45.toInt := i_41
                have i_42 : OPK z37 z46 k_ln.toInt := i_42
                have i_43 : 0 ≤ z44.toInt → z44.toInt < z45.toInt ∧ z46 z44.toNatClampNeg = (((11 : Int32) <<< (12 &&& 31)) ||| (0 : Int32)) := i_43
                obtain ⟨hP, hD⟩ := va_join (wr := [(a_nm, (arI G 401 f_nm)), (a_tk, (oc8 a_kd a_nm a_pl)), (a_kd, (arI G 401 f_kd))]) hP hD [3, 4] [0, 1, 2] rfl rfl (by decide) (by decide) hk1 hFc hP1 hD1
                generalize H1 = H at hP hS ⊢
                refine g5_rs [(a_nm, (arI G 401 f_nm)), (a_tk, (oc8 a_kd a_nm a_pl)), (a_kd, (arI G 401 f_kd)), (a_r, (oc4 a_tk a_rh a_rs a_rc z45 k_pa (k_at + 1) e_fp)), (a_rc, (arI G 400 z46))] hP hD (fun hP hD => ?_)
                refine g5_ti (v := z44) y47 ?_
                refine lv_istore (lv' := [(5, .int z44), (4, .int 1), (2, .int k_w), (3, .int k_i), (0, .ref a_r), (1, .int p_d)]) hx hb dX4_readTest_87 hl (by decide) rfl (fun ls hl => ?_)
                refine lv_aload_n hx hb dX4_readTest_89 rfl (lv_at hl 4 rfl) ?_
                refine lv_iload_n hx hb dX4_readTest_90 rfl (lv_at hl 5 rfl) ?_
                obtain ⟨hPc, hDc, hFc⟩ := g5_sub3 (wc := [(a_r, (oc4 a_tk a_rh a_rs a_rc z45 k_pa (k_at + 1) e_fp)), (a_tk, (oc8 a_kd a_nm a_pl)), (a_kd, (arI G 401 f_kd)), (a_nm, (arI G 401 f_nm)), (a_rc, (arI G 400 z46))]) hP hD hS hA [3, 1, 2, 0, 4] (by decide) rfl
                refine va_calli (va_runV (As := [.int p_d]) (rest := []) ⟨hx, hb, hml, hown, hts⟩ ((r_plain fr lo f2 l2 p_d h_p_d h_sum h_test) l G a_r a_tk a_kd a_nm a_rc a_rh a_rs a_pl H.size z45 k_pa (k_at + 1) e_fp f_kd f_nm z46 ⟨by omega, by omega⟩ i_17 ⟨by omega, by omega⟩ (e_tk) (i_41)) (cwV 1 hts gV_X4_83 rfl rfl rfl hv_X4_readPlain ⟨by simp only [headSpec]; omega, by simp only [headSpec]; omega⟩) (g5_preV hPc hK hDc hN hT hS hFc (ci := 4) (q0 := 0) rfl rfl) rfl rfl hl.1 rfl (lv_room (Nat.le_of_ble_eq_true rfl)) dX4_readTest_91 ⟨Nat.le_of_ble_eq_true rfl, Nat.le_of_ble_eq_true rfl⟩) hS (fun q _ h => hFc q h) hFc (fun r u t H1 locs ht hvm hw hB hz1 hk1 hS => ?_)
                obtain ⟨hP1, hD1⟩ := hB
                rw [ht] at hP1
                obtain ⟨z54, z55, z56, z57, z58, i_48, i_49, i_50, i_51, i_52, i_53, y59, rfl⟩ := hw
                have i_48 : 0 ≤ z54.toInt ∧ z54.toInt ≤ 1 := i_48
                have i_49 : z45.toInt ≤ z55.toInt ∧ z55.toInt ≤ 400 := i_49
                have i_50 : 0 ≤ z57.toInt ∧ z57.toInt ≤ 401 := i_50
                have i_51 : 0 ≤ z56.toInt ∧ z56.toInt ≤ 50 := i_51
                have i_52 : CDI z58 z55.toInt := i_52
                have i_53 : OPK z46 z58 z45.toInt := i_53
                obtain ⟨hP, hD⟩ := va_join (wr := []) hP hD [3, 1, 2, 0, 4] [] rfl rfl (by decide) (by decide) hk1 hFc hP1 hD1
                generalize H1 = H at hP hS ⊢
                refine g5_rs [(a_r, (oc4 a_tk a_rh a_rs a_rc z55 z56 z57 e_fp)), (a_tk, (oc8 a_kd a_nm a_pl)), (a_kd, (arI G 401 f_kd)), (a_nm, (arI G 401 f_nm)), (a_rc, (arI G 400 z58))] hP hD (fun hP hD => ?_)
                refine g5_ti (v := z54) y59 ?_
                refine lv_if_ne (tgt := 99) hx hb dX4_readTest_94 (by decide) (fun c_60 => ?_) (fun c_60 => ?_)
                ·
                  have n_60 : gNe (z54.toInt) (0) := by have z := g5_ne (a := z54.toInt) (b := 0) (by rfl) (by decide) c_60; unfold gNe; omega
                  have i_60 : z54.toInt ≥ 1 := by have z := g5_ne (a := z54.toInt) (b := 0) (by rfl) (by decide) c_60; omega
                  refine lv_iload hx hb dX4_readTest_99 (lv_at hl 1 rfl) ?_
                  refine lv_if_eq (tgt := 110) hx hb dX4_readTest_101 (by decide) (fun c_61 => ?_) (fun c_61 => ?_)
                  ·
                    exact absurd c_61 (by decide)
                  ·
                    refine lv_iload hx hb dX4_readTest_104 (lv_at hl 0 rfl) ?_
                    refine lv_istore_n (lv' := [(2, .int z44), (5, .int z44), (4, .int 1), (3, .int k_i), (0, .ref a_r), (1, .int p_d)]) hx hb dX4_readTest_106 rfl hl (by decide) rfl (fun ls hl => ?_)
                    refine lv_goto (tgt := 116) hx hb dX4_readTest_107 (by decide) ?_
                    refine lv_iinc (v := (k_i + 1)) (lv' := [(3, .int (k_i + 1)), (2, .int z44), (5, .int z44), (4, .int 1), (0, .ref a_r), (1, .int p_d)]) hx hb dX4_readTest_116 hl (k := 3) rfl rfl (by decide) rfl (fun ls hl => ?_)
                    have t_62 : (k_i + 1).toInt = k_i.toInt + 1 := g5_iadd (a := k_i.toInt) (b := 1) rfl (by decide) (by omega) (by omega)
                    refine lv_goto (tgt := 14) hx hb dX4_readTest_119 (by decide) ?_
                    exact ih_14_23 (z44, (k_i + 1), z55, z56, z57, z58) ls H locs (show Int.toNat (400 - (k_i + 1).toInt) < Int.toNat (400 - k_i.toInt) from g_up (show k_i.toInt < (k_i + 1).toInt by omega) (show k_i.toInt < 400 by omega)) ⟨lv_sub hl [1, 0, 4, 5] rfl, hP, hD, hS, ⟨by omega, by omega⟩, ⟨by omega, by omega⟩, ⟨by omega, by omega⟩, i_51, i_50, by omega, i_52, opk_trans i_21 (opk_trans i_36 (opk_trans i_42 (i_53) (by omega)) (by omega)) (by omega), jok_opk (jok_emit i_43 (by decide)) (i_53) (by omega)⟩
                ·
                  have i_60 : z54.toInt = 0 := by have z := g5_neN (a := z54.toInt) (b := 0) (by rfl) (by decide) c_60; omega
                  refine lv_iconst (v := 0) hx hb dX4_readTest_97 (by decide) ?_
                  exact W.zret (v := 0) hx hb hr rfl (fun t ht hW => ⟨⟨0, [(a_r, (oc4 a_tk a_rh a_rs a_rc z55 z56 z57 e_fp)), (a_tk, (oc8 a_kd a_nm a_pl)), (a_kd, (arI G 401 f_kd)), (a_nm, (arI G 401 f_nm)), (a_rc, (arI G 400 z58))], rfl, ⟨0, z55, z56, z57, z58, ⟨by have zc_o_r : (0 : Int32).toInt = 0 := (by decide); omega, by have zc_o_r : (0 : Int32).toInt = 0 := (by decide); omega⟩, ⟨by omega, by omega⟩, i_50, i_51, i_52, opk_trans i_21 (opk_trans i_36 (opk_trans i_42 (i_53) (by omega)) (by omega)) (by omega), rfl, rfl⟩, by rw [ht]; exact hP.sub [0, 1, 2, 3, 4] rfl, hD.sub [0, 1, 2, 3, 4] (by decide) rfl⟩, hS.F ht⟩) hS.2.2 dX4_readTest_98
          ·
            obtain ⟨hP, hD⟩ := va_join (wr := [(a_nm, (arI G 401 f_nm)), (a_rc, (arI G 400 k_rc))]) hP hD [2, 3, 4] [0, 1] rfl rfl (by decide) (by decide) hk1 hFc hP1 hD1
            generalize H1 = H at hP hS ⊢
            refine g5_rs [(a_nm, (arI G 401 f_nm)), (a_rc, (arI G 400 k_rc)), (a_r, (oc4 a_tk a_rh a_rs a_rc k_ln k_pa k_at e_fp)), (a_tk, (oc8 a_kd a_nm a_pl)), (a_kd, (arI G 401 f_kd))] hP hD (fun hP hD => ?_)
            refine lv_istore (lv' := [(4, .int 0), (2, .int k_w), (3, .int k_i), (0, .ref a_r), (1, .int p_d)]) hx hb dX4_readTest_48 hl (by decide) rfl (fun ls hl => ?_)
            refine lv_aload_n hx hb dX4_readTest_50 rfl (lv_at hl 3 rfl) ?_
            refine lv_dup hx hb dX4_readTest_51 rfl ?_
            refine va_get (D := G.1) (ci := 4) (v := .int k_at) (C := RX4) (T := TX4) (N := 8) hx hb hts inG_X4 hown hK hP 2 rfl rfl 6 (by decide) (hts _ fl_X4_42) (fun _ h9 => h9) rfl dX4_readTest_52 ?_
            refine lv_iconst (v := 1) hx hb dX4_readTest_55 (by decide) ?_
            refine lv_iadd hx hb dX4_readTest_56 ?_
            have t_63 : (k_at + 1).toInt = k_at.toInt + 1 := g5_iadd (a := k_at.toInt) (b := 1) (by rfl) (by decide) (by omega) (by omega)
            refine va_put (D := G.1) (ci := 4) (v := .int (k_at + 1)) (ty := .int) (C := RX4) (T := TX4) (N := 8) hx hb hts inG_X4 tyX4 tyX4_ok nmX4 hown hK hP hD hS 2 rfl rfl 6 (by decide) (hts _ fl_X4_42) (fun _ h9 => h9) rfl (by decide +kernel) rfl rfl (Nat.le_of_ble_eq_true rfl) dX4_readTest_57 (fun H locs hP hD hS => ?_)
            refine g5_rs [(a_nm, (arI G 401 f_nm)), (a_rc, (arI G 400 k_rc)), (a_r, (oc4 a_tk a_rh a_rs a_rc k_ln k_pa (k_at + 1) e_fp)), (a_tk, (oc8 a_kd a_nm a_pl)), (a_kd, (arI G 401 f_kd))] hP hD (fun hP hD => ?_)
            refine lv_iload hx hb dX4_readTest_60 (lv_at hl 0 rfl) ?_
            refine lv_if_eq (tgt := 70) hx hb dX4_readTest_62 (by decide) (fun c_64 => ?_) (fun c_64 => ?_)
            ·
              refine lv_aload_n hx hb dX4_readTest_70 rfl (lv_at hl 3 rfl) ?_
              refine lv_iload hx hb dX4_readTest_71 (lv_at hl 0 rfl) ?_
              refine lv_if_eq (tgt := 81) hx hb dX4_readTest_73 (by decide) (fun c_65 => ?_) (fun c_65 => ?_)
              ·
                refine lv_bipush (v := 12) hx hb dX4_readTest_81 (by decide) ?_
                refine lv_iconst (v := 0) hx hb dX4_readTest_83 (by decide) ?_
                obtain ⟨hPc, hDc, hFc⟩ := g5_sub3 (wc := [(a_r, (oc4 a_tk a_rh a_rs a_rc k_ln k_pa (k_at + 1) e_fp)), (a_rc, (arI G 400 k_rc))]) hP hD hS hA [2, 1] (by decide) rfl
                refine va_calli (va_runV (As := [.int 12, .int 0]) (rest := []) ⟨hx, hb, hml, hown, hts⟩ (r_emit l G a_r a_rc a_tk a_rh a_rs H.size k_ln k_pa (k_at + 1) e_fp 12 0 k_rc i_16 i_17 ⟨by omega, by omega⟩ (i_20) (by unfold wOK; decide)) (cwV 2 hts gV_X4_79 rfl rfl rfl hv_X4_emit ⟨by simp only [headSpec]; omega, by simp only [headSpec]; omega⟩) (g5_preV hPc hK hDc hN hT hS hFc (ci := 4) (q0 := 0) rfl rfl) rfl rfl hl.1 rfl (lv_room (Nat.le_of_ble_eq_true rfl)) dX4_readTest_84 ⟨Nat.le_of_ble_eq_true rfl, Nat.le_of_ble_eq_true rfl⟩) hS (fun q _ h => hFc q h) hFc (fun r u t H1 locs ht hvm hw hB hz1 hk1 hS => ?_)
                obtain ⟨hP1, hD1⟩ := hB
                rw [ht] at hP1
                obtain ⟨z71, z72, z73, i_66, i_67, i_68, i_69, i_70, y74, rfl⟩ := hw
                have i_66 : -1 ≤ z71.toInt ∧ z71.toInt ≤ 399 := i_66
                have i_67 : k_ln.toInt ≤ z72.toInt ∧ z72.toInt ≤ 400 := i_67
                have i_68 : CDI z73 z72.toInt := i_68
                have i_69 : OPK k_rc z73 k_ln.toInt := i_69
                have i_70 : 0 ≤ z71.toInt → z71.toInt < z72.toInt ∧ z73 z71.toNatClampNeg = (((12 : Int32) <<< (12 &&& 31)) ||| (0 : Int32)) := i_70
                obtain ⟨hP, hD⟩ := va_join (wr := [(a_nm, (arI G 401 f_nm)), (a_tk, (oc8 a_kd a_nm a_pl)), (a_kd, (arI G 401 f_kd))]) hP hD [2, 1] [0, 3, 4] rfl rfl (by decide) (by decide) hk1 hFc hP1 hD1
                generalize H1 = H at hP hS ⊢
                refine g5_rs [(a_nm, (arI G 401 f_nm)), (a_tk, (oc8 a_kd a_nm a_pl)), (a_kd, (arI G 401 f_kd)), (a_r, (oc4 a_tk a_rh a_rs a_rc z72 k_pa (k_at + 1) e_fp)), (a_rc, (arI G 400 z73))] hP hD (fun hP hD => ?_)
                refine g5_ti (v := z71) y74 ?_
                refine lv_istore (lv' := [(5, .int z71), (4, .int 0), (2, .int k_w), (3, .int k_i), (0, .ref a_r), (1, .int p_d)]) hx hb dX4_readTest_87 hl (by decide) rfl (fun ls hl => ?_)
                refine lv_aload_n hx hb dX4_readTest_89 rfl (lv_at hl 4 rfl) ?_
                refine lv_iload_n hx hb dX4_readTest_90 rfl (lv_at hl 5 rfl) ?_
                obtain ⟨hPc, hDc, hFc⟩ := g5_sub3 (wc := [(a_r, (oc4 a_tk a_rh a_rs a_rc z72 k_pa (k_at + 1) e_fp)), (a_tk, (oc8 a_kd a_nm a_pl)), (a_kd, (arI G 401 f_kd)), (a_nm, (arI G 401 f_nm)), (a_rc, (arI G 400 z73))]) hP hD hS hA [3, 1, 2, 0, 4] (by decide) rfl
                refine va_calli (va_runV (As := [.int p_d]) (rest := []) ⟨hx, hb, hml, hown, hts⟩ ((r_plain fr lo f2 l2 p_d h_p_d h_sum h_test) l G a_r a_tk a_kd a_nm a_rc a_rh a_rs a_pl H.size z72 k_pa (k_at + 1) e_fp f_kd f_nm z73 ⟨by omega, by omega⟩ i_17 ⟨by omega, by omega⟩ (e_tk) (i_68)) (cwV 1 hts gV_X4_83 rfl rfl rfl hv_X4_readPlain ⟨by simp only [headSpec]; omega, by simp only [headSpec]; omega⟩) (g5_preV hPc hK hDc hN hT hS hFc (ci := 4) (q0 := 0) rfl rfl) rfl rfl hl.1 rfl (lv_room (Nat.le_of_ble_eq_true rfl)) dX4_readTest_91 ⟨Nat.le_of_ble_eq_true rfl, Nat.le_of_ble_eq_true rfl⟩) hS (fun q _ h => hFc q h) hFc (fun r u t H1 locs ht hvm hw hB hz1 hk1 hS => ?_)
                obtain ⟨hP1, hD1⟩ := hB
                rw [ht] at hP1
                obtain ⟨z81, z82, z83, z84, z85, i_75, i_76, i_77, i_78, i_79, i_80, y86, rfl⟩ := hw
                have i_75 : 0 ≤ z81.toInt ∧ z81.toInt ≤ 1 := i_75
                have i_76 : z72.toInt ≤ z82.toInt ∧ z82.toInt ≤ 400 := i_76
                have i_77 : 0 ≤ z84.toInt ∧ z84.toInt ≤ 401 := i_77
                have i_78 : 0 ≤ z83.toInt ∧ z83.toInt ≤ 50 := i_78
                have i_79 : CDI z85 z82.toInt := i_79
                have i_80 : OPK z73 z85 z72.toInt := i_80
                obtain ⟨hP, hD⟩ := va_join (wr := []) hP hD [3, 1, 2, 0, 4] [] rfl rfl (by decide) (by decide) hk1 hFc hP1 hD1
                generalize H1 = H at hP hS ⊢
                refine g5_rs [(a_r, (oc4 a_tk a_rh a_rs a_rc z82 z83 z84 e_fp)), (a_tk, (oc8 a_kd a_nm a_pl)), (a_kd, (arI G 401 f_kd)), (a_nm, (arI G 401 f_nm)), (a_rc, (arI G 400 z85))] hP hD (fun hP hD => ?_)
                refine g5_ti (v := z81) y86 ?_
                refine lv_if_ne (tgt := 99) hx hb dX4_readTest_94 (by decide) (fun c_87 => ?_) (fun c_87 => ?_)
                ·
                  have n_87 : gNe (z81.toInt) (0) := by have z := g5_ne (a := z81.toInt) (b := 0) (by rfl) (by decide) c_87; unfold gNe; omega
                  have i_87 : z81.toInt ≥ 1 := by have z := g5_ne (a := z81.toInt) (b := 0) (by rfl) (by decide) c_87; omega
                  refine lv_iload hx hb dX4_readTest_99 (lv_at hl 1 rfl) ?_
                  refine lv_if_eq (tgt := 110) hx hb dX4_readTest_101 (by decide) (fun c_88 => ?_) (fun c_88 => ?_)
                  ·
                    refine lv_aload_n hx hb dX4_readTest_110 rfl (lv_at hl 4 rfl) ?_
                    refine lv_iload hx hb dX4_readTest_111 (lv_at hl 0 rfl) ?_
                    obtain ⟨hPc, hDc, hFc⟩ := g5_sub3 (wc := [(a_r, (oc4 a_tk a_rh a_rs a_rc z82 z83 z84 e_fp)), (a_rc, (arI G 400 z85))]) hP hD hS hA [0, 4] (by decide) rfl
                    refine va_callv (va_runV (As := [.int z71]) (rest := []) ⟨hx, hb, hml, hown, hts⟩ (r_jump l G a_r a_rc a_tk a_rh a_rs H.size z82 z83 z84 e_fp z71 z85 ⟨by omega, by omega⟩ i_78 i_77 (i_79) (jok_opk (jok_emit i_70 (by decide)) (i_80) (by omega))) (cwV 1 hts gV_X4_86 rfl rfl rfl hv_X4_jumpHere ⟨by simp only [headSpec]; omega, by simp only [headSpec]; omega⟩) (g5_preV hPc hK hDc hN hT hS hFc (ci := 4) (q0 := 0) rfl rfl) rfl rfl hl.1 rfl (lv_room (Nat.le_of_ble_eq_true rfl)) dX4_readTest_113 ⟨Nat.le_of_ble_eq_true rfl, Nat.le_of_ble_eq_true rfl⟩) hS (fun q _ h => hFc q h) hFc (fun u t H1 locs ht hvm hw hB hz1 hk1 hS => ?_)
                    obtain ⟨hP1, hD1⟩ := hB
                    rw [ht] at hP1
                    obtain ⟨z91, i_89, i_90, rfl⟩ := hw
                    have i_89 : CDI z91 z82.toInt := i_89
                    have i_90 : OPK z85 z91 z82.toInt := i_90
                    obtain ⟨hP, hD⟩ := va_join (wr := [(a_tk, (oc8 a_kd a_nm a_pl)), (a_kd, (arI G 401 f_kd)), (a_nm, (arI G 401 f_nm))]) hP hD [0, 4] [1, 2, 3] rfl rfl (by decide) (by decide) hk1 hFc hP1 hD1
                    generalize H1 = H at hP hS ⊢
                    refine g5_rs [(a_tk, (oc8 a_kd a_nm a_pl)), (a_kd, (arI G 401 f_kd)), (a_nm, (arI G 401 f_nm)), (a_r, (oc4 a_tk a_rh a_rs a_rc z82 z83 z84 e_fp)), (a_rc, (arI G 400 z91))] hP hD (fun hP hD => ?_)
                    refine lv_iinc (v := (k_i + 1)) (lv' := [(3, .int (k_i + 1)), (5, .int z71), (4, .int 0), (2, .int k_w), (0, .ref a_r), (1, .int p_d)]) hx hb dX4_readTest_116 hl (k := 3) rfl rfl (by decide) rfl (fun ls hl => ?_)
                    have t_92 : (k_i + 1).toInt = k_i.toInt + 1 := g5_iadd (a := k_i.toInt) (b := 1) rfl (by decide) (by omega) (by omega)
                    refine lv_goto (tgt := 14) hx hb dX4_readTest_119 (by decide) ?_
                    exact ih_14_23 (k_w, (k_i + 1), z82, z83, z84, z91) ls H locs (show Int.toNat (400 - (k_i + 1).toInt) < Int.toNat (400 - k_i.toInt) from g_up (show k_i.toInt < (k_i + 1).toInt by omega) (show k_i.toInt < 400 by omega)) ⟨lv_sub hl [3, 0, 4, 5] rfl, hP.sub [3, 0, 1, 2, 4] rfl, hD.sub [3, 0, 1, 2, 4] (by decide) rfl, hS, i_14, ⟨by omega, by omega⟩, ⟨by omega, by omega⟩, i_78, i_77, by omega, i_89, opk_trans i_21 (opk_trans i_69 (opk_trans i_80 (i_90) (by omega)) (by omega)) (by omega), jok_opk i_22 (opk_trans i_69 (opk_trans i_80 (i_90) (by omega)) (by omega)) (by omega)⟩
                  ·
                    exact absurd c_88 (by decide)
                ·
                  have i_87 : z81.toInt = 0 := by have z := g5_neN (a := z81.toInt) (b := 0) (by rfl) (by decide) c_87; omega
                  refine lv_iconst (v := 0) hx hb dX4_readTest_97 (by decide) ?_
                  exact W.zret (v := 0) hx hb hr rfl (fun t ht hW => ⟨⟨0, [(a_r, (oc4 a_tk a_rh a_rs a_rc z82 z83 z84 e_fp)), (a_tk, (oc8 a_kd a_nm a_pl)), (a_kd, (arI G 401 f_kd)), (a_nm, (arI G 401 f_nm)), (a_rc, (arI G 400 z85))], rfl, ⟨0, z82, z83, z84, z85, ⟨by have zc_o_r : (0 : Int32).toInt = 0 := (by decide); omega, by have zc_o_r : (0 : Int32).toInt = 0 := (by decide); omega⟩, ⟨by omega, by omega⟩, i_77, i_78, i_79, opk_trans i_21 (opk_trans i_69 (i_80) (by omega)) (by omega), rfl, rfl⟩, by rw [ht]; exact hP.sub [0, 1, 2, 3, 4] rfl, hD.sub [0, 1, 2, 3, 4] (by decide) rfl⟩, hS.F ht⟩) hS.2.2 dX4_readTest_98
              ·
                exact absurd c_65 (by decide)
            ·
              exact absurd c_64 (by decide)
        ·
          exact absurd c_30 (by decide)
      ·
        obtain ⟨hP, hD⟩ := va_join (wr := [(a_nm, (arI G 401 f_nm)), (a_rc, (arI G 400 k_rc))]) hP hD [0, 1, 2] [3, 4] rfl rfl (by decide) (by decide) hk1 hFc hP1 hD1
        generalize H1 = H at hP hS ⊢
        refine g5_rs [(a_nm, (arI G 401 f_nm)), (a_rc, (arI G 400 k_rc)), (a_r, (oc4 a_tk a_rh a_rs a_rc k_ln k_pa k_at e_fp)), (a_tk, (oc8 a_kd a_nm a_pl)), (a_kd, (arI G 401 f_kd))] hP hD (fun hP hD => ?_)
        refine lv_if_ne (tgt := 41) hx hb dX4_readTest_28 (by decide) (fun c_93 => ?_) (fun c_93 => ?_)
        ·
          exact absurd c_93 (by decide)
        ·
          refine lv_aload_n hx hb dX4_readTest_31 rfl (lv_at hl 2 rfl) ?_
          refine lv_sipush (v := 262) hx hb dX4_readTest_32 (by decide) ?_
          obtain ⟨hPc, hDc, hFc⟩ := g5_sub3 (wc := [(a_r, (oc4 a_tk a_rh a_rs a_rc k_ln k_pa k_at e_fp)), (a_tk, (oc8 a_kd a_nm a_pl)), (a_kd, (arI G 401 f_kd))]) hP hD hS hA [2, 3, 4] (by decide) rfl
          refine va_calli (va_runV (As := [.int 262]) (rest := []) ⟨hx, hb, hml, hown, hts⟩ (r_isNext l G a_r a_tk a_kd a_rh a_rs a_rc a_nm a_pl H.size k_ln k_pa k_at e_fp 262 f_kd i_16 i_17 i_18) (cwV 1 hts gV_X4_49 rfl rfl rfl hv_X4_isNext ⟨by simp only [headSpec]; omega, by simp only [headSpec]; omega⟩) (g5_preV hPc hK hDc hN hT hS hFc (ci := 4) (q0 := 0) rfl rfl) rfl rfl hl.1 rfl (lv_room (Nat.le_of_ble_eq_true rfl)) dX4_readTest_35 ⟨Nat.le_of_ble_eq_true rfl, Nat.le_of_ble_eq_true rfl⟩) hS (fun q _ h => hFc q h) hFc (fun r u t H1 locs ht hvm hw hB hz1 hk1 hS => ?_)
          obtain ⟨hP1, hD1⟩ := hB
          rw [ht] at hP1
          rcases hw with ⟨i_94, i_95, rfl, rfl⟩ | ⟨rfl, rfl⟩
          ·
            have i_94 : k_at.toInt ≤ 400 := i_94
            have i_95 : f_kd k_at.toNatClampNeg = (262 : Int32) := i_95
            obtain ⟨hP, hD⟩ := va_join (wr := [(a_nm, (arI G 401 f_nm)), (a_rc, (arI G 400 k_rc))]) hP hD [2, 3, 4] [0, 1] rfl rfl (by decide) (by decide) hk1 hFc hP1 hD1
            generalize H1 = H at hP hS ⊢
            refine g5_rs [(a_nm, (arI G 401 f_nm)), (a_rc, (arI G 400 k_rc)), (a_r, (oc4 a_tk a_rh a_rs a_rc k_ln k_pa k_at e_fp)), (a_tk, (oc8 a_kd a_nm a_pl)), (a_kd, (arI G 401 f_kd))] hP hD (fun hP hD => ?_)
            refine lv_if_eq (tgt := 122) hx hb dX4_readTest_38 (by decide) (fun c_96 => ?_) (fun c_96 => ?_)
            ·
              exact absurd c_96 (by decide)
            ·
              refine lv_aload_n hx hb dX4_readTest_41 rfl (lv_at hl 2 rfl) ?_
              refine lv_sipush (v := 261) hx hb dX4_readTest_42 (by decide) ?_
              obtain ⟨hPc, hDc, hFc⟩ := g5_sub3 (wc := [(a_r, (oc4 a_tk a_rh a_rs a_rc k_ln k_pa k_at e_fp)), (a_tk, (oc8 a_kd a_nm a_pl)), (a_kd, (arI G 401 f_kd))]) hP hD hS hA [2, 3, 4] (by decide) rfl
              refine va_calli (va_runV (As := [.int 261]) (rest := []) ⟨hx, hb, hml, hown, hts⟩ (r_isNext l G a_r a_tk a_kd a_rh a_rs a_rc a_nm a_pl H.size k_ln k_pa k_at e_fp 261 f_kd i_16 i_17 i_18) (cwV 1 hts gV_X4_49 rfl rfl rfl hv_X4_isNext ⟨by simp only [headSpec]; omega, by simp only [headSpec]; omega⟩) (g5_preV hPc hK hDc hN hT hS hFc (ci := 4) (q0 := 0) rfl rfl) rfl rfl hl.1 rfl (lv_room (Nat.le_of_ble_eq_true rfl)) dX4_readTest_45 ⟨Nat.le_of_ble_eq_true rfl, Nat.le_of_ble_eq_true rfl⟩) hS (fun q _ h => hFc q h) hFc (fun r u t H1 locs ht hvm hw hB hz1 hk1 hS => ?_)
              obtain ⟨hP1, hD1⟩ := hB
              rw [ht] at hP1
              rcases hw with ⟨i_97, i_98, rfl, rfl⟩ | ⟨rfl, rfl⟩
              ·
                have i_97 : k_at.toInt ≤ 400 := i_97
                have i_98 : f_kd k_at.toNatClampNeg = (261 : Int32) := i_98
                obtain ⟨hP, hD⟩ := va_join (wr := [(a_nm, (arI G 401 f_nm)), (a_rc, (arI G 400 k_rc))]) hP hD [2, 3, 4] [0, 1] rfl rfl (by decide) (by decide) hk1 hFc hP1 hD1
                generalize H1 = H at hP hS ⊢
                refine g5_rs [(a_nm, (arI G 401 f_nm)), (a_rc, (arI G 400 k_rc)), (a_r, (oc4 a_tk a_rh a_rs a_rc k_ln k_pa k_at e_fp)), (a_tk, (oc8 a_kd a_nm a_pl)), (a_kd, (arI G 401 f_kd))] hP hD (fun hP hD => ?_)
                refine lv_istore (lv' := [(4, .int 1), (2, .int k_w), (3, .int k_i), (0, .ref a_r), (1, .int p_d)]) hx hb dX4_readTest_48 hl (by decide) rfl (fun ls hl => ?_)
                refine lv_aload_n hx hb dX4_readTest_50 rfl (lv_at hl 3 rfl) ?_
                refine lv_dup hx hb dX4_readTest_51 rfl ?_
                refine va_get (D := G.1) (ci := 4) (v := .int k_at) (C := RX4) (T := TX4) (N := 8) hx hb hts inG_X4 hown hK hP 2 rfl rfl 6 (by decide) (hts _ fl_X4_42) (fun _ h9 => h9) rfl dX4_readTest_52 ?_
                refine lv_iconst (v := 1) hx hb dX4_readTest_55 (by decide) ?_
                refine lv_iadd hx hb dX4_readTest_56 ?_
                have t_99 : (k_at + 1).toInt = k_at.toInt + 1 := g5_iadd (a := k_at.toInt) (b := 1) (by rfl) (by decide) (by omega) (by omega)
                refine va_put (D := G.1) (ci := 4) (v := .int (k_at + 1)) (ty := .int) (C := RX4) (T := TX4) (N := 8) hx hb hts inG_X4 tyX4 tyX4_ok nmX4 hown hK hP hD hS 2 rfl rfl 6 (by decide) (hts _ fl_X4_42) (fun _ h9 => h9) rfl (by decide +kernel) rfl rfl (Nat.le_of_ble_eq_true rfl) dX4_readTest_57 (fun H locs hP hD hS => ?_)
                refine g5_rs [(a_nm, (arI G 401 f_nm)), (a_rc, (arI G 400 k_rc)), (a_r, (oc4 a_tk a_rh a_rs a_rc k_ln k_pa (k_at + 1) e_fp)), (a_tk, (oc8 a_kd a_nm a_pl)), (a_kd, (arI G 401 f_kd))] hP hD (fun hP hD => ?_)
                refine lv_iload hx hb dX4_readTest_60 (lv_at hl 0 rfl) ?_
                refine lv_if_eq (tgt := 70) hx hb dX4_readTest_62 (by decide) (fun c_100 => ?_) (fun c_100 => ?_)
                ·
                  exact absurd c_100 (by decide)
                ·
                  refine lv_aload_n hx hb dX4_readTest_65 rfl (lv_at hl 3 rfl) ?_
                  refine lv_iload_n hx hb dX4_readTest_66 rfl (lv_at hl 1 rfl) ?_
                  obtain ⟨hPc, hDc, hFc⟩ := g5_sub3 (wc := [(a_r, (oc4 a_tk a_rh a_rs a_rc k_ln k_pa (k_at + 1) e_fp)), (a_rc, (arI G 400 k_rc))]) hP hD hS hA [2, 1] (by decide) rfl
                  refine va_callv (va_runV (As := [.int k_w]) (rest := []) ⟨hx, hb, hml, hown, hts⟩ (r_jump l G a_r a_rc a_tk a_rh a_rs H.size k_ln k_pa (k_at + 1) e_fp k_w k_rc i_16 i_17 ⟨by omega, by omega⟩ (i_20) (i_22)) (cwV 1 hts gV_X4_86 rfl rfl rfl hv_X4_jumpHere ⟨by simp only [headSpec]; omega, by simp only [headSpec]; omega⟩) (g5_preV hPc hK hDc hN hT hS hFc (ci := 4) (q0 := 0) rfl rfl) rfl rfl hl.1 rfl (lv_room (Nat.le_of_ble_eq_true rfl)) dX4_readTest_67 ⟨Nat.le_of_ble_eq_true rfl, Nat.le_of_ble_eq_true rfl⟩) hS (fun q _ h => hFc q h) hFc (fun u t H1 locs ht hvm hw hB hz1 hk1 hS => ?_)
                  obtain ⟨hP1, hD1⟩ := hB
                  rw [ht] at hP1
                  obtain ⟨z103, i_101, i_102, rfl⟩ := hw
                  have i_101 : CDI z103 k_ln.toInt := i_101
                  have i_102 : OPK k_rc z103 k_ln.toInt := i_102
                  obtain ⟨hP, hD⟩ := va_join (wr := [(a_nm, (arI G 401 f_nm)), (a_tk, (oc8 a_kd a_nm a_pl)), (a_kd, (arI G 401 f_kd))]) hP hD [2, 1] [0, 3, 4] rfl rfl (by decide) (by decide) hk1 hFc hP1 hD1
                  generalize H1 = H at hP hS ⊢
                  refine g5_rs [(a_nm, (arI G 401 f_nm)), (a_tk, (oc8 a_kd a_nm a_pl)), (a_kd, (arI G 401 f_kd)), (a_r, (oc4 a_tk a_rh a_rs a_rc k_ln k_pa (k_at + 1) e_fp)), (a_rc, (arI G 400 z103))] hP hD (fun hP hD => ?_)
                  refine lv_aload_n hx hb dX4_readTest_70 rfl (lv_at hl 3 rfl) ?_
                  refine lv_iload hx hb dX4_readTest_71 (lv_at hl 0 rfl) ?_
                  refine lv_if_eq (tgt := 81) hx hb dX4_readTest_73 (by decide) (fun c_104 => ?_) (fun c_104 => ?_)
                  ·
                    exact absurd c_104 (by decide)
                  ·
                    refine lv_bipush (v := 11) hx hb dX4_readTest_76 (by decide) ?_
                    refine lv_goto (tgt := 83) hx hb dX4_readTest_78 (by decide) ?_
                    refine lv_iconst (v := 0) hx hb dX4_readTest_83 (by decide) ?_
                    obtain ⟨hPc, hDc, hFc⟩ := g5_sub3 (wc := [(a_r, (oc4 a_tk a_rh a_rs a_rc k_ln k_pa (k_at + 1) e_fp)), (a_rc, (arI G 400 z103))]) hP hD hS hA [3, 4] (by decide) rfl
                    refine va_calli (va_runV (As := [.int 11, .int 0]) (rest := []) ⟨hx, hb, hml, hown, hts⟩ (r_emit l G a_r a_rc a_tk a_rh a_rs H.size k_ln k_pa (k_at + 1) e_fp 11 0 z103 i_16 i_17 ⟨by omega, by omega⟩ (i_101) (by unfold wOK; decide)) (cwV 2 hts gV_X4_79 rfl rfl rfl hv_X4_emit ⟨by simp only [headSpec]; omega, by simp only [headSpec]; omega⟩) (g5_preV hPc hK hDc hN hT hS hFc (ci := 4) (q0 := 0) rfl rfl) rfl rfl hl.1 rfl (lv_room (Nat.le_of_ble_eq_true rfl)) dX4_readTest_84 ⟨Nat.le_of_ble_eq_true rfl, Nat.le_of_ble_eq_true rfl⟩) hS (fun q _ h => hFc q h) hFc (fun r u t H1 locs ht hvm hw hB hz1 hk1 hS => ?_)
                    obtain ⟨hP1, hD1⟩ := hB
                    rw [ht] at hP1
                    obtain ⟨z110, z111, z112, i_105, i_106, i_107, i_108, i_109, y113, rfl⟩ := hw
                    have i_105 : -1 ≤ z110.toInt ∧ z110.toInt ≤ 399 := i_105
                    have i_106 : k_ln.toInt ≤ z111.toInt ∧ z111.toInt ≤ 400 := i_106
                    have i_107 : CDI z112 z111.toInt := i_107
                    have i_108 : OPK z103 z112 k_ln.toInt := i_108
                    have i_109 : 0 ≤ z110.toInt → z110.toInt < z111.toInt ∧ z112 z110.toNatClampNeg = (((11 : Int32) <<< (12 &&& 31)) ||| (0 : Int32)) := i_109
                    obtain ⟨hP, hD⟩ := va_join (wr := [(a_nm, (arI G 401 f_nm)), (a_tk, (oc8 a_kd a_nm a_pl)), (a_kd, (arI G 401 f_kd))]) hP hD [3, 4] [0, 1, 2] rfl rfl (by decide) (by decide) hk1 hFc hP1 hD1
                    generalize H1 = H at hP hS ⊢
                    refine g5_rs [(a_nm, (arI G 401 f_nm)), (a_tk, (oc8 a_kd a_nm a_pl)), (a_kd, (arI G 401 f_kd)), (a_r, (oc4 a_tk a_rh a_rs a_rc z111 k_pa (k_at + 1) e_fp)), (a_rc, (arI G 400 z112))] hP hD (fun hP hD => ?_)
                    refine g5_ti (v := z110) y113 ?_
                    refine lv_istore (lv' := [(5, .int z110), (4, .int 1), (2, .int k_w), (3, .int k_i), (0, .ref a_r), (1, .int p_d)]) hx hb dX4_readTest_87 hl (by decide) rfl (fun ls hl => ?_)
                    refine lv_aload_n hx hb dX4_readTest_89 rfl (lv_at hl 4 rfl) ?_
                    refine lv_iload_n hx hb dX4_readTest_90 rfl (lv_at hl 5 rfl) ?_
                    obtain ⟨hPc, hDc, hFc⟩ := g5_sub3 (wc := [(a_r, (oc4 a_tk a_rh a_rs a_rc z111 k_pa (k_at + 1) e_fp)), (a_tk, (oc8 a_kd a_nm a_pl)), (a_kd, (arI G 401 f_kd)), (a_nm, (arI G 401 f_nm)), (a_rc, (arI G 400 z112))]) hP hD hS hA [3, 1, 2, 0, 4] (by decide) rfl
                    refine va_calli (va_runV (As := [.int p_d]) (rest := []) ⟨hx, hb, hml, hown, hts⟩ ((r_plain fr lo f2 l2 p_d h_p_d h_sum h_test) l G a_r a_tk a_kd a_nm a_rc a_rh a_rs a_pl H.size z111 k_pa (k_at + 1) e_fp f_kd f_nm z112 ⟨by omega, by omega⟩ i_17 ⟨by omega, by omega⟩ (e_tk) (i_107)) (cwV 1 hts gV_X4_83 rfl rfl rfl hv_X4_readPlain ⟨by simp only [headSpec]; omega, by simp only [headSpec]; omega⟩) (g5_preV hPc hK hDc hN hT hS hFc (ci := 4) (q0 := 0) rfl rfl) rfl rfl hl.1 rfl (lv_room (Nat.le_of_ble_eq_true rfl)) dX4_readTest_91 ⟨Nat.le_of_ble_eq_true rfl, Nat.le_of_ble_eq_true rfl⟩) hS (fun q _ h => hFc q h) hFc (fun r u t H1 locs ht hvm hw hB hz1 hk1 hS => ?_)
                    obtain ⟨hP1, hD1⟩ := hB
                    rw [ht] at hP1
                    obtain ⟨z120, z121, z122, z123, z124, i_114, i_115, i_116, i_117, i_118, i_119, y125, rfl⟩ := hw
                    have i_114 : 0 ≤ z120.toInt ∧ z120.toInt ≤ 1 := i_114
                    have i_115 : z111.toInt ≤ z121.toInt ∧ z121.toInt ≤ 400 := i_115
                    have i_116 : 0 ≤ z123.toInt ∧ z123.toInt ≤ 401 := i_116
                    have i_117 : 0 ≤ z122.toInt ∧ z122.toInt ≤ 50 := i_117
                    have i_118 : CDI z124 z121.toInt := i_118
                    have i_119 : OPK z112 z124 z111.toInt := i_119
                    obtain ⟨hP, hD⟩ := va_join (wr := []) hP hD [3, 1, 2, 0, 4] [] rfl rfl (by decide) (by decide) hk1 hFc hP1 hD1
                    generalize H1 = H at hP hS ⊢
                    refine g5_rs [(a_r, (oc4 a_tk a_rh a_rs a_rc z121 z122 z123 e_fp)), (a_tk, (oc8 a_kd a_nm a_pl)), (a_kd, (arI G 401 f_kd)), (a_nm, (arI G 401 f_nm)), (a_rc, (arI G 400 z124))] hP hD (fun hP hD => ?_)
                    refine g5_ti (v := z120) y125 ?_
                    refine lv_if_ne (tgt := 99) hx hb dX4_readTest_94 (by decide) (fun c_126 => ?_) (fun c_126 => ?_)
                    ·
                      have n_126 : gNe (z120.toInt) (0) := by have z := g5_ne (a := z120.toInt) (b := 0) (by rfl) (by decide) c_126; unfold gNe; omega
                      have i_126 : z120.toInt ≥ 1 := by have z := g5_ne (a := z120.toInt) (b := 0) (by rfl) (by decide) c_126; omega
                      refine lv_iload hx hb dX4_readTest_99 (lv_at hl 1 rfl) ?_
                      refine lv_if_eq (tgt := 110) hx hb dX4_readTest_101 (by decide) (fun c_127 => ?_) (fun c_127 => ?_)
                      ·
                        exact absurd c_127 (by decide)
                      ·
                        refine lv_iload hx hb dX4_readTest_104 (lv_at hl 0 rfl) ?_
                        refine lv_istore_n (lv' := [(2, .int z110), (5, .int z110), (4, .int 1), (3, .int k_i), (0, .ref a_r), (1, .int p_d)]) hx hb dX4_readTest_106 rfl hl (by decide) rfl (fun ls hl => ?_)
                        refine lv_goto (tgt := 116) hx hb dX4_readTest_107 (by decide) ?_
                        refine lv_iinc (v := (k_i + 1)) (lv' := [(3, .int (k_i + 1)), (2, .int z110), (5, .int z110), (4, .int 1), (0, .ref a_r), (1, .int p_d)]) hx hb dX4_readTest_116 hl (k := 3) rfl rfl (by decide) rfl (fun ls hl => ?_)
                        have t_128 : (k_i + 1).toInt = k_i.toInt + 1 := g5_iadd (a := k_i.toInt) (b := 1) rfl (by decide) (by omega) (by omega)
                        refine lv_goto (tgt := 14) hx hb dX4_readTest_119 (by decide) ?_
                        exact ih_14_23 (z110, (k_i + 1), z121, z122, z123, z124) ls H locs (show Int.toNat (400 - (k_i + 1).toInt) < Int.toNat (400 - k_i.toInt) from g_up (show k_i.toInt < (k_i + 1).toInt by omega) (show k_i.toInt < 400 by omega)) ⟨lv_sub hl [1, 0, 4, 5] rfl, hP, hD, hS, ⟨by omega, by omega⟩, ⟨by omega, by omega⟩, ⟨by omega, by omega⟩, i_117, i_116, by omega, i_118, opk_trans i_21 (opk_trans i_102 (opk_trans i_108 (i_119) (by omega)) (by omega)) (by omega), jok_opk (jok_emit i_109 (by decide)) (i_119) (by omega)⟩
                    ·
                      have i_126 : z120.toInt = 0 := by have z := g5_neN (a := z120.toInt) (b := 0) (by rfl) (by decide) c_126; omega
                      refine lv_iconst (v := 0) hx hb dX4_readTest_97 (by decide) ?_
                      exact W.zret (v := 0) hx hb hr rfl (fun t ht hW => ⟨⟨0, [(a_r, (oc4 a_tk a_rh a_rs a_rc z121 z122 z123 e_fp)), (a_tk, (oc8 a_kd a_nm a_pl)), (a_kd, (arI G 401 f_kd)), (a_nm, (arI G 401 f_nm)), (a_rc, (arI G 400 z124))], rfl, ⟨0, z121, z122, z123, z124, ⟨by have zc_o_r : (0 : Int32).toInt = 0 := (by decide); omega, by have zc_o_r : (0 : Int32).toInt = 0 := (by decide); omega⟩, ⟨by omega, by omega⟩, i_116, i_117, i_118, opk_trans i_21 (opk_trans i_102 (opk_trans i_108 (i_119) (by omega)) (by omega)) (by omega), rfl, rfl⟩, by rw [ht]; exact hP.sub [0, 1, 2, 3, 4] rfl, hD.sub [0, 1, 2, 3, 4] (by decide) rfl⟩, hS.F ht⟩) hS.2.2 dX4_readTest_98
              ·
                obtain ⟨hP, hD⟩ := va_join (wr := [(a_nm, (arI G 401 f_nm)), (a_rc, (arI G 400 k_rc))]) hP hD [2, 3, 4] [0, 1] rfl rfl (by decide) (by decide) hk1 hFc hP1 hD1
                generalize H1 = H at hP hS ⊢
                refine g5_rs [(a_nm, (arI G 401 f_nm)), (a_rc, (arI G 400 k_rc)), (a_r, (oc4 a_tk a_rh a_rs a_rc k_ln k_pa k_at e_fp)), (a_tk, (oc8 a_kd a_nm a_pl)), (a_kd, (arI G 401 f_kd))] hP hD (fun hP hD => ?_)
                refine lv_istore (lv' := [(4, .int 0), (2, .int k_w), (3, .int k_i), (0, .ref a_r), (1, .int p_d)]) hx hb dX4_readTest_48 hl (by decide) rfl (fun ls hl => ?_)
                refine lv_aload_n hx hb dX4_readTest_50 rfl (lv_at hl 3 rfl) ?_
                refine lv_dup hx hb dX4_readTest_51 rfl ?_
                refine va_get (D := G.1) (ci := 4) (v := .int k_at) (C := RX4) (T := TX4) (N := 8) hx hb hts inG_X4 hown hK hP 2 rfl rfl 6 (by decide) (hts _ fl_X4_42) (fun _ h9 => h9) rfl dX4_readTest_52 ?_
                refine lv_iconst (v := 1) hx hb dX4_readTest_55 (by decide) ?_
                refine lv_iadd hx hb dX4_readTest_56 ?_
                have t_129 : (k_at + 1).toInt = k_at.toInt + 1 := g5_iadd (a := k_at.toInt) (b := 1) (by rfl) (by decide) (by omega) (by omega)
                refine va_put (D := G.1) (ci := 4) (v := .int (k_at + 1)) (ty := .int) (C := RX4) (T := TX4) (N := 8) hx hb hts inG_X4 tyX4 tyX4_ok nmX4 hown hK hP hD hS 2 rfl rfl 6 (by decide) (hts _ fl_X4_42) (fun _ h9 => h9) rfl (by decide +kernel) rfl rfl (Nat.le_of_ble_eq_true rfl) dX4_readTest_57 (fun H locs hP hD hS => ?_)
                refine g5_rs [(a_nm, (arI G 401 f_nm)), (a_rc, (arI G 400 k_rc)), (a_r, (oc4 a_tk a_rh a_rs a_rc k_ln k_pa (k_at + 1) e_fp)), (a_tk, (oc8 a_kd a_nm a_pl)), (a_kd, (arI G 401 f_kd))] hP hD (fun hP hD => ?_)
                refine lv_iload hx hb dX4_readTest_60 (lv_at hl 0 rfl) ?_
                refine lv_if_eq (tgt := 70) hx hb dX4_readTest_62 (by decide) (fun c_130 => ?_) (fun c_130 => ?_)
                ·
                  refine lv_aload_n hx hb dX4_readTest_70 rfl (lv_at hl 3 rfl) ?_
                  refine lv_iload hx hb dX4_readTest_71 (lv_at hl 0 rfl) ?_
                  refine lv_if_eq (tgt := 81) hx hb dX4_readTest_73 (by decide) (fun c_131 => ?_) (fun c_131 => ?_)
                  ·
                    refine lv_bipush (v := 12) hx hb dX4_readTest_81 (by decide) ?_
                    refine lv_iconst (v := 0) hx hb dX4_readTest_83 (by decide) ?_
                    obtain ⟨hPc, hDc, hFc⟩ := g5_sub3 (wc := [(a_r, (oc4 a_tk a_rh a_rs a_rc k_ln k_pa (k_at + 1) e_fp)), (a_rc, (arI G 400 k_rc))]) hP hD hS hA [2, 1] (by decide) rfl
                    refine va_calli (va_runV (As := [.int 12, .int 0]) (rest := []) ⟨hx, hb, hml, hown, hts⟩ (r_emit l G a_r a_rc a_tk a_rh a_rs H.size k_ln k_pa (k_at + 1) e_fp 12 0 k_rc i_16 i_17 ⟨by omega, by omega⟩ (i_20) (by unfold wOK; decide)) (cwV 2 hts gV_X4_79 rfl rfl rfl hv_X4_emit ⟨by simp only [headSpec]; omega, by simp only [headSpec]; omega⟩) (g5_preV hPc hK hDc hN hT hS hFc (ci := 4) (q0 := 0) rfl rfl) rfl rfl hl.1 rfl (lv_room (Nat.le_of_ble_eq_true rfl)) dX4_readTest_84 ⟨Nat.le_of_ble_eq_true rfl, Nat.le_of_ble_eq_true rfl⟩) hS (fun q _ h => hFc q h) hFc (fun r u t H1 locs ht hvm hw hB hz1 hk1 hS => ?_)
                    obtain ⟨hP1, hD1⟩ := hB
                    rw [ht] at hP1
                    obtain ⟨z137, z138, z139, i_132, i_133, i_134, i_135, i_136, y140, rfl⟩ := hw
                    have i_132 : -1 ≤ z137.toInt ∧ z137.toInt ≤ 399 := i_132
                    have i_133 : k_ln.toInt ≤ z138.toInt ∧ z138.toInt ≤ 400 := i_133
                    have i_134 : CDI z139 z138.toInt := i_134
                    have i_135 : OPK k_rc z139 k_ln.toInt := i_135
                    have i_136 : 0 ≤ z137.toInt → z137.toInt < z138.toInt ∧ z139 z137.toNatClampNeg = (((12 : Int32) <<< (12 &&& 31)) ||| (0 : Int32)) := i_136
                    obtain ⟨hP, hD⟩ := va_join (wr := [(a_nm, (arI G 401 f_nm)), (a_tk, (oc8 a_kd a_nm a_pl)), (a_kd, (arI G 401 f_kd))]) hP hD [2, 1] [0, 3, 4] rfl rfl (by decide) (by decide) hk1 hFc hP1 hD1
                    generalize H1 = H at hP hS ⊢
                    refine g5_rs [(a_nm, (arI G 401 f_nm)), (a_tk, (oc8 a_kd a_nm a_pl)), (a_kd, (arI G 401 f_kd)), (a_r, (oc4 a_tk a_rh a_rs a_rc z138 k_pa (k_at + 1) e_fp)), (a_rc, (arI G 400 z139))] hP hD (fun hP hD => ?_)
                    refine g5_ti (v := z137) y140 ?_
                    refine lv_istore (lv' := [(5, .int z137), (4, .int 0), (2, .int k_w), (3, .int k_i), (0, .ref a_r), (1, .int p_d)]) hx hb dX4_readTest_87 hl (by decide) rfl (fun ls hl => ?_)
                    refine lv_aload_n hx hb dX4_readTest_89 rfl (lv_at hl 4 rfl) ?_
                    refine lv_iload_n hx hb dX4_readTest_90 rfl (lv_at hl 5 rfl) ?_
                    obtain ⟨hPc, hDc, hFc⟩ := g5_sub3 (wc := [(a_r, (oc4 a_tk a_rh a_rs a_rc z138 k_pa (k_at + 1) e_fp)), (a_tk, (oc8 a_kd a_nm a_pl)), (a_kd, (arI G 401 f_kd)), (a_nm, (arI G 401 f_nm)), (a_rc, (arI G 400 z139))]) hP hD hS hA [3, 1, 2, 0, 4] (by decide) rfl
                    refine va_calli (va_runV (As := [.int p_d]) (rest := []) ⟨hx, hb, hml, hown, hts⟩ ((r_plain fr lo f2 l2 p_d h_p_d h_sum h_test) l G a_r a_tk a_kd a_nm a_rc a_rh a_rs a_pl H.size z138 k_pa (k_at + 1) e_fp f_kd f_nm z139 ⟨by omega, by omega⟩ i_17 ⟨by omega, by omega⟩ (e_tk) (i_134)) (cwV 1 hts gV_X4_83 rfl rfl rfl hv_X4_readPlain ⟨by simp only [headSpec]; omega, by simp only [headSpec]; omega⟩) (g5_preV hPc hK hDc hN hT hS hFc (ci := 4) (q0 := 0) rfl rfl) rfl rfl hl.1 rfl (lv_room (Nat.le_of_ble_eq_true rfl)) dX4_readTest_91 ⟨Nat.le_of_ble_eq_true rfl, Nat.le_of_ble_eq_true rfl⟩) hS (fun q _ h => hFc q h) hFc (fun r u t H1 locs ht hvm hw hB hz1 hk1 hS => ?_)
                    obtain ⟨hP1, hD1⟩ := hB
                    rw [ht] at hP1
                    obtain ⟨z147, z148, z149, z150, z151, i_141, i_142, i_143, i_144, i_145, i_146, y152, rfl⟩ := hw
                    have i_141 : 0 ≤ z147.toInt ∧ z147.toInt ≤ 1 := i_141
                    have i_142 : z138.toInt ≤ z148.toInt ∧ z148.toInt ≤ 400 := i_142
                    have i_143 : 0 ≤ z150.toInt ∧ z150.toInt ≤ 401 := i_143
                    have i_144 : 0 ≤ z149.toInt ∧ z149.toInt ≤ 50 := i_144
                    have i_145 : CDI z151 z148.toInt := i_145
                    have i_146 : OPK z139 z151 z138.toInt := i_146
                    obtain ⟨hP, hD⟩ := va_join (wr := []) hP hD [3, 1, 2, 0, 4] [] rfl rfl (by decide) (by decide) hk1 hFc hP1 hD1
                    generalize H1 = H at hP hS ⊢
                    refine g5_rs [(a_r, (oc4 a_tk a_rh a_rs a_rc z148 z149 z150 e_fp)), (a_tk, (oc8 a_kd a_nm a_pl)), (a_kd, (arI G 401 f_kd)), (a_nm, (arI G 401 f_nm)), (a_rc, (arI G 400 z151))] hP hD (fun hP hD => ?_)
                    refine g5_ti (v := z147) y152 ?_
                    refine lv_if_ne (tgt := 99) hx hb dX4_readTest_94 (by decide) (fun c_153 => ?_) (fun c_153 => ?_)
                    ·
                      have n_153 : gNe (z147.toInt) (0) := by have z := g5_ne (a := z147.toInt) (b := 0) (by rfl) (by decide) c_153; unfold gNe; omega
                      have i_153 : z147.toInt ≥ 1 := by have z := g5_ne (a := z147.toInt) (b := 0) (by rfl) (by decide) c_153; omega
                      refine lv_iload hx hb dX4_readTest_99 (lv_at hl 1 rfl) ?_
                      refine lv_if_eq (tgt := 110) hx hb dX4_readTest_101 (by decide) (fun c_154 => ?_) (fun c_154 => ?_)
                      ·
                        refine lv_aload_n hx hb dX4_readTest_110 rfl (lv_at hl 4 rfl) ?_
                        refine lv_iload hx hb dX4_readTest_111 (lv_at hl 0 rfl) ?_
                        obtain ⟨hPc, hDc, hFc⟩ := g5_sub3 (wc := [(a_r, (oc4 a_tk a_rh a_rs a_rc z148 z149 z150 e_fp)), (a_rc, (arI G 400 z151))]) hP hD hS hA [0, 4] (by decide) rfl
                        refine va_callv (va_runV (As := [.int z137]) (rest := []) ⟨hx, hb, hml, hown, hts⟩ (r_jump l G a_r a_rc a_tk a_rh a_rs H.size z148 z149 z150 e_fp z137 z151 ⟨by omega, by omega⟩ i_144 i_143 (i_145) (jok_opk (jok_emit i_136 (by decide)) (i_146) (by omega))) (cwV 1 hts gV_X4_86 rfl rfl rfl hv_X4_jumpHere ⟨by simp only [headSpec]; omega, by simp only [headSpec]; omega⟩) (g5_preV hPc hK hDc hN hT hS hFc (ci := 4) (q0 := 0) rfl rfl) rfl rfl hl.1 rfl (lv_room (Nat.le_of_ble_eq_true rfl)) dX4_readTest_113 ⟨Nat.le_of_ble_eq_true rfl, Nat.le_of_ble_eq_true rfl⟩) hS (fun q _ h => hFc q h) hFc (fun u t H1 locs ht hvm hw hB hz1 hk1 hS => ?_)
                        obtain ⟨hP1, hD1⟩ := hB
                        rw [ht] at hP1
                        obtain ⟨z157, i_155, i_156, rfl⟩ := hw
                        have i_155 : CDI z157 z148.toInt := i_155
                        have i_156 : OPK z151 z157 z148.toInt := i_156
                        obtain ⟨hP, hD⟩ := va_join (wr := [(a_tk, (oc8 a_kd a_nm a_pl)), (a_kd, (arI G 401 f_kd)), (a_nm, (arI G 401 f_nm))]) hP hD [0, 4] [1, 2, 3] rfl rfl (by decide) (by decide) hk1 hFc hP1 hD1
                        generalize H1 = H at hP hS ⊢
                        refine g5_rs [(a_tk, (oc8 a_kd a_nm a_pl)), (a_kd, (arI G 401 f_kd)), (a_nm, (arI G 401 f_nm)), (a_r, (oc4 a_tk a_rh a_rs a_rc z148 z149 z150 e_fp)), (a_rc, (arI G 400 z157))] hP hD (fun hP hD => ?_)
                        refine lv_iinc (v := (k_i + 1)) (lv' := [(3, .int (k_i + 1)), (5, .int z137), (4, .int 0), (2, .int k_w), (0, .ref a_r), (1, .int p_d)]) hx hb dX4_readTest_116 hl (k := 3) rfl rfl (by decide) rfl (fun ls hl => ?_)
                        have t_158 : (k_i + 1).toInt = k_i.toInt + 1 := g5_iadd (a := k_i.toInt) (b := 1) rfl (by decide) (by omega) (by omega)
                        refine lv_goto (tgt := 14) hx hb dX4_readTest_119 (by decide) ?_
                        exact ih_14_23 (k_w, (k_i + 1), z148, z149, z150, z157) ls H locs (show Int.toNat (400 - (k_i + 1).toInt) < Int.toNat (400 - k_i.toInt) from g_up (show k_i.toInt < (k_i + 1).toInt by omega) (show k_i.toInt < 400 by omega)) ⟨lv_sub hl [3, 0, 4, 5] rfl, hP.sub [3, 0, 1, 2, 4] rfl, hD.sub [3, 0, 1, 2, 4] (by decide) rfl, hS, i_14, ⟨by omega, by omega⟩, ⟨by omega, by omega⟩, i_144, i_143, by omega, i_155, opk_trans i_21 (opk_trans i_135 (opk_trans i_146 (i_156) (by omega)) (by omega)) (by omega), jok_opk i_22 (opk_trans i_135 (opk_trans i_146 (i_156) (by omega)) (by omega)) (by omega)⟩
                      ·
                        exact absurd c_154 (by decide)
                    ·
                      have i_153 : z147.toInt = 0 := by have z := g5_neN (a := z147.toInt) (b := 0) (by rfl) (by decide) c_153; omega
                      refine lv_iconst (v := 0) hx hb dX4_readTest_97 (by decide) ?_
                      exact W.zret (v := 0) hx hb hr rfl (fun t ht hW => ⟨⟨0, [(a_r, (oc4 a_tk a_rh a_rs a_rc z148 z149 z150 e_fp)), (a_tk, (oc8 a_kd a_nm a_pl)), (a_kd, (arI G 401 f_kd)), (a_nm, (arI G 401 f_nm)), (a_rc, (arI G 400 z151))], rfl, ⟨0, z148, z149, z150, z151, ⟨by have zc_o_r : (0 : Int32).toInt = 0 := (by decide); omega, by have zc_o_r : (0 : Int32).toInt = 0 := (by decide); omega⟩, ⟨by omega, by omega⟩, i_143, i_144, i_145, opk_trans i_21 (opk_trans i_135 (i_146) (by omega)) (by omega), rfl, rfl⟩, by rw [ht]; exact hP.sub [0, 1, 2, 3, 4] rfl, hD.sub [0, 1, 2, 3, 4] (by decide) rfl⟩, hS.F ht⟩) hS.2.2 dX4_readTest_98
                  ·
                    exact absurd c_131 (by decide)
                ·
                  exact absurd c_130 (by decide)
          ·
            obtain ⟨hP, hD⟩ := va_join (wr := [(a_nm, (arI G 401 f_nm)), (a_rc, (arI G 400 k_rc))]) hP hD [2, 3, 4] [0, 1] rfl rfl (by decide) (by decide) hk1 hFc hP1 hD1
            generalize H1 = H at hP hS ⊢
            refine g5_rs [(a_nm, (arI G 401 f_nm)), (a_rc, (arI G 400 k_rc)), (a_r, (oc4 a_tk a_rh a_rs a_rc k_ln k_pa k_at e_fp)), (a_tk, (oc8 a_kd a_nm a_pl)), (a_kd, (arI G 401 f_kd))] hP hD (fun hP hD => ?_)
            refine lv_if_eq (tgt := 122) hx hb dX4_readTest_38 (by decide) (fun c_159 => ?_) (fun c_159 => ?_)
            ·
              refine lv_aload_n hx hb dX4_readTest_122 rfl (lv_at hl 2 rfl) ?_
              refine lv_iload_n hx hb dX4_readTest_123 rfl (lv_at hl 0 rfl) ?_
              obtain ⟨hPc, hDc, hFc⟩ := g5_sub3 (wc := [(a_r, (oc4 a_tk a_rh a_rs a_rc k_ln k_pa k_at e_fp)), (a_rc, (arI G 400 k_rc))]) hP hD hS hA [2, 1] (by decide) rfl
              refine va_callv (va_runV (As := [.int k_w]) (rest := []) ⟨hx, hb, hml, hown, hts⟩ (r_jump l G a_r a_rc a_tk a_rh a_rs H.size k_ln k_pa k_at e_fp k_w k_rc i_16 i_17 i_18 (i_20) (i_22)) (cwV 1 hts gV_X4_86 rfl rfl rfl hv_X4_jumpHere ⟨by simp only [headSpec]; omega, by simp only [headSpec]; omega⟩) (g5_preV hPc hK hDc hN hT hS hFc (ci := 4) (q0 := 0) rfl rfl) rfl rfl hl.1 rfl (lv_room (Nat.le_of_ble_eq_true rfl)) dX4_readTest_124 ⟨Nat.le_of_ble_eq_true rfl, Nat.le_of_ble_eq_true rfl⟩) hS (fun q _ h => hFc q h) hFc (fun u t H1 locs ht hvm hw hB hz1 hk1 hS => ?_)
              obtain ⟨hP1, hD1⟩ := hB
              rw [ht] at hP1
              obtain ⟨z162, i_160, i_161, rfl⟩ := hw
              have i_160 : CDI z162 k_ln.toInt := i_160
              have i_161 : OPK k_rc z162 k_ln.toInt := i_161
              obtain ⟨hP, hD⟩ := va_join (wr := [(a_nm, (arI G 401 f_nm)), (a_tk, (oc8 a_kd a_nm a_pl)), (a_kd, (arI G 401 f_kd))]) hP hD [2, 1] [0, 3, 4] rfl rfl (by decide) (by decide) hk1 hFc hP1 hD1
              generalize H1 = H at hP hS ⊢
              refine g5_rs [(a_nm, (arI G 401 f_nm)), (a_tk, (oc8 a_kd a_nm a_pl)), (a_kd, (arI G 401 f_kd)), (a_r, (oc4 a_tk a_rh a_rs a_rc k_ln k_pa k_at e_fp)), (a_rc, (arI G 400 z162))] hP hD (fun hP hD => ?_)
              refine lv_iconst (v := 1) hx hb dX4_readTest_127 (by decide) ?_
              exact W.zret (v := 1) hx hb hr rfl (fun t ht hW => ⟨⟨1, [(a_r, (oc4 a_tk a_rh a_rs a_rc k_ln k_pa k_at e_fp)), (a_tk, (oc8 a_kd a_nm a_pl)), (a_kd, (arI G 401 f_kd)), (a_nm, (arI G 401 f_nm)), (a_rc, (arI G 400 z162))], rfl, ⟨1, k_ln, k_pa, k_at, z162, ⟨by have zc_o_r : (1 : Int32).toInt = 1 := (by decide); omega, by have zc_o_r : (1 : Int32).toInt = 1 := (by decide); omega⟩, ⟨by omega, by omega⟩, i_18, i_17, i_160, opk_trans i_21 (i_161) (by omega), rfl, rfl⟩, by rw [ht]; exact hP.sub [3, 1, 2, 0, 4] rfl, hD.sub [3, 1, 2, 0, 4] (by decide) rfl⟩, hS.F ht⟩) hS.2.2 dX4_readTest_128
            ·
              exact absurd c_159 (by decide)
  ·
    have i_13 : z7.toInt = 0 := by have z := g5_neN (a := z7.toInt) (b := 0) (by rfl) (by decide) c_13; omega
    refine lv_iconst (v := 0) hx hb dX4_readTest_8 (by decide) ?_
    exact W.zret (v := 0) hx hb hr rfl (fun t ht hW => ⟨⟨0, [(a_r, (oc4 a_tk a_rh a_rs a_rc z8 z9 z10 e_fp)), (a_tk, (oc8 a_kd a_nm a_pl)), (a_kd, (arI G 401 f_kd)), (a_nm, (arI G 401 f_nm)), (a_rc, (arI G 400 z11))], rfl, ⟨0, z8, z9, z10, z11, ⟨by have zc_o_r : (0 : Int32).toInt = 0 := (by decide); omega, by have zc_o_r : (0 : Int32).toInt = 0 := (by decide); omega⟩, ⟨by omega, by omega⟩, i_3, i_4, i_5, i_6, rfl, rfl⟩, by rw [ht]; exact hP.sub [0, 1, 2, 3, 4] rfl, hD.sub [0, 1, 2, 3, 4] (by decide) rfl⟩, hS.F ht⟩) hS.2.2 dX4_readTest_9
theorem r_sum8 (l : Launch) (G : g5_G) (a_r a_tk a_kd a_nm a_rc a_rh a_rs a_pl : Nat) (sz : Nat) (e_ln : Int32) (e_pa : Int32) (e_at : Int32) (e_fp : Int32) (f_kd : Nat → Int32) (f_nm : Nat → Int32) (f_rc : Nat → Int32) (h_e_ln : 0 ≤ e_ln.toInt ∧ e_ln.toInt ≤ 400) (h_e_pa : 0 ≤ e_pa.toInt ∧ e_pa.toInt ≤ 50) (h_e_at : 0 ≤ e_at.toInt ∧ e_at.toInt ≤ 401) (e_tk : TOKI f_kd f_nm) (e_cd : CDI f_rc e_ln.toInt) : Met l yX4_readSum (wsG yX4_readSum cX4_readSum 6 (some .boolean)) ({ frames := 0 + 2, cells := 0, slots := 0, locals := 0 + 48 }) (va_Pc [.ref a_r, .int 8] (g5_P G [(a_r, (oc4 a_tk a_rh a_rs a_rc e_ln e_pa e_at e_fp)), (a_tk, (oc8 a_kd a_nm a_pl)), (a_kd, (arI G 401 f_kd)), (a_nm, (arI G 401 f_nm)), (a_rc, (arI G 400 f_rc))] sz)) (va_Qi (fun (r : Int32) (u : va_W) => (∃ (o_r : Int32) (o_ln : Int32) (o_pa : Int32) (o_at : Int32) (o_rc : Nat → Int32), (0 ≤ o_r.toInt ∧ o_r.toInt ≤ 1) ∧ (e_ln.toInt ≤ o_ln.toInt ∧ o_ln.toInt ≤ 400) ∧ (0 ≤ o_at.toInt ∧ o_at.toInt ≤ 401) ∧ (0 ≤ o_pa.toInt ∧ o_pa.toInt ≤ 50) ∧ (CDI o_rc o_ln.toInt) ∧ (OPK f_rc o_rc e_ln.toInt) ∧ (r = o_r) ∧ (u = [(a_r, (oc4 a_tk a_rh a_rs a_rc o_ln o_pa o_at e_fp)), (a_tk, (oc8 a_kd a_nm a_pl)), (a_kd, (arI G 401 f_kd)), (a_nm, (arI G 401 f_nm)), (a_rc, (arI G 400 o_rc))]))) (g5_B G (va_A [(a_r, (oc4 a_tk a_rh a_rs a_rc e_ln e_pa e_at e_fp)), (a_tk, (oc8 a_kd a_nm a_pl)), (a_kd, (arI G 401 f_kd)), (a_nm, (arI G 401 f_nm)), (a_rc, (arI G 400 f_rc))] sz)) (va_A [(a_r, (oc4 a_tk a_rh a_rs a_rc e_ln e_pa e_at e_fp)), (a_tk, (oc8 a_kd a_nm a_pl)), (a_kd, (arI G 401 f_kd)), (a_nm, (arI G 401 f_nm)), (a_rc, (arI G 400 f_rc))] sz)) 0 0 (va_A [(a_r, (oc4 a_tk a_rh a_rs a_rc e_ln e_pa e_at e_fp)), (a_tk, (oc8 a_kd a_nm a_pl)), (a_kd, (arI G 401 f_kd)), (a_nm, (arI G 401 f_nm)), (a_rc, (arI G 400 f_rc))] sz) := r_sum 0 0 8 ⟨by decide, by decide⟩ (fun _ _ h => absurd h (by decide)) l G a_r a_tk a_kd a_nm a_rc a_rh a_rs a_pl sz e_ln e_pa e_at e_fp f_kd f_nm f_rc h_e_ln h_e_pa h_e_at e_tk e_cd
theorem r_test8 (l : Launch) (G : g5_G) (a_r a_tk a_kd a_nm a_rc a_rh a_rs a_pl : Nat) (sz : Nat) (e_ln : Int32) (e_pa : Int32) (e_at : Int32) (e_fp : Int32) (f_kd : Nat → Int32) (f_nm : Nat → Int32) (f_rc : Nat → Int32) (h_e_ln : 0 ≤ e_ln.toInt ∧ e_ln.toInt ≤ 400) (h_e_pa : 0 ≤ e_pa.toInt ∧ e_pa.toInt ≤ 50) (h_e_at : 0 ≤ e_at.toInt ∧ e_at.toInt ≤ 401) (e_tk : TOKI f_kd f_nm) (e_cd : CDI f_rc e_ln.toInt) : Met l yX4_readTest (wsG yX4_readTest cX4_readTest 6 (some .boolean)) ({ frames := 0 + 0 + 4, cells := 0, slots := 0, locals := 0 + 0 + 96 }) (va_Pc [.ref a_r, .int 8] (g5_P G [(a_r, (oc4 a_tk a_rh a_rs a_rc e_ln e_pa e_at e_fp)), (a_tk, (oc8 a_kd a_nm a_pl)), (a_kd, (arI G 401 f_kd)), (a_nm, (arI G 401 f_nm)), (a_rc, (arI G 400 f_rc))] sz)) (va_Qi (fun (r : Int32) (u : va_W) => (∃ (o_r : Int32) (o_ln : Int32) (o_pa : Int32) (o_at : Int32) (o_rc : Nat → Int32), (0 ≤ o_r.toInt ∧ o_r.toInt ≤ 1) ∧ (e_ln.toInt ≤ o_ln.toInt ∧ o_ln.toInt ≤ 400) ∧ (0 ≤ o_at.toInt ∧ o_at.toInt ≤ 401) ∧ (0 ≤ o_pa.toInt ∧ o_pa.toInt ≤ 50) ∧ (CDI o_rc o_ln.toInt) ∧ (OPK f_rc o_rc e_ln.toInt) ∧ (r = o_r) ∧ (u = [(a_r, (oc4 a_tk a_rh a_rs a_rc o_ln o_pa o_at e_fp)), (a_tk, (oc8 a_kd a_nm a_pl)), (a_kd, (arI G 401 f_kd)), (a_nm, (arI G 401 f_nm)), (a_rc, (arI G 400 o_rc))]))) (g5_B G (va_A [(a_r, (oc4 a_tk a_rh a_rs a_rc e_ln e_pa e_at e_fp)), (a_tk, (oc8 a_kd a_nm a_pl)), (a_kd, (arI G 401 f_kd)), (a_nm, (arI G 401 f_nm)), (a_rc, (arI G 400 f_rc))] sz)) (va_A [(a_r, (oc4 a_tk a_rh a_rs a_rc e_ln e_pa e_at e_fp)), (a_tk, (oc8 a_kd a_nm a_pl)), (a_kd, (arI G 401 f_kd)), (a_nm, (arI G 401 f_nm)), (a_rc, (arI G 400 f_rc))] sz)) 0 0 (va_A [(a_r, (oc4 a_tk a_rh a_rs a_rc e_ln e_pa e_at e_fp)), (a_tk, (oc8 a_kd a_nm a_pl)), (a_kd, (arI G 401 f_kd)), (a_nm, (arI G 401 f_nm)), (a_rc, (arI G 400 f_rc))] sz) := r_test 0 0 0 0 8 ⟨by decide, by decide⟩ (fun _ _ h => absurd h (by decide)) (fun _ _ h => absurd h (by decide)) l G a_r a_tk a_kd a_nm a_rc a_rh a_rs a_pl sz e_ln e_pa e_at e_fp f_kd f_nm f_rc h_e_ln h_e_pa h_e_at e_tk e_cd
theorem r_sum7 (l : Launch) (G : g5_G) (a_r a_tk a_kd a_nm a_rc a_rh a_rs a_pl : Nat) (sz : Nat) (e_ln : Int32) (e_pa : Int32) (e_at : Int32) (e_fp : Int32) (f_kd : Nat → Int32) (f_nm : Nat → Int32) (f_rc : Nat → Int32) (h_e_ln : 0 ≤ e_ln.toInt ∧ e_ln.toInt ≤ 400) (h_e_pa : 0 ≤ e_pa.toInt ∧ e_pa.toInt ≤ 50) (h_e_at : 0 ≤ e_at.toInt ∧ e_at.toInt ≤ 401) (e_tk : TOKI f_kd f_nm) (e_cd : CDI f_rc e_ln.toInt) : Met l yX4_readSum (wsG yX4_readSum cX4_readSum 6 (some .boolean)) ({ frames := 2 + 2, cells := 0, slots := 0, locals := 48 + 48 }) (va_Pc [.ref a_r, .int 7] (g5_P G [(a_r, (oc4 a_tk a_rh a_rs a_rc e_ln e_pa e_at e_fp)), (a_tk, (oc8 a_kd a_nm a_pl)), (a_kd, (arI G 401 f_kd)), (a_nm, (arI G 401 f_nm)), (a_rc, (arI G 400 f_rc))] sz)) (va_Qi (fun (r : Int32) (u : va_W) => (∃ (o_r : Int32) (o_ln : Int32) (o_pa : Int32) (o_at : Int32) (o_rc : Nat → Int32), (0 ≤ o_r.toInt ∧ o_r.toInt ≤ 1) ∧ (e_ln.toInt ≤ o_ln.toInt ∧ o_ln.toInt ≤ 400) ∧ (0 ≤ o_at.toInt ∧ o_at.toInt ≤ 401) ∧ (0 ≤ o_pa.toInt ∧ o_pa.toInt ≤ 50) ∧ (CDI o_rc o_ln.toInt) ∧ (OPK f_rc o_rc e_ln.toInt) ∧ (r = o_r) ∧ (u = [(a_r, (oc4 a_tk a_rh a_rs a_rc o_ln o_pa o_at e_fp)), (a_tk, (oc8 a_kd a_nm a_pl)), (a_kd, (arI G 401 f_kd)), (a_nm, (arI G 401 f_nm)), (a_rc, (arI G 400 o_rc))]))) (g5_B G (va_A [(a_r, (oc4 a_tk a_rh a_rs a_rc e_ln e_pa e_at e_fp)), (a_tk, (oc8 a_kd a_nm a_pl)), (a_kd, (arI G 401 f_kd)), (a_nm, (arI G 401 f_nm)), (a_rc, (arI G 400 f_rc))] sz)) (va_A [(a_r, (oc4 a_tk a_rh a_rs a_rc e_ln e_pa e_at e_fp)), (a_tk, (oc8 a_kd a_nm a_pl)), (a_kd, (arI G 401 f_kd)), (a_nm, (arI G 401 f_nm)), (a_rc, (arI G 400 f_rc))] sz)) 0 0 (va_A [(a_r, (oc4 a_tk a_rh a_rs a_rc e_ln e_pa e_at e_fp)), (a_tk, (oc8 a_kd a_nm a_pl)), (a_kd, (arI G 401 f_kd)), (a_nm, (arI G 401 f_nm)), (a_rc, (arI G 400 f_rc))] sz) := r_sum 2 48 7 ⟨by decide, by decide⟩ (fun x hx _ l G a_r a_tk a_kd a_nm a_rc a_rh a_rs a_pl sz e_ln e_pa e_at e_fp f_kd f_nm f_rc h_e_ln h_e_pa h_e_at e_tk e_cd => by have e : x = 8 := g5_toc (n := 8) (by decide) (hx.trans (by decide)); subst e; exact r_sum8 l G a_r a_tk a_kd a_nm a_rc a_rh a_rs a_pl sz e_ln e_pa e_at e_fp f_kd f_nm f_rc h_e_ln h_e_pa h_e_at e_tk e_cd) l G a_r a_tk a_kd a_nm a_rc a_rh a_rs a_pl sz e_ln e_pa e_at e_fp f_kd f_nm f_rc h_e_ln h_e_pa h_e_at e_tk e_cd
theorem r_test7 (l : Launch) (G : g5_G) (a_r a_tk a_kd a_nm a_rc a_rh a_rs a_pl : Nat) (sz : Nat) (e_ln : Int32) (e_pa : Int32) (e_at : Int32) (e_fp : Int32) (f_kd : Nat → Int32) (f_nm : Nat → Int32) (f_rc : Nat → Int32) (h_e_ln : 0 ≤ e_ln.toInt ∧ e_ln.toInt ≤ 400) (h_e_pa : 0 ≤ e_pa.toInt ∧ e_pa.toInt ≤ 50) (h_e_at : 0 ≤ e_at.toInt ∧ e_at.toInt ≤ 401) (e_tk : TOKI f_kd f_nm) (e_cd : CDI f_rc e_ln.toInt) : Met l yX4_readTest (wsG yX4_readTest cX4_readTest 6 (some .boolean)) ({ frames := 2 + 4 + 4, cells := 0, slots := 0, locals := 48 + 96 + 96 }) (va_Pc [.ref a_r, .int 7] (g5_P G [(a_r, (oc4 a_tk a_rh a_rs a_rc e_ln e_pa e_at e_fp)), (a_tk, (oc8 a_kd a_nm a_pl)), (a_kd, (arI G 401 f_kd)), (a_nm, (arI G 401 f_nm)), (a_rc, (arI G 400 f_rc))] sz)) (va_Qi (fun (r : Int32) (u : va_W) => (∃ (o_r : Int32) (o_ln : Int32) (o_pa : Int32) (o_at : Int32) (o_rc : Nat → Int32), (0 ≤ o_r.toInt ∧ o_r.toInt ≤ 1) ∧ (e_ln.toInt ≤ o_ln.toInt ∧ o_ln.toInt ≤ 400) ∧ (0 ≤ o_at.toInt ∧ o_at.toInt ≤ 401) ∧ (0 ≤ o_pa.toInt ∧ o_pa.toInt ≤ 50) ∧ (CDI o_rc o_ln.toInt) ∧ (OPK f_rc o_rc e_ln.toInt) ∧ (r = o_r) ∧ (u = [(a_r, (oc4 a_tk a_rh a_rs a_rc o_ln o_pa o_at e_fp)), (a_tk, (oc8 a_kd a_nm a_pl)), (a_kd, (arI G 401 f_kd)), (a_nm, (arI G 401 f_nm)), (a_rc, (arI G 400 o_rc))]))) (g5_B G (va_A [(a_r, (oc4 a_tk a_rh a_rs a_rc e_ln e_pa e_at e_fp)), (a_tk, (oc8 a_kd a_nm a_pl)), (a_kd, (arI G 401 f_kd)), (a_nm, (arI G 401 f_nm)), (a_rc, (arI G 400 f_rc))] sz)) (va_A [(a_r, (oc4 a_tk a_rh a_rs a_rc e_ln e_pa e_at e_fp)), (a_tk, (oc8 a_kd a_nm a_pl)), (a_kd, (arI G 401 f_kd)), (a_nm, (arI G 401 f_nm)), (a_rc, (arI G 400 f_rc))] sz)) 0 0 (va_A [(a_r, (oc4 a_tk a_rh a_rs a_rc e_ln e_pa e_at e_fp)), (a_tk, (oc8 a_kd a_nm a_pl)), (a_kd, (arI G 401 f_kd)), (a_nm, (arI G 401 f_nm)), (a_rc, (arI G 400 f_rc))] sz) := r_test 2 48 4 96 7 ⟨by decide, by decide⟩ (fun x hx _ l G a_r a_tk a_kd a_nm a_rc a_rh a_rs a_pl sz e_ln e_pa e_at e_fp f_kd f_nm f_rc h_e_ln h_e_pa h_e_at e_tk e_cd => by have e : x = 8 := g5_toc (n := 8) (by decide) (hx.trans (by decide)); subst e; exact r_sum8 l G a_r a_tk a_kd a_nm a_rc a_rh a_rs a_pl sz e_ln e_pa e_at e_fp f_kd f_nm f_rc h_e_ln h_e_pa h_e_at e_tk e_cd) (fun x hx _ l G a_r a_tk a_kd a_nm a_rc a_rh a_rs a_pl sz e_ln e_pa e_at e_fp f_kd f_nm f_rc h_e_ln h_e_pa h_e_at e_tk e_cd => by have e : x = 8 := g5_toc (n := 8) (by decide) (hx.trans (by decide)); subst e; exact r_test8 l G a_r a_tk a_kd a_nm a_rc a_rh a_rs a_pl sz e_ln e_pa e_at e_fp f_kd f_nm f_rc h_e_ln h_e_pa h_e_at e_tk e_cd) l G a_r a_tk a_kd a_nm a_rc a_rh a_rs a_pl sz e_ln e_pa e_at e_fp f_kd f_nm f_rc h_e_ln h_e_pa h_e_at e_tk e_cd
theorem r_sum6 (l : Launch) (G : g5_G) (a_r a_tk a_kd a_nm a_rc a_rh a_rs a_pl : Nat) (sz : Nat) (e_ln : Int32) (e_pa : Int32) (e_at : Int32) (e_fp : Int32) (f_kd : Nat → Int32) (f_nm : Nat → Int32) (f_rc : Nat → Int32) (h_e_ln : 0 ≤ e_ln.toInt ∧ e_ln.toInt ≤ 400) (h_e_pa : 0 ≤ e_pa.toInt ∧ e_pa.toInt ≤ 50) (h_e_at : 0 ≤ e_at.toInt ∧ e_at.toInt ≤ 401) (e_tk : TOKI f_kd f_nm) (e_cd : CDI f_rc e_ln.toInt) : Met l yX4_readSum (wsG yX4_readSum cX4_readSum 6 (some .boolean)) ({ frames := 4 + 2, cells := 0, slots := 0, locals := 96 + 48 }) (va_Pc [.ref a_r, .int 6] (g5_P G [(a_r, (oc4 a_tk a_rh a_rs a_rc e_ln e_pa e_at e_fp)), (a_tk, (oc8 a_kd a_nm a_pl)), (a_kd, (arI G 401 f_kd)), (a_nm, (arI G 401 f_nm)), (a_rc, (arI G 400 f_rc))] sz)) (va_Qi (fun (r : Int32) (u : va_W) => (∃ (o_r : Int32) (o_ln : Int32) (o_pa : Int32) (o_at : Int32) (o_rc : Nat → Int32), (0 ≤ o_r.toInt ∧ o_r.toInt ≤ 1) ∧ (e_ln.toInt ≤ o_ln.toInt ∧ o_ln.toInt ≤ 400) ∧ (0 ≤ o_at.toInt ∧ o_at.toInt ≤ 401) ∧ (0 ≤ o_pa.toInt ∧ o_pa.toInt ≤ 50) ∧ (CDI o_rc o_ln.toInt) ∧ (OPK f_rc o_rc e_ln.toInt) ∧ (r = o_r) ∧ (u = [(a_r, (oc4 a_tk a_rh a_rs a_rc o_ln o_pa o_at e_fp)), (a_tk, (oc8 a_kd a_nm a_pl)), (a_kd, (arI G 401 f_kd)), (a_nm, (arI G 401 f_nm)), (a_rc, (arI G 400 o_rc))]))) (g5_B G (va_A [(a_r, (oc4 a_tk a_rh a_rs a_rc e_ln e_pa e_at e_fp)), (a_tk, (oc8 a_kd a_nm a_pl)), (a_kd, (arI G 401 f_kd)), (a_nm, (arI G 401 f_nm)), (a_rc, (arI G 400 f_rc))] sz)) (va_A [(a_r, (oc4 a_tk a_rh a_rs a_rc e_ln e_pa e_at e_fp)), (a_tk, (oc8 a_kd a_nm a_pl)), (a_kd, (arI G 401 f_kd)), (a_nm, (arI G 401 f_nm)), (a_rc, (arI G 400 f_rc))] sz)) 0 0 (va_A [(a_r, (oc4 a_tk a_rh a_rs a_rc e_ln e_pa e_at e_fp)), (a_tk, (oc8 a_kd a_nm a_pl)), (a_kd, (arI G 401 f_kd)), (a_nm, (arI G 401 f_nm)), (a_rc, (arI G 400 f_rc))] sz) := r_sum 4 96 6 ⟨by decide, by decide⟩ (fun x hx _ l G a_r a_tk a_kd a_nm a_rc a_rh a_rs a_pl sz e_ln e_pa e_at e_fp f_kd f_nm f_rc h_e_ln h_e_pa h_e_at e_tk e_cd => by have e : x = 7 := g5_toc (n := 7) (by decide) (hx.trans (by decide)); subst e; exact r_sum7 l G a_r a_tk a_kd a_nm a_rc a_rh a_rs a_pl sz e_ln e_pa e_at e_fp f_kd f_nm f_rc h_e_ln h_e_pa h_e_at e_tk e_cd) l G a_r a_tk a_kd a_nm a_rc a_rh a_rs a_pl sz e_ln e_pa e_at e_fp f_kd f_nm f_rc h_e_ln h_e_pa h_e_at e_tk e_cd
theorem r_test6 (l : Launch) (G : g5_G) (a_r a_tk a_kd a_nm a_rc a_rh a_rs a_pl : Nat) (sz : Nat) (e_ln : Int32) (e_pa : Int32) (e_at : Int32) (e_fp : Int32) (f_kd : Nat → Int32) (f_nm : Nat → Int32) (f_rc : Nat → Int32) (h_e_ln : 0 ≤ e_ln.toInt ∧ e_ln.toInt ≤ 400) (h_e_pa : 0 ≤ e_pa.toInt ∧ e_pa.toInt ≤ 50) (h_e_at : 0 ≤ e_at.toInt ∧ e_at.toInt ≤ 401) (e_tk : TOKI f_kd f_nm) (e_cd : CDI f_rc e_ln.toInt) : Met l yX4_readTest (wsG yX4_readTest cX4_readTest 6 (some .boolean)) ({ frames := 4 + 10 + 4, cells := 0, slots := 0, locals := 96 + 240 + 96 }) (va_Pc [.ref a_r, .int 6] (g5_P G [(a_r, (oc4 a_tk a_rh a_rs a_rc e_ln e_pa e_at e_fp)), (a_tk, (oc8 a_kd a_nm a_pl)), (a_kd, (arI G 401 f_kd)), (a_nm, (arI G 401 f_nm)), (a_rc, (arI G 400 f_rc))] sz)) (va_Qi (fun (r : Int32) (u : va_W) => (∃ (o_r : Int32) (o_ln : Int32) (o_pa : Int32) (o_at : Int32) (o_rc : Nat → Int32), (0 ≤ o_r.toInt ∧ o_r.toInt ≤ 1) ∧ (e_ln.toInt ≤ o_ln.toInt ∧ o_ln.toInt ≤ 400) ∧ (0 ≤ o_at.toInt ∧ o_at.toInt ≤ 401) ∧ (0 ≤ o_pa.toInt ∧ o_pa.toInt ≤ 50) ∧ (CDI o_rc o_ln.toInt) ∧ (OPK f_rc o_rc e_ln.toInt) ∧ (r = o_r) ∧ (u = [(a_r, (oc4 a_tk a_rh a_rs a_rc o_ln o_pa o_at e_fp)), (a_tk, (oc8 a_kd a_nm a_pl)), (a_kd, (arI G 401 f_kd)), (a_nm, (arI G 401 f_nm)), (a_rc, (arI G 400 o_rc))]))) (g5_B G (va_A [(a_r, (oc4 a_tk a_rh a_rs a_rc e_ln e_pa e_at e_fp)), (a_tk, (oc8 a_kd a_nm a_pl)), (a_kd, (arI G 401 f_kd)), (a_nm, (arI G 401 f_nm)), (a_rc, (arI G 400 f_rc))] sz)) (va_A [(a_r, (oc4 a_tk a_rh a_rs a_rc e_ln e_pa e_at e_fp)), (a_tk, (oc8 a_kd a_nm a_pl)), (a_kd, (arI G 401 f_kd)), (a_nm, (arI G 401 f_nm)), (a_rc, (arI G 400 f_rc))] sz)) 0 0 (va_A [(a_r, (oc4 a_tk a_rh a_rs a_rc e_ln e_pa e_at e_fp)), (a_tk, (oc8 a_kd a_nm a_pl)), (a_kd, (arI G 401 f_kd)), (a_nm, (arI G 401 f_nm)), (a_rc, (arI G 400 f_rc))] sz) := r_test 4 96 10 240 6 ⟨by decide, by decide⟩ (fun x hx _ l G a_r a_tk a_kd a_nm a_rc a_rh a_rs a_pl sz e_ln e_pa e_at e_fp f_kd f_nm f_rc h_e_ln h_e_pa h_e_at e_tk e_cd => by have e : x = 7 := g5_toc (n := 7) (by decide) (hx.trans (by decide)); subst e; exact r_sum7 l G a_r a_tk a_kd a_nm a_rc a_rh a_rs a_pl sz e_ln e_pa e_at e_fp f_kd f_nm f_rc h_e_ln h_e_pa h_e_at e_tk e_cd) (fun x hx _ l G a_r a_tk a_kd a_nm a_rc a_rh a_rs a_pl sz e_ln e_pa e_at e_fp f_kd f_nm f_rc h_e_ln h_e_pa h_e_at e_tk e_cd => by have e : x = 7 := g5_toc (n := 7) (by decide) (hx.trans (by decide)); subst e; exact r_test7 l G a_r a_tk a_kd a_nm a_rc a_rh a_rs a_pl sz e_ln e_pa e_at e_fp f_kd f_nm f_rc h_e_ln h_e_pa h_e_at e_tk e_cd) l G a_r a_tk a_kd a_nm a_rc a_rh a_rs a_pl sz e_ln e_pa e_at e_fp f_kd f_nm f_rc h_e_ln h_e_pa h_e_at e_tk e_cd
theorem r_sum5 (l : Launch) (G : g5_G) (a_r a_tk a_kd a_nm a_rc a_rh a_rs a_pl : Nat) (sz : Nat) (e_ln : Int32) (e_pa : Int32) (e_at : Int32) (e_fp : Int32) (f_kd : Nat → Int32) (f_nm : Nat → Int32) (f_rc : Nat → Int32) (h_e_ln : 0 ≤ e_ln.toInt ∧ e_ln.toInt ≤ 400) (h_e_pa : 0 ≤ e_pa.toInt ∧ e_pa.toInt ≤ 50) (h_e_at : 0 ≤ e_at.toInt ∧ e_at.toInt ≤ 401) (e_tk : TOKI f_kd f_nm) (e_cd : CDI f_rc e_ln.toInt) : Met l yX4_readSum (wsG yX4_readSum cX4_readSum 6 (some .boolean)) ({ frames := 6 + 2, cells := 0, slots := 0, locals := 144 + 48 }) (va_Pc [.ref a_r, .int 5] (g5_P G [(a_r, (oc4 a_tk a_rh a_rs a_rc e_ln e_pa e_at e_fp)), (a_tk, (oc8 a_kd a_nm a_pl)), (a_kd, (arI G 401 f_kd)), (a_nm, (arI G 401 f_nm)), (a_rc, (arI G 400 f_rc))] sz)) (va_Qi (fun (r : Int32) (u : va_W) => (∃ (o_r : Int32) (o_ln : Int32) (o_pa : Int32) (o_at : Int32) (o_rc : Nat → Int32), (0 ≤ o_r.toInt ∧ o_r.toInt ≤ 1) ∧ (e_ln.toInt ≤ o_ln.toInt ∧ o_ln.toInt ≤ 400) ∧ (0 ≤ o_at.toInt ∧ o_at.toInt ≤ 401) ∧ (0 ≤ o_pa.toInt ∧ o_pa.toInt ≤ 50) ∧ (CDI o_rc o_ln.toInt) ∧ (OPK f_rc o_rc e_ln.toInt) ∧ (r = o_r) ∧ (u = [(a_r, (oc4 a_tk a_rh a_rs a_rc o_ln o_pa o_at e_fp)), (a_tk, (oc8 a_kd a_nm a_pl)), (a_kd, (arI G 401 f_kd)), (a_nm, (arI G 401 f_nm)), (a_rc, (arI G 400 o_rc))]))) (g5_B G (va_A [(a_r, (oc4 a_tk a_rh a_rs a_rc e_ln e_pa e_at e_fp)), (a_tk, (oc8 a_kd a_nm a_pl)), (a_kd, (arI G 401 f_kd)), (a_nm, (arI G 401 f_nm)), (a_rc, (arI G 400 f_rc))] sz)) (va_A [(a_r, (oc4 a_tk a_rh a_rs a_rc e_ln e_pa e_at e_fp)), (a_tk, (oc8 a_kd a_nm a_pl)), (a_kd, (arI G 401 f_kd)), (a_nm, (arI G 401 f_nm)), (a_rc, (arI G 400 f_rc))] sz)) 0 0 (va_A [(a_r, (oc4 a_tk a_rh a_rs a_rc e_ln e_pa e_at e_fp)), (a_tk, (oc8 a_kd a_nm a_pl)), (a_kd, (arI G 401 f_kd)), (a_nm, (arI G 401 f_nm)), (a_rc, (arI G 400 f_rc))] sz) := r_sum 6 144 5 ⟨by decide, by decide⟩ (fun x hx _ l G a_r a_tk a_kd a_nm a_rc a_rh a_rs a_pl sz e_ln e_pa e_at e_fp f_kd f_nm f_rc h_e_ln h_e_pa h_e_at e_tk e_cd => by have e : x = 6 := g5_toc (n := 6) (by decide) (hx.trans (by decide)); subst e; exact r_sum6 l G a_r a_tk a_kd a_nm a_rc a_rh a_rs a_pl sz e_ln e_pa e_at e_fp f_kd f_nm f_rc h_e_ln h_e_pa h_e_at e_tk e_cd) l G a_r a_tk a_kd a_nm a_rc a_rh a_rs a_pl sz e_ln e_pa e_at e_fp f_kd f_nm f_rc h_e_ln h_e_pa h_e_at e_tk e_cd
theorem r_test5 (l : Launch) (G : g5_G) (a_r a_tk a_kd a_nm a_rc a_rh a_rs a_pl : Nat) (sz : Nat) (e_ln : Int32) (e_pa : Int32) (e_at : Int32) (e_fp : Int32) (f_kd : Nat → Int32) (f_nm : Nat → Int32) (f_rc : Nat → Int32) (h_e_ln : 0 ≤ e_ln.toInt ∧ e_ln.toInt ≤ 400) (h_e_pa : 0 ≤ e_pa.toInt ∧ e_pa.toInt ≤ 50) (h_e_at : 0 ≤ e_at.toInt ∧ e_at.toInt ≤ 401) (e_tk : TOKI f_kd f_nm) (e_cd : CDI f_rc e_ln.toInt) : Met l yX4_readTest (wsG yX4_readTest cX4_readTest 6 (some .boolean)) ({ frames := 6 + 18 + 4, cells := 0, slots := 0, locals := 144 + 432 + 96 }) (va_Pc [.ref a_r, .int 5] (g5_P G [(a_r, (oc4 a_tk a_rh a_rs a_rc e_ln e_pa e_at e_fp)), (a_tk, (oc8 a_kd a_nm a_pl)), (a_kd, (arI G 401 f_kd)), (a_nm, (arI G 401 f_nm)), (a_rc, (arI G 400 f_rc))] sz)) (va_Qi (fun (r : Int32) (u : va_W) => (∃ (o_r : Int32) (o_ln : Int32) (o_pa : Int32) (o_at : Int32) (o_rc : Nat → Int32), (0 ≤ o_r.toInt ∧ o_r.toInt ≤ 1) ∧ (e_ln.toInt ≤ o_ln.toInt ∧ o_ln.toInt ≤ 400) ∧ (0 ≤ o_at.toInt ∧ o_at.toInt ≤ 401) ∧ (0 ≤ o_pa.toInt ∧ o_pa.toInt ≤ 50) ∧ (CDI o_rc o_ln.toInt) ∧ (OPK f_rc o_rc e_ln.toInt) ∧ (r = o_r) ∧ (u = [(a_r, (oc4 a_tk a_rh a_rs a_rc o_ln o_pa o_at e_fp)), (a_tk, (oc8 a_kd a_nm a_pl)), (a_kd, (arI G 401 f_kd)), (a_nm, (arI G 401 f_nm)), (a_rc, (arI G 400 o_rc))]))) (g5_B G (va_A [(a_r, (oc4 a_tk a_rh a_rs a_rc e_ln e_pa e_at e_fp)), (a_tk, (oc8 a_kd a_nm a_pl)), (a_kd, (arI G 401 f_kd)), (a_nm, (arI G 401 f_nm)), (a_rc, (arI G 400 f_rc))] sz)) (va_A [(a_r, (oc4 a_tk a_rh a_rs a_rc e_ln e_pa e_at e_fp)), (a_tk, (oc8 a_kd a_nm a_pl)), (a_kd, (arI G 401 f_kd)), (a_nm, (arI G 401 f_nm)), (a_rc, (arI G 400 f_rc))] sz)) 0 0 (va_A [(a_r, (oc4 a_tk a_rh a_rs a_rc e_ln e_pa e_at e_fp)), (a_tk, (oc8 a_kd a_nm a_pl)), (a_kd, (arI G 401 f_kd)), (a_nm, (arI G 401 f_nm)), (a_rc, (arI G 400 f_rc))] sz) := r_test 6 144 18 432 5 ⟨by decide, by decide⟩ (fun x hx _ l G a_r a_tk a_kd a_nm a_rc a_rh a_rs a_pl sz e_ln e_pa e_at e_fp f_kd f_nm f_rc h_e_ln h_e_pa h_e_at e_tk e_cd => by have e : x = 6 := g5_toc (n := 6) (by decide) (hx.trans (by decide)); subst e; exact r_sum6 l G a_r a_tk a_kd a_nm a_rc a_rh a_rs a_pl sz e_ln e_pa e_at e_fp f_kd f_nm f_rc h_e_ln h_e_pa h_e_at e_tk e_cd) (fun x hx _ l G a_r a_tk a_kd a_nm a_rc a_rh a_rs a_pl sz e_ln e_pa e_at e_fp f_kd f_nm f_rc h_e_ln h_e_pa h_e_at e_tk e_cd => by have e : x = 6 := g5_toc (n := 6) (by decide) (hx.trans (by decide)); subst e; exact r_test6 l G a_r a_tk a_kd a_nm a_rc a_rh a_rs a_pl sz e_ln e_pa e_at e_fp f_kd f_nm f_rc h_e_ln h_e_pa h_e_at e_tk e_cd) l G a_r a_tk a_kd a_nm a_rc a_rh a_rs a_pl sz e_ln e_pa e_at e_fp f_kd f_nm f_rc h_e_ln h_e_pa h_e_at e_tk e_cd
theorem r_sum4 (l : Launch) (G : g5_G) (a_r a_tk a_kd a_nm a_rc a_rh a_rs a_pl : Nat) (sz : Nat) (e_ln : Int32) (e_pa : Int32) (e_at : Int32) (e_fp : Int32) (f_kd : Nat → Int32) (f_nm : Nat → Int32) (f_rc : Nat → Int32) (h_e_ln : 0 ≤ e_ln.toInt ∧ e_ln.toInt ≤ 400) (h_e_pa : 0 ≤ e_pa.toInt ∧ e_pa.toInt ≤ 50) (h_e_at : 0 ≤ e_at.toInt ∧ e_at.toInt ≤ 401) (e_tk : TOKI f_kd f_nm) (e_cd : CDI f_rc e_ln.toInt) : Met l yX4_readSum (wsG yX4_readSum cX4_readSum 6 (some .boolean)) ({ frames := 8 + 2, cells := 0, slots := 0, locals := 192 + 48 }) (va_Pc [.ref a_r, .int 4] (g5_P G [(a_r, (oc4 a_tk a_rh a_rs a_rc e_ln e_pa e_at e_fp)), (a_tk, (oc8 a_kd a_nm a_pl)), (a_kd, (arI G 401 f_kd)), (a_nm, (arI G 401 f_nm)), (a_rc, (arI G 400 f_rc))] sz)) (va_Qi (fun (r : Int32) (u : va_W) => (∃ (o_r : Int32) (o_ln : Int32) (o_pa : Int32) (o_at : Int32) (o_rc : Nat → Int32), (0 ≤ o_r.toInt ∧ o_r.toInt ≤ 1) ∧ (e_ln.toInt ≤ o_ln.toInt ∧ o_ln.toInt ≤ 400) ∧ (0 ≤ o_at.toInt ∧ o_at.toInt ≤ 401) ∧ (0 ≤ o_pa.toInt ∧ o_pa.toInt ≤ 50) ∧ (CDI o_rc o_ln.toInt) ∧ (OPK f_rc o_rc e_ln.toInt) ∧ (r = o_r) ∧ (u = [(a_r, (oc4 a_tk a_rh a_rs a_rc o_ln o_pa o_at e_fp)), (a_tk, (oc8 a_kd a_nm a_pl)), (a_kd, (arI G 401 f_kd)), (a_nm, (arI G 401 f_nm)), (a_rc, (arI G 400 o_rc))]))) (g5_B G (va_A [(a_r, (oc4 a_tk a_rh a_rs a_rc e_ln e_pa e_at e_fp)), (a_tk, (oc8 a_kd a_nm a_pl)), (a_kd, (arI G 401 f_kd)), (a_nm, (arI G 401 f_nm)), (a_rc, (arI G 400 f_rc))] sz)) (va_A [(a_r, (oc4 a_tk a_rh a_rs a_rc e_ln e_pa e_at e_fp)), (a_tk, (oc8 a_kd a_nm a_pl)), (a_kd, (arI G 401 f_kd)), (a_nm, (arI G 401 f_nm)), (a_rc, (arI G 400 f_rc))] sz)) 0 0 (va_A [(a_r, (oc4 a_tk a_rh a_rs a_rc e_ln e_pa e_at e_fp)), (a_tk, (oc8 a_kd a_nm a_pl)), (a_kd, (arI G 401 f_kd)), (a_nm, (arI G 401 f_nm)), (a_rc, (arI G 400 f_rc))] sz) := r_sum 8 192 4 ⟨by decide, by decide⟩ (fun x hx _ l G a_r a_tk a_kd a_nm a_rc a_rh a_rs a_pl sz e_ln e_pa e_at e_fp f_kd f_nm f_rc h_e_ln h_e_pa h_e_at e_tk e_cd => by have e : x = 5 := g5_toc (n := 5) (by decide) (hx.trans (by decide)); subst e; exact r_sum5 l G a_r a_tk a_kd a_nm a_rc a_rh a_rs a_pl sz e_ln e_pa e_at e_fp f_kd f_nm f_rc h_e_ln h_e_pa h_e_at e_tk e_cd) l G a_r a_tk a_kd a_nm a_rc a_rh a_rs a_pl sz e_ln e_pa e_at e_fp f_kd f_nm f_rc h_e_ln h_e_pa h_e_at e_tk e_cd
theorem r_test4 (l : Launch) (G : g5_G) (a_r a_tk a_kd a_nm a_rc a_rh a_rs a_pl : Nat) (sz : Nat) (e_ln : Int32) (e_pa : Int32) (e_at : Int32) (e_fp : Int32) (f_kd : Nat → Int32) (f_nm : Nat → Int32) (f_rc : Nat → Int32) (h_e_ln : 0 ≤ e_ln.toInt ∧ e_ln.toInt ≤ 400) (h_e_pa : 0 ≤ e_pa.toInt ∧ e_pa.toInt ≤ 50) (h_e_at : 0 ≤ e_at.toInt ∧ e_at.toInt ≤ 401) (e_tk : TOKI f_kd f_nm) (e_cd : CDI f_rc e_ln.toInt) : Met l yX4_readTest (wsG yX4_readTest cX4_readTest 6 (some .boolean)) ({ frames := 8 + 28 + 4, cells := 0, slots := 0, locals := 192 + 672 + 96 }) (va_Pc [.ref a_r, .int 4] (g5_P G [(a_r, (oc4 a_tk a_rh a_rs a_rc e_ln e_pa e_at e_fp)), (a_tk, (oc8 a_kd a_nm a_pl)), (a_kd, (arI G 401 f_kd)), (a_nm, (arI G 401 f_nm)), (a_rc, (arI G 400 f_rc))] sz)) (va_Qi (fun (r : Int32) (u : va_W) => (∃ (o_r : Int32) (o_ln : Int32) (o_pa : Int32) (o_at : Int32) (o_rc : Nat → Int32), (0 ≤ o_r.toInt ∧ o_r.toInt ≤ 1) ∧ (e_ln.toInt ≤ o_ln.toInt ∧ o_ln.toInt ≤ 400) ∧ (0 ≤ o_at.toInt ∧ o_at.toInt ≤ 401) ∧ (0 ≤ o_pa.toInt ∧ o_pa.toInt ≤ 50) ∧ (CDI o_rc o_ln.toInt) ∧ (OPK f_rc o_rc e_ln.toInt) ∧ (r = o_r) ∧ (u = [(a_r, (oc4 a_tk a_rh a_rs a_rc o_ln o_pa o_at e_fp)), (a_tk, (oc8 a_kd a_nm a_pl)), (a_kd, (arI G 401 f_kd)), (a_nm, (arI G 401 f_nm)), (a_rc, (arI G 400 o_rc))]))) (g5_B G (va_A [(a_r, (oc4 a_tk a_rh a_rs a_rc e_ln e_pa e_at e_fp)), (a_tk, (oc8 a_kd a_nm a_pl)), (a_kd, (arI G 401 f_kd)), (a_nm, (arI G 401 f_nm)), (a_rc, (arI G 400 f_rc))] sz)) (va_A [(a_r, (oc4 a_tk a_rh a_rs a_rc e_ln e_pa e_at e_fp)), (a_tk, (oc8 a_kd a_nm a_pl)), (a_kd, (arI G 401 f_kd)), (a_nm, (arI G 401 f_nm)), (a_rc, (arI G 400 f_rc))] sz)) 0 0 (va_A [(a_r, (oc4 a_tk a_rh a_rs a_rc e_ln e_pa e_at e_fp)), (a_tk, (oc8 a_kd a_nm a_pl)), (a_kd, (arI G 401 f_kd)), (a_nm, (arI G 401 f_nm)), (a_rc, (arI G 400 f_rc))] sz) := r_test 8 192 28 672 4 ⟨by decide, by decide⟩ (fun x hx _ l G a_r a_tk a_kd a_nm a_rc a_rh a_rs a_pl sz e_ln e_pa e_at e_fp f_kd f_nm f_rc h_e_ln h_e_pa h_e_at e_tk e_cd => by have e : x = 5 := g5_toc (n := 5) (by decide) (hx.trans (by decide)); subst e; exact r_sum5 l G a_r a_tk a_kd a_nm a_rc a_rh a_rs a_pl sz e_ln e_pa e_at e_fp f_kd f_nm f_rc h_e_ln h_e_pa h_e_at e_tk e_cd) (fun x hx _ l G a_r a_tk a_kd a_nm a_rc a_rh a_rs a_pl sz e_ln e_pa e_at e_fp f_kd f_nm f_rc h_e_ln h_e_pa h_e_at e_tk e_cd => by have e : x = 5 := g5_toc (n := 5) (by decide) (hx.trans (by decide)); subst e; exact r_test5 l G a_r a_tk a_kd a_nm a_rc a_rh a_rs a_pl sz e_ln e_pa e_at e_fp f_kd f_nm f_rc h_e_ln h_e_pa h_e_at e_tk e_cd) l G a_r a_tk a_kd a_nm a_rc a_rh a_rs a_pl sz e_ln e_pa e_at e_fp f_kd f_nm f_rc h_e_ln h_e_pa h_e_at e_tk e_cd
theorem r_sum3 (l : Launch) (G : g5_G) (a_r a_tk a_kd a_nm a_rc a_rh a_rs a_pl : Nat) (sz : Nat) (e_ln : Int32) (e_pa : Int32) (e_at : Int32) (e_fp : Int32) (f_kd : Nat → Int32) (f_nm : Nat → Int32) (f_rc : Nat → Int32) (h_e_ln : 0 ≤ e_ln.toInt ∧ e_ln.toInt ≤ 400) (h_e_pa : 0 ≤ e_pa.toInt ∧ e_pa.toInt ≤ 50) (h_e_at : 0 ≤ e_at.toInt ∧ e_at.toInt ≤ 401) (e_tk : TOKI f_kd f_nm) (e_cd : CDI f_rc e_ln.toInt) : Met l yX4_readSum (wsG yX4_readSum cX4_readSum 6 (some .boolean)) ({ frames := 10 + 2, cells := 0, slots := 0, locals := 240 + 48 }) (va_Pc [.ref a_r, .int 3] (g5_P G [(a_r, (oc4 a_tk a_rh a_rs a_rc e_ln e_pa e_at e_fp)), (a_tk, (oc8 a_kd a_nm a_pl)), (a_kd, (arI G 401 f_kd)), (a_nm, (arI G 401 f_nm)), (a_rc, (arI G 400 f_rc))] sz)) (va_Qi (fun (r : Int32) (u : va_W) => (∃ (o_r : Int32) (o_ln : Int32) (o_pa : Int32) (o_at : Int32) (o_rc : Nat → Int32), (0 ≤ o_r.toInt ∧ o_r.toInt ≤ 1) ∧ (e_ln.toInt ≤ o_ln.toInt ∧ o_ln.toInt ≤ 400) ∧ (0 ≤ o_at.toInt ∧ o_at.toInt ≤ 401) ∧ (0 ≤ o_pa.toInt ∧ o_pa.toInt ≤ 50) ∧ (CDI o_rc o_ln.toInt) ∧ (OPK f_rc o_rc e_ln.toInt) ∧ (r = o_r) ∧ (u = [(a_r, (oc4 a_tk a_rh a_rs a_rc o_ln o_pa o_at e_fp)), (a_tk, (oc8 a_kd a_nm a_pl)), (a_kd, (arI G 401 f_kd)), (a_nm, (arI G 401 f_nm)), (a_rc, (arI G 400 o_rc))]))) (g5_B G (va_A [(a_r, (oc4 a_tk a_rh a_rs a_rc e_ln e_pa e_at e_fp)), (a_tk, (oc8 a_kd a_nm a_pl)), (a_kd, (arI G 401 f_kd)), (a_nm, (arI G 401 f_nm)), (a_rc, (arI G 400 f_rc))] sz)) (va_A [(a_r, (oc4 a_tk a_rh a_rs a_rc e_ln e_pa e_at e_fp)), (a_tk, (oc8 a_kd a_nm a_pl)), (a_kd, (arI G 401 f_kd)), (a_nm, (arI G 401 f_nm)), (a_rc, (arI G 400 f_rc))] sz)) 0 0 (va_A [(a_r, (oc4 a_tk a_rh a_rs a_rc e_ln e_pa e_at e_fp)), (a_tk, (oc8 a_kd a_nm a_pl)), (a_kd, (arI G 401 f_kd)), (a_nm, (arI G 401 f_nm)), (a_rc, (arI G 400 f_rc))] sz) := r_sum 10 240 3 ⟨by decide, by decide⟩ (fun x hx _ l G a_r a_tk a_kd a_nm a_rc a_rh a_rs a_pl sz e_ln e_pa e_at e_fp f_kd f_nm f_rc h_e_ln h_e_pa h_e_at e_tk e_cd => by have e : x = 4 := g5_toc (n := 4) (by decide) (hx.trans (by decide)); subst e; exact r_sum4 l G a_r a_tk a_kd a_nm a_rc a_rh a_rs a_pl sz e_ln e_pa e_at e_fp f_kd f_nm f_rc h_e_ln h_e_pa h_e_at e_tk e_cd) l G a_r a_tk a_kd a_nm a_rc a_rh a_rs a_pl sz e_ln e_pa e_at e_fp f_kd f_nm f_rc h_e_ln h_e_pa h_e_at e_tk e_cd
