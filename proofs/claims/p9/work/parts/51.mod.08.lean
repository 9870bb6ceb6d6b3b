theorem dgX12_behindTest_0 : ∀ r ∈ ([(0, (.aload_n 0, 1)), (1, (.ldc2_w 298, 3)), (4, (.invokevirtual 254, 3)), (7, (.istore_n 1, 1)), (8, (.iload_n 1, 1)), (9, (.ifCond .ne 13, 3)), (12, (.aload_n 0, 1)), (13, (.ldc2_w 300, 3)), (16, (.invokevirtual 254, 3)), (19, (.ifCond .eq 57, 3)), (22, (.aload_n 0, 1)), (23, (.iload_n 1, 1)), (24, (.ifCond .eq 7, 3)), (27, (.iconst 2, 1)), (28, (.goto 4, 3)), (31, (.iconst 1, 1)), (32, (.invokevirtual 288, 3)), (35, (.aload_n 0, 1)), (36, (.iload_n 1, 1)), (37, (.ifCond .eq 8, 3)), (40, (.bipush 28, 2)), (42, (.goto 5, 3)), (45, (.bipush 29, 2)), (47, (.aload_n 0, 1)), (48, (.getfield 237, 3)), (51, (.invokevirtual 261, 3)), (54, (.aload_n 0, 1)), (55, (.iload_n 1, 1)), (56, (.ifCond .eq 8, 3)), (59, (.bipush 28, 2)), (61, (.goto 5, 3)), (64, (.bipush 29, 2)), (66, (.iconst 0, 1)), (67, (.invokevirtual 246, 3)), (70, (.aload_n 0, 1)), (71, (.invokevirtual 208, 3)), (74, (.iconst 0, 1)), (75, (.ireturn, 1)), (76, (.aload_n 0, 1)), (77, (.invokevirtual 291, 3))] : List (Nat × (Instr × Nat))), decode cX12_behindTest r.1 = .ok r.2 := by decide +kernel
theorem dX12_behindTest_0 : decode cX12_behindTest 0 = .ok (.aload_n 0, 1) := dgX12_behindTest_0 (0, (.aload_n 0, 1)) (List.mem_of_getElem? (i := 0) rfl)
theorem dX12_behindTest_1 : decode cX12_behindTest 1 = .ok (.ldc2_w 298, 3) := dgX12_behindTest_0 (1, (.ldc2_w 298, 3)) (List.mem_of_getElem? (i := 1) rfl)
theorem dX12_behindTest_4 : decode cX12_behindTest 4 = .ok (.invokevirtual 254, 3) := dgX12_behindTest_0 (4, (.invokevirtual 254, 3)) (List.mem_of_getElem? (i := 2) rfl)
theorem dX12_behindTest_7 : decode cX12_behindTest 7 = .ok (.istore_n 1, 1) := dgX12_behindTest_0 (7, (.istore_n 1, 1)) (List.mem_of_getElem? (i := 3) rfl)
theorem dX12_behindTest_8 : decode cX12_behindTest 8 = .ok (.iload_n 1, 1) := dgX12_behindTest_0 (8, (.iload_n 1, 1)) (List.mem_of_getElem? (i := 4) rfl)
theorem dX12_behindTest_9 : decode cX12_behindTest 9 = .ok (.ifCond .ne 13, 3) := dgX12_behindTest_0 (9, (.ifCond .ne 13, 3)) (List.mem_of_getElem? (i := 5) rfl)
theorem dX12_behindTest_12 : decode cX12_behindTest 12 = .ok (.aload_n 0, 1) := dgX12_behindTest_0 (12, (.aload_n 0, 1)) (List.mem_of_getElem? (i := 6) rfl)
theorem dX12_behindTest_13 : decode cX12_behindTest 13 = .ok (.ldc2_w 300, 3) := dgX12_behindTest_0 (13, (.ldc2_w 300, 3)) (List.mem_of_getElem? (i := 7) rfl)
theorem dX12_behindTest_16 : decode cX12_behindTest 16 = .ok (.invokevirtual 254, 3) := dgX12_behindTest_0 (16, (.invokevirtual 254, 3)) (List.mem_of_getElem? (i := 8) rfl)
theorem dX12_behindTest_19 : decode cX12_behindTest 19 = .ok (.ifCond .eq 57, 3) := dgX12_behindTest_0 (19, (.ifCond .eq 57, 3)) (List.mem_of_getElem? (i := 9) rfl)
theorem dX12_behindTest_22 : decode cX12_behindTest 22 = .ok (.aload_n 0, 1) := dgX12_behindTest_0 (22, (.aload_n 0, 1)) (List.mem_of_getElem? (i := 10) rfl)
theorem dX12_behindTest_23 : decode cX12_behindTest 23 = .ok (.iload_n 1, 1) := dgX12_behindTest_0 (23, (.iload_n 1, 1)) (List.mem_of_getElem? (i := 11) rfl)
theorem dX12_behindTest_24 : decode cX12_behindTest 24 = .ok (.ifCond .eq 7, 3) := dgX12_behindTest_0 (24, (.ifCond .eq 7, 3)) (List.mem_of_getElem? (i := 12) rfl)
theorem dX12_behindTest_27 : decode cX12_behindTest 27 = .ok (.iconst 2, 1) := dgX12_behindTest_0 (27, (.iconst 2, 1)) (List.mem_of_getElem? (i := 13) rfl)
theorem dX12_behindTest_28 : decode cX12_behindTest 28 = .ok (.goto 4, 3) := dgX12_behindTest_0 (28, (.goto 4, 3)) (List.mem_of_getElem? (i := 14) rfl)
theorem dX12_behindTest_31 : decode cX12_behindTest 31 = .ok (.iconst 1, 1) := dgX12_behindTest_0 (31, (.iconst 1, 1)) (List.mem_of_getElem? (i := 15) rfl)
theorem dX12_behindTest_32 : decode cX12_behindTest 32 = .ok (.invokevirtual 288, 3) := dgX12_behindTest_0 (32, (.invokevirtual 288, 3)) (List.mem_of_getElem? (i := 16) rfl)
theorem dX12_behindTest_35 : decode cX12_behindTest 35 = .ok (.aload_n 0, 1) := dgX12_behindTest_0 (35, (.aload_n 0, 1)) (List.mem_of_getElem? (i := 17) rfl)
theorem dX12_behindTest_36 : decode cX12_behindTest 36 = .ok (.iload_n 1, 1) := dgX12_behindTest_0 (36, (.iload_n 1, 1)) (List.mem_of_getElem? (i := 18) rfl)
theorem dX12_behindTest_37 : decode cX12_behindTest 37 = .ok (.ifCond .eq 8, 3) := dgX12_behindTest_0 (37, (.ifCond .eq 8, 3)) (List.mem_of_getElem? (i := 19) rfl)
theorem dX12_behindTest_40 : decode cX12_behindTest 40 = .ok (.bipush 28, 2) := dgX12_behindTest_0 (40, (.bipush 28, 2)) (List.mem_of_getElem? (i := 20) rfl)
theorem dX12_behindTest_42 : decode cX12_behindTest 42 = .ok (.goto 5, 3) := dgX12_behindTest_0 (42, (.goto 5, 3)) (List.mem_of_getElem? (i := 21) rfl)
theorem dX12_behindTest_45 : decode cX12_behindTest 45 = .ok (.bipush 29, 2) := dgX12_behindTest_0 (45, (.bipush 29, 2)) (List.mem_of_getElem? (i := 22) rfl)
theorem dX12_behindTest_47 : decode cX12_behindTest 47 = .ok (.aload_n 0, 1) := dgX12_behindTest_0 (47, (.aload_n 0, 1)) (List.mem_of_getElem? (i := 23) rfl)
theorem dX12_behindTest_48 : decode cX12_behindTest 48 = .ok (.getfield 237, 3) := dgX12_behindTest_0 (48, (.getfield 237, 3)) (List.mem_of_getElem? (i := 24) rfl)
theorem dX12_behindTest_51 : decode cX12_behindTest 51 = .ok (.invokevirtual 261, 3) := dgX12_behindTest_0 (51, (.invokevirtual 261, 3)) (List.mem_of_getElem? (i := 25) rfl)
theorem dX12_behindTest_54 : decode cX12_behindTest 54 = .ok (.aload_n 0, 1) := dgX12_behindTest_0 (54, (.aload_n 0, 1)) (List.mem_of_getElem? (i := 26) rfl)
theorem dX12_behindTest_55 : decode cX12_behindTest 55 = .ok (.iload_n 1, 1) := dgX12_behindTest_0 (55, (.iload_n 1, 1)) (List.mem_of_getElem? (i := 27) rfl)
theorem dX12_behindTest_56 : decode cX12_behindTest 56 = .ok (.ifCond .eq 8, 3) := dgX12_behindTest_0 (56, (.ifCond .eq 8, 3)) (List.mem_of_getElem? (i := 28) rfl)
theorem dX12_behindTest_59 : decode cX12_behindTest 59 = .ok (.bipush 28, 2) := dgX12_behindTest_0 (59, (.bipush 28, 2)) (List.mem_of_getElem? (i := 29) rfl)
theorem dX12_behindTest_61 : decode cX12_behindTest 61 = .ok (.goto 5, 3) := dgX12_behindTest_0 (61, (.goto 5, 3)) (List.mem_of_getElem? (i := 30) rfl)
theorem dX12_behindTest_64 : decode cX12_behindTest 64 = .ok (.bipush 29, 2) := dgX12_behindTest_0 (64, (.bipush 29, 2)) (List.mem_of_getElem? (i := 31) rfl)
theorem dX12_behindTest_66 : decode cX12_behindTest 66 = .ok (.iconst 0, 1) := dgX12_behindTest_0 (66, (.iconst 0, 1)) (List.mem_of_getElem? (i := 32) rfl)
theorem dX12_behindTest_67 : decode cX12_behindTest 67 = .ok (.invokevirtual 246, 3) := dgX12_behindTest_0 (67, (.invokevirtual 246, 3)) (List.mem_of_getElem? (i := 33) rfl)
theorem dX12_behindTest_70 : decode cX12_behindTest 70 = .ok (.aload_n 0, 1) := dgX12_behindTest_0 (70, (.aload_n 0, 1)) (List.mem_of_getElem? (i := 34) rfl)
theorem dX12_behindTest_71 : decode cX12_behindTest 71 = .ok (.invokevirtual 208, 3) := dgX12_behindTest_0 (71, (.invokevirtual 208, 3)) (List.mem_of_getElem? (i := 35) rfl)
theorem dX12_behindTest_74 : decode cX12_behindTest 74 = .ok (.iconst 0, 1) := dgX12_behindTest_0 (74, (.iconst 0, 1)) (List.mem_of_getElem? (i := 36) rfl)
theorem dX12_behindTest_75 : decode cX12_behindTest 75 = .ok (.ireturn, 1) := dgX12_behindTest_0 (75, (.ireturn, 1)) (List.mem_of_getElem? (i := 37) rfl)
theorem dX12_behindTest_76 : decode cX12_behindTest 76 = .ok (.aload_n 0, 1) := dgX12_behindTest_0 (76, (.aload_n 0, 1)) (List.mem_of_getElem? (i := 38) rfl)
theorem dX12_behindTest_77 : decode cX12_behindTest 77 = .ok (.invokevirtual 291, 3) := dgX12_behindTest_0 (77, (.invokevirtual 291, 3)) (List.mem_of_getElem? (i := 39) rfl)
theorem dgX12_behindTest_1 : ∀ r ∈ ([(80, (.iconst (-1), 1)), (81, (.if_icmp .ne 5, 3)), (84, (.iconst 4, 1)), (85, (.ireturn, 1)), (86, (.aload_n 0, 1)), (87, (.aload_n 0, 1)), (88, (.bipush 41, 2)), (90, (.invokevirtual 267, 3)), (93, (.invokevirtual 233, 3)), (96, (.aload_n 0, 1)), (97, (.getfield 205, 3)), (100, (.ifCond .ne 28, 3)), (103, (.aload_n 0, 1)), (104, (.iconst 1, 1)), (105, (.invokevirtual 288, 3)), (108, (.aload_n 0, 1)), (109, (.dup, 1)), (110, (.getfield 240, 3)), (113, (.iconst 1, 1)), (114, (.isub, 1)), (115, (.putfield 240, 3)), (118, (.aload_n 0, 1)), (119, (.dup, 1)), (120, (.getfield 258, 3)), (123, (.iconst 1, 1)), (124, (.isub, 1)), (125, (.putfield 258, 3)), (128, (.iconst 2, 1)), (129, (.ireturn, 1))] : List (Nat × (Instr × Nat))), decode cX12_behindTest r.1 = .ok r.2 := by decide +kernel
theorem dX12_behindTest_80 : decode cX12_behindTest 80 = .ok (.iconst (-1), 1) := dgX12_behindTest_1 (80, (.iconst (-1), 1)) (List.mem_of_getElem? (i := 0) rfl)
theorem dX12_behindTest_81 : decode cX12_behindTest 81 = .ok (.if_icmp .ne 5, 3) := dgX12_behindTest_1 (81, (.if_icmp .ne 5, 3)) (List.mem_of_getElem? (i := 1) rfl)
theorem dX12_behindTest_84 : decode cX12_behindTest 84 = .ok (.iconst 4, 1) := dgX12_behindTest_1 (84, (.iconst 4, 1)) (List.mem_of_getElem? (i := 2) rfl)
theorem dX12_behindTest_85 : decode cX12_behindTest 85 = .ok (.ireturn, 1) := dgX12_behindTest_1 (85, (.ireturn, 1)) (List.mem_of_getElem? (i := 3) rfl)
theorem dX12_behindTest_86 : decode cX12_behindTest 86 = .ok (.aload_n 0, 1) := dgX12_behindTest_1 (86, (.aload_n 0, 1)) (List.mem_of_getElem? (i := 4) rfl)
theorem dX12_behindTest_87 : decode cX12_behindTest 87 = .ok (.aload_n 0, 1) := dgX12_behindTest_1 (87, (.aload_n 0, 1)) (List.mem_of_getElem? (i := 5) rfl)
theorem dX12_behindTest_88 : decode cX12_behindTest 88 = .ok (.bipush 41, 2) := dgX12_behindTest_1 (88, (.bipush 41, 2)) (List.mem_of_getElem? (i := 6) rfl)
theorem dX12_behindTest_90 : decode cX12_behindTest 90 = .ok (.invokevirtual 267, 3) := dgX12_behindTest_1 (90, (.invokevirtual 267, 3)) (List.mem_of_getElem? (i := 7) rfl)
theorem dX12_behindTest_93 : decode cX12_behindTest 93 = .ok (.invokevirtual 233, 3) := dgX12_behindTest_1 (93, (.invokevirtual 233, 3)) (List.mem_of_getElem? (i := 8) rfl)
theorem dX12_behindTest_96 : decode cX12_behindTest 96 = .ok (.aload_n 0, 1) := dgX12_behindTest_1 (96, (.aload_n 0, 1)) (List.mem_of_getElem? (i := 9) rfl)
theorem dX12_behindTest_97 : decode cX12_behindTest 97 = .ok (.getfield 205, 3) := dgX12_behindTest_1 (97, (.getfield 205, 3)) (List.mem_of_getElem? (i := 10) rfl)
theorem dX12_behindTest_100 : decode cX12_behindTest 100 = .ok (.ifCond .ne 28, 3) := dgX12_behindTest_1 (100, (.ifCond .ne 28, 3)) (List.mem_of_getElem? (i := 11) rfl)
theorem dX12_behindTest_103 : decode cX12_behindTest 103 = .ok (.aload_n 0, 1) := dgX12_behindTest_1 (103, (.aload_n 0, 1)) (List.mem_of_getElem? (i := 12) rfl)
theorem dX12_behindTest_104 : decode cX12_behindTest 104 = .ok (.iconst 1, 1) := dgX12_behindTest_1 (104, (.iconst 1, 1)) (List.mem_of_getElem? (i := 13) rfl)
theorem dX12_behindTest_105 : decode cX12_behindTest 105 = .ok (.invokevirtual 288, 3) := dgX12_behindTest_1 (105, (.invokevirtual 288, 3)) (List.mem_of_getElem? (i := 14) rfl)
theorem dX12_behindTest_108 : decode cX12_behindTest 108 = .ok (.aload_n 0, 1) := dgX12_behindTest_1 (108, (.aload_n 0, 1)) (List.mem_of_getElem? (i := 15) rfl)
theorem dX12_behindTest_109 : decode cX12_behindTest 109 = .ok (.dup, 1) := dgX12_behindTest_1 (109, (.dup, 1)) (List.mem_of_getElem? (i := 16) rfl)
theorem dX12_behindTest_110 : decode cX12_behindTest 110 = .ok (.getfield 240, 3) := dgX12_behindTest_1 (110, (.getfield 240, 3)) (List.mem_of_getElem? (i := 17) rfl)
theorem dX12_behindTest_113 : decode cX12_behindTest 113 = .ok (.iconst 1, 1) := dgX12_behindTest_1 (113, (.iconst 1, 1)) (List.mem_of_getElem? (i := 18) rfl)
theorem dX12_behindTest_114 : decode cX12_behindTest 114 = .ok (.isub, 1) := dgX12_behindTest_1 (114, (.isub, 1)) (List.mem_of_getElem? (i := 19) rfl)
theorem dX12_behindTest_115 : decode cX12_behindTest 115 = .ok (.putfield 240, 3) := dgX12_behindTest_1 (115, (.putfield 240, 3)) (List.mem_of_getElem? (i := 20) rfl)
theorem dX12_behindTest_118 : decode cX12_behindTest 118 = .ok (.aload_n 0, 1) := dgX12_behindTest_1 (118, (.aload_n 0, 1)) (List.mem_of_getElem? (i := 21) rfl)
theorem dX12_behindTest_119 : decode cX12_behindTest 119 = .ok (.dup, 1) := dgX12_behindTest_1 (119, (.dup, 1)) (List.mem_of_getElem? (i := 22) rfl)
theorem dX12_behindTest_120 : decode cX12_behindTest 120 = .ok (.getfield 258, 3) := dgX12_behindTest_1 (120, (.getfield 258, 3)) (List.mem_of_getElem? (i := 23) rfl)
theorem dX12_behindTest_123 : decode cX12_behindTest 123 = .ok (.iconst 1, 1) := dgX12_behindTest_1 (123, (.iconst 1, 1)) (List.mem_of_getElem? (i := 24) rfl)
theorem dX12_behindTest_124 : decode cX12_behindTest 124 = .ok (.isub, 1) := dgX12_behindTest_1 (124, (.isub, 1)) (List.mem_of_getElem? (i := 25) rfl)
theorem dX12_behindTest_125 : decode cX12_behindTest 125 = .ok (.putfield 258, 3) := dgX12_behindTest_1 (125, (.putfield 258, 3)) (List.mem_of_getElem? (i := 26) rfl)
theorem dX12_behindTest_128 : decode cX12_behindTest 128 = .ok (.iconst 2, 1) := dgX12_behindTest_1 (128, (.iconst 2, 1)) (List.mem_of_getElem? (i := 27) rfl)
theorem dX12_behindTest_129 : decode cX12_behindTest 129 = .ok (.ireturn, 1) := dgX12_behindTest_1 (129, (.ireturn, 1)) (List.mem_of_getElem? (i := 28) rfl)
theorem kl_X12_298 : Cond.constantLong RX12 298 1476 ∈ tblG := tg 1592 (by decide +kernel) (by decide +kernel)
theorem kl_X12_300 : Cond.constantLong RX12 300 498 ∈ tblG := tg 1593 (by decide +kernel) (by decide +kernel)
set_option maxHeartbeats 4000000 in
set_option maxRecDepth 100000 in
theorem n_behindTest (l : Launch) (G : g5_G) (b_o b_tp b_op b_ar b_pi b_pa b_rf b_ro b_im b_ke b_nl b_ws b_hw b_se b_re b_pt b_ip b_ah b_be b_me b_tr b_ld b_wn : Nat) (sz : Nat) (u_th : Int32) (u_sa : Int32) (u_fd : Int32) (u_td : Int32) (u_fr : Int32) (u_to : Int32) (u_so : Int32) (u_fa : Int32) (u_bd : Int32) (u_nc : Int32) (u_co : Int32) (u_le : Int32) (u_pd : Int32) (u_od : Int32) (u_la : Int32) (u_bk : Int32) (u_ce : Int32) (u_ho : Int32) (u_wy : Int32) (u_bt : Int32) (u_ps : Int32) (u_tg : Int32) (u_sn : Int32) (u_ic : Int32) (u_wd : Int32) (u_id : Int32) (g_a : Int32) (u_wo : Int64) (u_va : Int64) (u_su : Int64) (u_st : Int64) (v_tp : Nat → Int32) (v_op : Nat → Int32) (v_ar : Nat → Int32) (v_pi : Nat → Int32) (v_pa : Nat → Int32) (g_op : Nat → Int32) (g_ar : Nat → Int32) (h_u_td : 0 ≤ u_td.toInt ∧ u_td.toInt ≤ 400) (h_u_fr : 0 ≤ u_fr.toInt ∧ u_fr.toInt ≤ 400) (h_u_to : 0 ≤ u_to.toInt ∧ u_to.toInt ≤ 400) (h_u_bd : 0 ≤ u_bd.toInt ∧ u_bd.toInt ≤ 0) (h_u_nc : 0 ≤ u_nc.toInt ∧ u_nc.toInt ≤ 12) (h_u_co : 0 ≤ u_co.toInt ∧ u_co.toInt ≤ 400) (h_u_pd : 0 ≤ u_pd.toInt ∧ u_pd.toInt ≤ 400) (h_u_la : 0 ≤ u_la.toInt ∧ u_la.toInt ≤ 4840) (h_u_bk : 0 ≤ u_bk.toInt ∧ u_bk.toInt ≤ 1) (h_u_ce : 0 ≤ u_ce.toInt ∧ u_ce.toInt ≤ 63) (h_u_ho : 0 ≤ u_ho.toInt ∧ u_ho.toInt ≤ 23) (h_u_wy : 0 ≤ u_wy.toInt ∧ u_wy.toInt ≤ 3) (h_u_bt : 0 ≤ u_bt.toInt ∧ u_bt.toInt ≤ 1000000) (h_u_ps : 0 ≤ u_ps.toInt ∧ u_ps.toInt ≤ 200) (h_u_ic : 0 ≤ u_ic.toInt ∧ u_ic.toInt ≤ 1) (h_u_id : 0 ≤ u_id.toInt ∧ u_id.toInt ≤ 1) (e_t : u_fr.toInt ≤ u_to.toInt ∧ u_to.toInt ≤ u_td.toInt) (e_s : TKs u_so.toInt u_fr.toInt u_to.toInt) (e_x : XJ g_op g_ar v_op v_ar v_pi v_pa g_a.toInt u_co.toInt u_pd.toInt u_fr.toInt) (e_j : TJ v_op v_ar v_pi v_pa g_a.toInt u_co.toInt u_pd.toInt 2) : Met l yX12_behindTest (wsG yX12_behindTest cX12_behindTest 2 (some .int)) ({ frames := 3, cells := 0, slots := 0, locals := 61 }) (va_Pc [.ref b_o] (g5_P G [(b_o, (oc12 u_th u_sa b_rf b_ro b_im b_ke u_fd b_tp u_td u_fr u_to u_so u_wo u_fa u_bd u_nc b_nl u_co b_op b_ar u_le b_pi b_pa u_pd u_od b_ws b_hw u_la b_se b_re u_bk u_va u_su u_ce u_ho u_wy u_bt u_ps b_pt u_tg u_sn b_ip u_ic b_ah b_be b_me u_wd b_tr b_ld u_st b_wn u_id)), (b_tp, (arI G 400 v_tp)), (b_op, (arI G 400 v_op)), (b_ar, (arI G 400 v_ar)), (b_pi, (arI G 400 v_pi)), (b_pa, (arI G 400 v_pa))] sz)) (va_Qi (fun (r : Int32) (u : va_W) => (∃ (o_r : Int32), (0 ≤ o_r.toInt ∧ o_r.toInt ≤ 4) ∧ (r = o_r) ∧ (u = [(b_o, (oc12 u_th u_sa b_rf b_ro b_im b_ke u_fd b_tp u_td u_fr u_to u_so u_wo u_fr 1 u_nc b_nl u_co b_op b_ar u_le b_pi b_pa u_pd u_od b_ws b_hw u_la b_se b_re u_bk u_va u_su u_ce u_ho u_wy u_bt u_ps b_pt u_tg u_sn b_ip u_ic b_ah b_be b_me u_wd b_tr b_ld u_st b_wn u_id)), (b_tp, (arI G 400 v_tp)), (b_op, (arI G 400 v_op)), (b_ar, (arI G 400 v_ar)), (b_pi, (arI G 400 v_pi)), (b_pa, (arI G 400 v_pa))])) ∨ (∃ (o_r : Int32) (o_fr : Int32) (o_to : Int32) (o_so : Int32) (o_wo : Int64) (o_co : Int32) (o_pd : Int32) (o_od : Int32) (o_op : Nat → Int32) (o_ar : Nat → Int32) (o_pi : Nat → Int32) (o_pa : Nat → Int32), (0 ≤ o_fr.toInt ∧ o_fr.toInt ≤ 400) ∧ (0 ≤ o_to.toInt ∧ o_to.toInt ≤ 400) ∧ (0 ≤ o_co.toInt ∧ o_co.toInt ≤ 400) ∧ (0 ≤ o_pd.toInt ∧ o_pd.toInt ≤ 400) ∧ (0 ≤ o_r.toInt ∧ o_r.toInt ≤ 4) ∧ (u_fr.toInt ≤ o_fr.toInt ∧ o_fr.toInt ≤ o_to.toInt ∧ o_to.toInt ≤ u_td.toInt) ∧ (TKs o_so.toInt o_fr.toInt o_to.toInt) ∧ (XJ g_op g_ar o_op o_ar o_pi o_pa g_a.toInt o_co.toInt o_pd.toInt o_fr.toInt) ∧ (TJ o_op o_ar o_pi o_pa g_a.toInt o_co.toInt o_pd.toInt o_r.toInt) ∧ (twt o_r.toInt + 1 ≤ 1 + 3 * (o_fr.toInt - u_fr.toInt)) ∧ (r = o_r) ∧ (u = [(b_o, (oc12 u_th u_sa b_rf b_ro b_im b_ke u_fd b_tp u_td o_fr o_to o_so o_wo u_fa u_bd u_nc b_nl o_co b_op b_ar u_le b_pi b_pa o_pd o_od b_ws b_hw u_la b_se b_re u_bk u_va u_su u_ce u_ho u_wy u_bt u_ps b_pt u_tg u_sn b_ip u_ic b_ah b_be b_me u_wd b_tr b_ld u_st b_wn u_id)), (b_tp, (arI G 400 v_tp)), (b_op, (arI G 400 o_op)), (b_ar, (arI G 400 o_ar)), (b_pi, (arI G 400 o_pi)), (b_pa, (arI G 400 o_pa))]))) (g5_B G (va_A [(b_o, (oc12 u_th u_sa b_rf b_ro b_im b_ke u_fd b_tp u_td u_fr u_to u_so u_wo u_fa u_bd u_nc b_nl u_co b_op b_ar u_le b_pi b_pa u_pd u_od b_ws b_hw u_la b_se b_re u_bk u_va u_su u_ce u_ho u_wy u_bt u_ps b_pt u_tg u_sn b_ip u_ic b_ah b_be b_me u_wd b_tr b_ld u_st b_wn u_id)), (b_tp, (arI G 400 v_tp)), (b_op, (arI G 400 v_op)), (b_ar, (arI G 400 v_ar)), (b_pi, (arI G 400 v_pi)), (b_pa, (arI G 400 v_pa))] sz)) (va_A [(b_o, (oc12 u_th u_sa b_rf b_ro b_im b_ke u_fd b_tp u_td u_fr u_to u_so u_wo u_fa u_bd u_nc b_nl u_co b_op b_ar u_le b_pi b_pa u_pd u_od b_ws b_hw u_la b_se b_re u_bk u_va u_su u_ce u_ho u_wy u_bt u_ps b_pt u_tg u_sn b_ip u_ic b_ah b_be b_me u_wd b_tr b_ld u_st b_wn u_id)), (b_tp, (arI G 400 v_tp)), (b_op, (arI G 400 v_op)), (b_ar, (arI G 400 v_ar)), (b_pi, (arI G 400 v_pi)), (b_pa, (arI G 400 v_pa))] sz)) 0 0 (va_A [(b_o, (oc12 u_th u_sa b_rf b_ro b_im b_ke u_fd b_tp u_td u_fr u_to u_so u_wo u_fa u_bd u_nc b_nl u_co b_op b_ar u_le b_pi b_pa u_pd u_od b_ws b_hw u_la b_se b_re u_bk u_va u_su u_ce u_ho u_wy u_bt u_ps b_pt u_tg u_sn b_ip u_ic b_ah b_be b_me u_wd b_tr b_ld u_st b_wn u_id)), (b_tp, (arI G 400 v_tp)), (b_op, (arI G 400 v_op)), (b_ar, (arI G 400 v_ar)), (b_pi, (arI G 400 v_pi)), (b_pa, (arI G 400 v_pa))] sz) := by
  refine Met.ofW (cc := cX12_behindTest) (maxL := 2) (ret := (some .int)) (by decide) rfl ?_
  intro p e s m args below meth c s₁ B hml hv
  obtain ⟨rfl, hsz, hP, hK, hD0, hN, hT⟩ := hv
  have hx := B.exec
  have hb := B.bytes
  have hr := B.returns
  have hts : ∀ w ∈ tblG, w.before _ s = true := fun w h => atoms_spec (ws := (wsG yX12_behindTest cX12_behindTest 2 (some .int))) B.pre w (List.mem_cons_of_mem _ h)
  have hown : s.vm.findClass RX12 = some m.cls := findClass_of_methodNamed B.named
  have hlocks := B.notSynchronized
  subst hsz
  have hD := hD0.self (sz := s.heap.size)
  generalize hAe : va_A [(b_o, (oc12 u_th u_sa b_rf b_ro b_im b_ke u_fd b_tp u_td u_fr u_to u_so u_wo u_fa u_bd u_nc b_nl u_co b_op b_ar u_le b_pi b_pa u_pd u_od b_ws b_hw u_la b_se b_re u_bk u_va u_su u_ce u_ho u_wy u_bt u_ps b_pt u_tg u_sn b_ip u_ic b_ah b_be b_me u_wd b_tr b_ld u_st b_wn u_id)), (b_tp, (arI G 400 v_tp)), (b_op, (arI G 400 v_op)), (b_ar, (arI G 400 v_ar)), (b_pi, (arI G 400 v_pi)), (b_pa, (arI G 400 v_pa))] s.heap.size = A at hD hT ⊢
  have hA : ∀ q : Nat, s.heap.size ≤ q → A q := fun q h => by rw [← hAe]; exact Or.inr h
  have hS : va_S A s.heap s.heap [] := va_S.rf
  have hP : va_P G.1 vwCl [(b_o, (oc12 u_th u_sa b_rf b_ro b_im b_ke u_fd b_tp u_td u_fr u_to u_so u_wo u_fa u_bd u_nc b_nl u_co b_op b_ar u_le b_pi b_pa u_pd u_od b_ws b_hw u_la b_se b_re u_bk u_va u_su u_ce u_ho u_wy u_bt u_ps b_pt u_tg u_sn b_ip u_ic b_ah b_be b_me u_wd b_tr b_ld u_st b_wn u_id)), (b_tp, (arI G 400 v_tp)), (b_op, (arI G 400 v_op)), (b_ar, (arI G 400 v_ar)), (b_pi, (arI G 400 v_pi)), (b_pa, (arI G 400 v_pa))] s.heap := hP
  have hl := lv_entry ([.ref b_o]) (n := 2) (Nat.le_of_ble_eq_true rfl)
  rw [lg_entry_eq]
  generalize (lg_sl ([.ref b_o]) ++ List.replicate (2 - (lg_sl ([.ref b_o])).length) Slot.unset).toArray = ls at hl ⊢
  have hl : lv_has ls 2 [(0, .ref b_o)] := hl
  have hmf9 := xj_mf e_x
  refine lv_aload_n hx hb dX12_behindTest_0 rfl (lv_at hl 0 rfl) ?_
  refine lv_ldc2 (v := 1476) hx hb hown (hts _ kl_X12_298) dX12_behindTest_1 ?_
  obtain ⟨hPc, hDc, hFc⟩ := g5_sub3 (wc := [(b_o, (oc12 u_th u_sa b_rf b_ro b_im b_ke u_fd b_tp u_td u_fr u_to u_so u_wo u_fa u_bd u_nc b_nl u_co b_op b_ar u_le b_pi b_pa u_pd u_od b_ws b_hw u_la b_se b_re u_bk u_va u_su u_ce u_ho u_wy u_bt u_ps b_pt u_tg u_sn b_ip u_ic b_ah b_be b_me u_wd b_tr b_ld u_st b_wn u_id))]) hP hD hS hA [0] (by decide) rfl
  refine va_calli (va_runV (As := [.long 1476]) (rest := []) ⟨hx, hb, hml, hown, hts⟩ (n_isWord l G b_o b_rf b_ro b_im b_ke b_tp b_nl b_op b_ar b_pi b_pa b_ws b_hw b_se b_re b_pt b_ip b_ah b_be b_me b_tr b_ld b_wn s.heap.size u_th u_sa u_fd u_td u_fr u_to u_so u_fa u_bd u_nc u_co u_le u_pd u_od u_la u_bk u_ce u_ho u_wy u_bt u_ps u_tg u_sn u_ic u_wd u_id u_wo u_va u_su u_st 1476 h_u_td h_u_fr h_u_to ⟨by omega, by omega⟩ h_u_nc h_u_co h_u_pd h_u_la h_u_bk h_u_ce h_u_ho h_u_wy h_u_bt h_u_ps h_u_ic h_u_id) (cwV 1 hts gV_X12_254 rfl rfl rfl hv_X12_isWord ⟨Nat.le_of_ble_eq_true rfl, Nat.le_of_ble_eq_true rfl⟩) (g5_preV hPc hK hDc hN hT hS hFc (ci := 12) (q0 := 0) rfl rfl) rfl rfl hl.1 rfl (lv_room (Nat.le_of_ble_eq_true rfl)) dX12_behindTest_4 ⟨Nat.le_of_ble_eq_true rfl, Nat.le_of_ble_eq_true rfl⟩) hS (fun q _ h => hFc q h) hFc (fun r u t H1 locs ht hvm hw hB hz1 hk1 hS => ?_)
  obtain ⟨hP1, hD1⟩ := hB
  rw [ht] at hP1
  rcases hw with ⟨i_1, rfl, rfl⟩ | ⟨rfl, rfl⟩
  ·
    have i_1 : u_so.toInt = 1 := i_1
    obtain ⟨hP, hD⟩ := va_join (wr := [(b_tp, (arI G 400 v_tp)), (b_op, (arI G 400 v_op)), (b_ar, (arI G 400 v_ar)), (b_pi, (arI G 400 v_pi)), (b_pa, (arI G 400 v_pa))]) hP hD [0] [1, 2, 3, 4, 5] rfl rfl (by decide) (by decide) hk1 hFc hP1 hD1
    generalize H1 = H at hP hS ⊢
    refine g5_rs [(b_tp, (arI G 400 v_tp)), (b_op, (arI G 400 v_op)), (b_ar, (arI G 400 v_ar)), (b_pi, (arI G 400 v_pi)), (b_pa, (arI G 400 v_pa)), (b_o, (oc12 u_th u_sa b_rf b_ro b_im b_ke u_fd b_tp u_td u_fr u_to u_so u_wo u_fa u_bd u_nc b_nl u_co b_op b_ar u_le b_pi b_pa u_pd u_od b_ws b_hw u_la b_se b_re u_bk u_va u_su u_ce u_ho u_wy u_bt u_ps b_pt u_tg u_sn b_ip u_ic b_ah b_be b_me u_wd b_tr b_ld u_st b_wn u_id))] hP hD (fun hP hD => ?_)
    refine lv_istore_n (lv' := [(1, .int 1), (0, .ref b_o)]) hx hb dX12_behindTest_7 rfl hl (by decide) rfl (fun ls hl => ?_)
    refine lv_iload_n hx hb dX12_behindTest_8 rfl (lv_at hl 0 rfl) ?_
    refine lv_if_ne (tgt := 22) hx hb dX12_behindTest_9 (by decide) (fun c_2 => ?_) (fun c_2 => ?_)
    ·
      have hlt9 : u_fr.toInt < u_to.toInt := tks_lt e_s (by omega)
      have hE_3 : HJ v_op v_ar v_pi v_pa g_a.toInt u_co.toInt u_pd.toInt 1 := tj_d1 e_j (by decide)
      refine lv_aload_n hx hb dX12_behindTest_22 rfl (lv_at hl 1 rfl) ?_
      refine lv_iload_n hx hb dX12_behindTest_23 rfl (lv_at hl 0 rfl) ?_
      refine lv_if_eq (tgt := 31) hx hb dX12_behindTest_24 (by decide) (fun c_4 => ?_) (fun c_4 => ?_)
      ·
        exact absurd c_4 (by decide)
      ·
        refine lv_iconst (v := 2) hx hb dX12_behindTest_27 (by decide) ?_
        refine lv_goto (tgt := 32) hx hb dX12_behindTest_28 (by decide) ?_
        obtain ⟨hPc, hDc, hFc⟩ := g5_sub3 (wc := [(b_o, (oc12 u_th u_sa b_rf b_ro b_im b_ke u_fd b_tp u_td u_fr u_to u_so u_wo u_fa u_bd u_nc b_nl u_co b_op b_ar u_le b_pi b_pa u_pd u_od b_ws b_hw u_la b_se b_re u_bk u_va u_su u_ce u_ho u_wy u_bt u_ps b_pt u_tg u_sn b_ip u_ic b_ah b_be b_me u_wd b_tr b_ld u_st b_wn u_id)), (b_op, (arI G 400 v_op)), (b_ar, (arI G 400 v_ar)), (b_pi, (arI G 400 v_pi)), (b_pa, (arI G 400 v_pa))]) hP hD hS hA [5, 1, 2, 3, 4] (by decide) rfl
        refine va_callv (va_runV (As := [.int 2]) (rest := []) ⟨hx, hb, hml, hown, hts⟩ (n_settleH l G b_o b_op b_ar b_pi b_pa b_rf b_ro b_im b_ke b_tp b_nl b_ws b_hw b_se b_re b_pt b_ip b_ah b_be b_me b_tr b_ld b_wn H.size u_th u_sa u_fd u_td u_fr u_to u_so u_fa u_bd u_nc u_co u_le u_pd u_od u_la u_bk u_ce u_ho u_wy u_bt u_ps u_tg u_sn u_ic u_wd u_id 2 g_a u_fr u_wo u_va u_su u_st v_op v_ar v_pi v_pa g_op g_ar h_u_td h_u_fr h_u_to ⟨by omega, by omega⟩ h_u_nc h_u_co h_u_pd h_u_la h_u_bk h_u_ce h_u_ho h_u_wy h_u_bt h_u_ps h_u_ic h_u_id ⟨by decide, by decide⟩ (by omega) (e_x) (hE_3)) (cwV 1 hts gV_X12_288 rfl rfl rfl hv_X12_settle ⟨Nat.le_of_ble_eq_true rfl, Nat.le_of_ble_eq_true rfl⟩) (g5_preV hPc hK hDc hN hT hS hFc (ci := 12) (q0 := 0) rfl rfl) rfl rfl hl.1 rfl (lv_room (Nat.le_of_ble_eq_true rfl)) dX12_behindTest_32 ⟨Nat.le_of_ble_eq_true rfl, Nat.le_of_ble_eq_true rfl⟩) hS (fun q _ h => hFc q h) hFc (fun u t H1 locs ht hvm hw hB hz1 hk1 hS => ?_)
        obtain ⟨hP1, hD1⟩ := hB
        rw [ht] at hP1
        obtain ⟨z12, z13, z14, z15, i_5, i_6, i_7, i_8, i_9, i_10, i_11, rfl⟩ := hw
        have i_5 : 0 ≤ z12.toInt ∧ z12.toInt ≤ 400 := i_5
        have i_6 : 0 ≤ z13.toInt ∧ z13.toInt ≤ 400 := i_6
        have i_7 : XJ g_op g_ar z14 z15 v_pi v_pa g_a.toInt z12.toInt z13.toInt u_fr.toInt := i_7
        have i_8 : HJ z14 z15 v_pi v_pa g_a.toInt z12.toInt z13.toInt 1 := i_8
        have i_9 : S1 v_pi u_pd.toInt z13.toInt := i_9
        have i_10 : S2 v_pi z13.toInt (2 : Int32).toInt := i_10
        have i_11 : z13.toInt ≤ u_pd.toInt := i_11
        obtain ⟨hP, hD⟩ := va_join (wr := [(b_tp, (arI G 400 v_tp))]) hP hD [5, 1, 2, 3, 4] [0] rfl rfl (by decide) (by decide) hk1 hFc hP1 hD1
        generalize H1 = H at hP hS ⊢
        refine g5_rs [(b_tp, (arI G 400 v_tp)), (b_o, (oc12 u_th u_sa b_rf b_ro b_im b_ke u_fd b_tp u_td u_fr u_to u_so u_wo u_fa u_bd u_nc b_nl z12 b_op b_ar u_le b_pi b_pa z13 u_od b_ws b_hw u_la b_se b_re u_bk u_va u_su u_ce u_ho u_wy u_bt u_ps b_pt u_tg u_sn b_ip u_ic b_ah b_be b_me u_wd b_tr b_ld u_st b_wn u_id)), (b_op, (arI G 400 z14)), (b_ar, (arI G 400 z15)), (b_pi, (arI G 400 v_pi)), (b_pa, (arI G 400 v_pa))] hP hD (fun hP hD => ?_)
        have hmf8 := xj_mf i_7
        refine lv_aload_n hx hb dX12_behindTest_35 rfl (lv_at hl 1 rfl) ?_
        refine lv_iload_n hx hb dX12_behindTest_36 rfl (lv_at hl 0 rfl) ?_
        refine lv_if_eq (tgt := 45) hx hb dX12_behindTest_37 (by decide) (fun c_16 => ?_) (fun c_16 => ?_)
        ·
          exact absurd c_16 (by decide)
        ·
          refine lv_bipush (v := 28) hx hb dX12_behindTest_40 (by decide) ?_
          refine lv_goto (tgt := 47) hx hb dX12_behindTest_42 (by decide) ?_
          refine lv_aload_n hx hb dX12_behindTest_47 rfl (lv_at hl 1 rfl) ?_
          refine va_get (D := G.1) (ci := 12) (v := .int z12) (C := RX12) (T := TX12) (N := 52) hx hb hts inG_X12 hown hK hP 1 rfl rfl 17 (by decide) (hts _ fl_X12_237) (fun _ h9 => h9) rfl dX12_behindTest_48 ?_
          obtain ⟨hPc, hDc, hFc⟩ := g5_sub3 (wc := [(b_o, (oc12 u_th u_sa b_rf b_ro b_im b_ke u_fd b_tp u_td u_fr u_to u_so u_wo u_fa u_bd u_nc b_nl z12 b_op b_ar u_le b_pi b_pa z13 u_od b_ws b_hw u_la b_se b_re u_bk u_va u_su u_ce u_ho u_wy u_bt u_ps b_pt u_tg u_sn b_ip u_ic b_ah b_be b_me u_wd b_tr b_ld u_st b_wn u_id)), (b_pi, (arI G 400 v_pi)), (b_pa, (arI G 400 v_pa))]) hP hD hS hA [1, 4, 5] (by decide) rfl
          refine va_callv (va_runV (As := [.int 28, .int z12]) (rest := []) ⟨hx, hb, hml, hown, hts⟩ (n_push l G b_o b_pi b_pa b_rf b_ro b_im b_ke b_tp b_nl b_op b_ar b_ws b_hw b_se b_re b_pt b_ip b_ah b_be b_me b_tr b_ld b_wn H.size u_th u_sa u_fd u_td u_fr u_to u_so u_fa u_bd u_nc z12 u_le z13 u_od u_la u_bk u_ce u_ho u_wy u_bt u_ps u_tg u_sn u_ic u_wd u_id 28 z12 u_wo u_va u_su u_st v_pi v_pa h_u_td h_u_fr h_u_to ⟨by omega, by omega⟩ h_u_nc i_5 i_6 h_u_la h_u_bk h_u_ce h_u_ho h_u_wy h_u_bt h_u_ps h_u_ic h_u_id (by omega)) (cwV 2 hts gV_X12_261 rfl rfl rfl hv_X12_push ⟨Nat.le_of_ble_eq_true rfl, Nat.le_of_ble_eq_true rfl⟩) (g5_preV hPc hK hDc hN hT hS hFc (ci := 12) (q0 := 0) rfl rfl) rfl rfl hl.1 rfl (lv_room (Nat.le_of_ble_eq_true rfl)) dX12_behindTest_51 ⟨Nat.le_of_ble_eq_true rfl, Nat.le_of_ble_eq_true rfl⟩) hS (fun q _ h => hFc q h) hFc (fun u t H1 locs ht hvm hw hB hz1 hk1 hS => ?_)
          obtain ⟨hP1, hD1⟩ := hB
          rw [ht] at hP1
          obtain ⟨z19, i_17, i_18, rfl⟩ := hw
          have i_17 : 0 ≤ z19.toInt ∧ z19.toInt ≤ 400 := i_17
          have i_18 : z19.toInt = z13.toInt + 1 := i_18
          obtain ⟨hP, hD⟩ := va_join (wr := [(b_tp, (arI G 400 v_tp)), (b_op, (arI G 400 z14)), (b_ar, (arI G 400 z15))]) hP hD [1, 4, 5] [0, 2, 3] rfl rfl (by decide) (by decide) hk1 hFc hP1 hD1
          generalize H1 = H at hP hS ⊢
          refine g5_rs [(b_tp, (arI G 400 v_tp)), (b_op, (arI G 400 z14)), (b_ar, (arI G 400 z15)), (b_o, (oc12 u_th u_sa b_rf b_ro b_im b_ke u_fd b_tp u_td u_fr u_to u_so u_wo u_fa u_bd u_nc b_nl z12 b_op b_ar u_le b_pi b_pa z19 u_od b_ws b_hw u_la b_se b_re u_bk u_va u_su u_ce u_ho u_wy u_bt u_ps b_pt u_tg u_sn b_ip u_ic b_ah b_be b_me u_wd b_tr b_ld u_st b_wn u_id)), (b_pi, (arI G 400 (upd v_pi z13.toNatClampNeg 28))), (b_pa, (arI G 400 (upd v_pa z13.toNatClampNeg z12)))] hP hD (fun hP hD => ?_)
          refine lv_aload_n hx hb dX12_behindTest_54 rfl (lv_at hl 1 rfl) ?_
          refine lv_iload_n hx hb dX12_behindTest_55 rfl (lv_at hl 0 rfl) ?_
          refine lv_if_eq (tgt := 64) hx hb dX12_behindTest_56 (by decide) (fun c_20 => ?_) (fun c_20 => ?_)
          ·
            exact absurd c_20 (by decide)
          ·
            refine lv_bipush (v := 28) hx hb dX12_behindTest_59 (by decide) ?_
            refine lv_goto (tgt := 66) hx hb dX12_behindTest_61 (by decide) ?_
            refine lv_iconst (v := 0) hx hb dX12_behindTest_66 (by decide) ?_
            obtain ⟨hPc, hDc, hFc⟩ := g5_sub3 (wc := [(b_o, (oc12 u_th u_sa b_rf b_ro b_im b_ke u_fd b_tp u_td u_fr u_to u_so u_wo u_fa u_bd u_nc b_nl z12 b_op b_ar u_le b_pi b_pa z19 u_od b_ws b_hw u_la b_se b_re u_bk u_va u_su u_ce u_ho u_wy u_bt u_ps b_pt u_tg u_sn b_ip u_ic b_ah b_be b_me u_wd b_tr b_ld u_st b_wn u_id)), (b_op, (arI G 400 z14)), (b_ar, (arI G 400 z15))]) hP hD hS hA [3, 1, 2] (by decide) rfl
            refine va_callv (va_runV (As := [.int 28, .int 0]) (rest := []) ⟨hx, hb, hml, hown, hts⟩ (n_emit l G b_o b_op b_ar b_rf b_ro b_im b_ke b_tp b_nl b_pi b_pa b_ws b_hw b_se b_re b_pt b_ip b_ah b_be b_me b_tr b_ld b_wn H.size u_th u_sa u_fd u_td u_fr u_to u_so u_fa u_bd u_nc z12 u_le z19 u_od u_la u_bk u_ce u_ho u_wy u_bt u_ps u_tg u_sn u_ic u_wd u_id 28 0 u_wo u_va u_su u_st z14 z15 h_u_td h_u_fr h_u_to ⟨by omega, by omega⟩ h_u_nc i_5 i_17 h_u_la h_u_bk h_u_ce h_u_ho h_u_wy h_u_bt h_u_ps h_u_ic h_u_id (by omega)) (cwV 2 hts gV_X12_246 rfl rfl rfl hv_X12_emit ⟨Nat.le_of_ble_eq_true rfl, Nat.le_of_ble_eq_true rfl⟩) (g5_preV hPc hK hDc hN hT hS hFc (ci := 12) (q0 := 0) rfl rfl) rfl rfl hl.1 rfl (lv_room (Nat.le_of_ble_eq_true rfl)) dX12_behindTest_67 ⟨Nat.le_of_ble_eq_true rfl, Nat.le_of_ble_eq_true rfl⟩) hS (fun q _ h => hFc q h) hFc (fun u t H1 locs ht hvm hw hB hz1 hk1 hS => ?_)
            obtain ⟨hP1, hD1⟩ := hB
            rw [ht] at hP1
            obtain ⟨z23, i_21, i_22, rfl⟩ := hw
            have i_21 : 0 ≤ z23.toInt ∧ z23.toInt ≤ 400 := i_21
            have i_22 : z23.toInt = z12.toInt + 1 := i_22
            obtain ⟨hP, hD⟩ := va_join (wr := [(b_tp, (arI G 400 v_tp)), (b_pi, (arI G 400 (upd v_pi z13.toNatClampNeg 28))), (b_pa, (arI G 400 (upd v_pa z13.toNatClampNeg z12)))]) hP hD [3, 1, 2] [0, 4, 5] rfl rfl (by decide) (by decide) hk1 hFc hP1 hD1
            generalize H1 = H at hP hS ⊢
            refine g5_rs [(b_tp, (arI G 400 v_tp)), (b_pi, (arI G 400 (upd v_pi z13.toNatClampNeg 28))), (b_pa, (arI G 400 (upd v_pa z13.toNatClampNeg z12))), (b_o, (oc12 u_th u_sa b_rf b_ro b_im b_ke u_fd b_tp u_td u_fr u_to u_so u_wo u_fa u_bd u_nc b_nl z23 b_op b_ar u_le b_pi b_pa z19 u_od b_ws b_hw u_la b_se b_re u_bk u_va u_su u_ce u_ho u_wy u_bt u_ps b_pt u_tg u_sn b_ip u_ic b_ah b_be b_me u_wd b_tr b_ld u_st b_wn u_id)), (b_op, (arI G 400 (upd z14 z12.toNatClampNeg 28))), (b_ar, (arI G 400 (upd z15 z12.toNatClampNeg 0)))] hP hD (fun hP hD => ?_)
            refine lv_aload_n hx hb dX12_behindTest_70 rfl (lv_at hl 1 rfl) ?_
            obtain ⟨hPc, hDc, hFc⟩ := g5_sub3 (wc := [(b_o, (oc12 u_th u_sa b_rf b_ro b_im b_ke u_fd b_tp u_td u_fr u_to u_so u_wo u_fa u_bd u_nc b_nl z23 b_op b_ar u_le b_pi b_pa z19 u_od b_ws b_hw u_la b_se b_re u_bk u_va u_su u_ce u_ho u_wy u_bt u_ps b_pt u_tg u_sn b_ip u_ic b_ah b_be b_me u_wd b_tr b_ld u_st b_wn u_id)), (b_tp, (arI G 400 v_tp))]) hP hD hS hA [3, 0] (by decide) rfl
            refine va_callv (va_runV (As := []) (rest := []) ⟨hx, hb, hml, hown, hts⟩ (n_next l G b_o b_tp b_rf b_ro b_im b_ke b_nl b_op b_ar b_pi b_pa b_ws b_hw b_se b_re b_pt b_ip b_ah b_be b_me b_tr b_ld b_wn H.size u_th u_sa u_fd u_td u_fr u_to u_so u_fa u_bd u_nc z23 u_le z19 u_od u_la u_bk u_ce u_ho u_wy u_bt u_ps u_tg u_sn u_ic u_wd u_id u_wo u_va u_su u_st v_tp h_u_td h_u_fr h_u_to ⟨by omega, by omega⟩ h_u_nc i_21 i_17 h_u_la h_u_bk h_u_ce h_u_ho h_u_wy h_u_bt h_u_ps h_u_ic h_u_id (by omega)) (cwV 0 hts gV_X12_208 rfl rfl rfl hv_X12_next ⟨Nat.le_of_ble_eq_true rfl, Nat.le_of_ble_eq_true rfl⟩) (g5_preV hPc hK hDc hN hT hS hFc (ci := 12) (q0 := 0) rfl rfl) rfl rfl hl.1 rfl (lv_room (Nat.le_of_ble_eq_true rfl)) dX12_behindTest_71 ⟨Nat.le_of_ble_eq_true rfl, Nat.le_of_ble_eq_true rfl⟩) hS (fun q _ h => hFc q h) hFc (fun u t H1 locs ht hvm hw hB hz1 hk1 hS => ?_)
            obtain ⟨hP1, hD1⟩ := hB
            rw [ht] at hP1
            obtain ⟨z28, z29, z30, z31, i_24, i_25, i_26, i_27, rfl⟩ := hw
            have i_24 : 0 ≤ z28.toInt ∧ z28.toInt ≤ 400 := i_24
            have i_25 : 0 ≤ z29.toInt ∧ z29.toInt ≤ 400 := i_25
            have i_26 : u_to.toInt ≤ z28.toInt ∧ z28.toInt ≤ z29.toInt ∧ z29.toInt ≤ u_td.toInt := i_26
            have i_27 : TKs z30.toInt z28.toInt z29.toInt := i_27
            obtain ⟨hP, hD⟩ := va_join (wr := [(b_pi, (arI G 400 (upd v_pi z13.toNatClampNeg 28))), (b_pa, (arI G 400 (upd v_pa z13.toNatClampNeg z12))), (b_op, (arI G 400 (upd z14 z12.toNatClampNeg 28))), (b_ar, (arI G 400 (upd z15 z12.toNatClampNeg 0)))]) hP hD [3, 0] [1, 2, 4, 5] rfl rfl (by decide) (by decide) hk1 hFc hP1 hD1
            generalize H1 = H at hP hS ⊢
            refine g5_rs [(b_pi, (arI G 400 (upd v_pi z13.toNatClampNeg 28))), (b_pa, (arI G 400 (upd v_pa z13.toNatClampNeg z12))), (b_op, (arI G 400 (upd z14 z12.toNatClampNeg 28))), (b_ar, (arI G 400 (upd z15 z12.toNatClampNeg 0))), (b_o, (oc12 u_th u_sa b_rf b_ro b_im b_ke u_fd b_tp u_td z28 z29 z30 z31 u_fa u_bd u_nc b_nl z23 b_op b_ar u_le b_pi b_pa z19 u_od b_ws b_hw u_la b_se b_re u_bk u_va u_su u_ce u_ho u_wy u_bt u_ps b_pt u_tg u_sn b_ip u_ic b_ah b_be b_me u_wd b_tr b_ld u_st b_wn u_id)), (b_tp, (arI G 400 v_tp))] hP hD (fun hP hD => ?_)
            refine lv_iconst (v := 0) hx hb dX12_behindTest_74 (by decide) ?_
            exact W.iret (v := 0) hx hb hr (fun t ht hW => ⟨⟨0, [(b_o, (oc12 u_th u_sa b_rf b_ro b_im b_ke u_fd b_tp u_td z28 z29 z30 z31 u_fa u_bd u_nc b_nl z23 b_op b_ar u_le b_pi b_pa z19 u_od b_ws b_hw u_la b_se b_re u_bk u_va u_su u_ce u_ho u_wy u_bt u_ps b_pt u_tg u_sn b_ip u_ic b_ah b_be b_me u_wd b_tr b_ld u_st b_wn u_id)), (b_tp, (arI G 400 v_tp)), (b_op, (arI G 400 (upd z14 z12.toNatClampNeg 28))), (b_ar, (arI G 400 (upd z15 z12.toNatClampNeg 0))), (b_pi, (arI G 400 (upd v_pi z13.toNatClampNeg 28))), (b_pa, (arI G 400 (upd v_pa z13.toNatClampNeg z12)))], rfl, Or.inr (⟨0, z28, z29, z30, z31, z23, z19, u_od, (upd z14 z12.toNatClampNeg 28), (upd z15 z12.toNatClampNeg 0), (upd v_pi z13.toNatClampNeg 28), (upd v_pa z13.toNatClampNeg z12), i_24, i_25, i_21, i_17, ⟨by have zc_o_r : (0 : Int32).toInt = 0 := (by decide); omega, by have zc_o_r : (0 : Int32).toInt = 0 := (by decide); omega⟩, by omega, i_27, xj_pushJ i_7 (by omega) (by omega) (by omega) (Or.inl (by decide)), tj_0 (hj_pushJ i_7 i_8 (by omega) (by omega) (Or.inl (by decide)) (no31_le (e_j.2.1 (Or.inr rfl)) (by omega))) (by decide) (no31_push (no31_le (e_j.2.1 (Or.inr rfl)) (by omega)) (by omega) (by omega) (by decide)), by have w9 := (twt_0 (by decide) : twt (0 : Int32).toInt = 0); omega, rfl, rfl⟩), by rw [ht]; exact hP.sub [4, 5, 2, 3, 0, 1] rfl, hD.sub [4, 5, 2, 3, 0, 1] (by decide) rfl⟩, hS.F ht⟩) hS.2.2 dX12_behindTest_75
    ·
      exact absurd c_2 (by decide)
  ·
    obtain ⟨hP, hD⟩ := va_join (wr := [(b_tp, (arI G 400 v_tp)), (b_op, (arI G 400 v_op)), (b_ar, (arI G 400 v_ar)), (b_pi, (arI G 400 v_pi)), (b_pa, (arI G 400 v_pa))]) hP hD [0] [1, 2, 3, 4, 5] rfl rfl (by decide) (by decide) hk1 hFc hP1 hD1
    generalize H1 = H at hP hS ⊢
    refine g5_rs [(b_tp, (arI G 400 v_tp)), (b_op, (arI G 400 v_op)), (b_ar, (arI G 400 v_ar)), (b_pi, (arI G 400 v_pi)), (b_pa, (arI G 400 v_pa)), (b_o, (oc12 u_th u_sa b_rf b_ro b_im b_ke u_fd b_tp u_td u_fr u_to u_so u_wo u_fa u_bd u_nc b_nl u_co b_op b_ar u_le b_pi b_pa u_pd u_od b_ws b_hw u_la b_se b_re u_bk u_va u_su u_ce u_ho u_wy u_bt u_ps b_pt u_tg u_sn b_ip u_ic b_ah b_be b_me u_wd b_tr b_ld u_st b_wn u_id))] hP hD (fun hP hD => ?_)
    refine lv_istore_n (lv' := [(1, .int 0), (0, .ref b_o)]) hx hb dX12_behindTest_7 rfl hl (by decide) rfl (fun ls hl => ?_)
    refine lv_iload_n hx hb dX12_behindTest_8 rfl (lv_at hl 0 rfl) ?_
    refine lv_if_ne (tgt := 22) hx hb dX12_behindTest_9 (by decide) (fun c_32 => ?_) (fun c_32 => ?_)
    ·
      exact absurd c_32 (by decide)
    ·
      refine lv_aload_n hx hb dX12_behindTest_12 rfl (lv_at hl 1 rfl) ?_
      refine lv_ldc2 (v := 498) hx hb hown (hts _ kl_X12_300) dX12_behindTest_13 ?_
      obtain ⟨hPc, hDc, hFc⟩ := g5_sub3 (wc := [(b_o, (oc12 u_th u_sa b_rf b_ro b_im b_ke u_fd b_tp u_td u_fr u_to u_so u_wo u_fa u_bd u_nc b_nl u_co b_op b_ar u_le b_pi b_pa u_pd u_od b_ws b_hw u_la b_se b_re u_bk u_va u_su u_ce u_ho u_wy u_bt u_ps b_pt u_tg u_sn b_ip u_ic b_ah b_be b_me u_wd b_tr b_ld u_st b_wn u_id))]) hP hD hS hA [5] (by decide) rfl
      refine va_calli (va_runV (As := [.long 498]) (rest := []) ⟨hx, hb, hml, hown, hts⟩ (n_isWord l G b_o b_rf b_ro b_im b_ke b_tp b_nl b_op b_ar b_pi b_pa b_ws b_hw b_se b_re b_pt b_ip b_ah b_be b_me b_tr b_ld b_wn H.size u_th u_sa u_fd u_td u_fr u_to u_so u_fa u_bd u_nc u_co u_le u_pd u_od u_la u_bk u_ce u_ho u_wy u_bt u_ps u_tg u_sn u_ic u_wd u_id u_wo u_va u_su u_st 498 h_u_td h_u_fr h_u_to ⟨by omega, by omega⟩ h_u_nc h_u_co h_u_pd h_u_la h_u_bk h_u_ce h_u_ho h_u_wy h_u_bt h_u_ps h_u_ic h_u_id) (cwV 1 hts gV_X12_254 rfl rfl rfl hv_X12_isWord ⟨Nat.le_of_ble_eq_true rfl, Nat.le_of_ble_eq_true rfl⟩) (g5_preV hPc hK hDc hN hT hS hFc (ci := 12) (q0 := 0) rfl rfl) rfl rfl hl.1 rfl (lv_room (Nat.le_of_ble_eq_true rfl)) dX12_behindTest_16 ⟨Nat.le_of_ble_eq_true rfl, Nat.le_of_ble_eq_true rfl⟩) hS (fun q _ h => hFc q h) hFc (fun r u t H1 locs ht hvm hw hB hz1 hk1 hS => ?_)
      obtain ⟨hP1, hD1⟩ := hB
      rw [ht] at hP1
      rcases hw with ⟨i_33, rfl, rfl⟩ | ⟨rfl, rfl⟩
      ·
        have i_33 : u_so.toInt = 1 := i_33
        obtain ⟨hP, hD⟩ := va_join (wr := [(b_tp, (arI G 400 v_tp)), (b_op, (arI G 400 v_op)), (b_ar, (arI G 400 v_ar)), (b_pi, (arI G 400 v_pi)), (b_pa, (arI G 400 v_pa))]) hP hD [5] [0, 1, 2, 3, 4] rfl rfl (by decide) (by decide) hk1 hFc hP1 hD1
        generalize H1 = H at hP hS ⊢
        refine g5_rs [(b_tp, (arI G 400 v_tp)), (b_op, (arI G 400 v_op)), (b_ar, (arI G 400 v_ar)), (b_pi, (arI G 400 v_pi)), (b_pa, (arI G 400 v_pa)), (b_o, (oc12 u_th u_sa b_rf b_ro b_im b_ke u_fd b_tp u_td u_fr u_to u_so u_wo u_fa u_bd u_nc b_nl u_co b_op b_ar u_le b_pi b_pa u_pd u_od b_ws b_hw u_la b_se b_re u_bk u_va u_su u_ce u_ho u_wy u_bt u_ps b_pt u_tg u_sn b_ip u_ic b_ah b_be b_me u_wd b_tr b_ld u_st b_wn u_id))] hP hD (fun hP hD => ?_)
        refine lv_if_eq (tgt := 76) hx hb dX12_behindTest_19 (by decide) (fun c_34 => ?_) (fun c_34 => ?_)
        ·
          exact absurd c_34 (by decide)
        ·
          have hlt9 : u_fr.toInt < u_to.toInt := tks_lt e_s (by omega)
          have hE_35 : HJ v_op v_ar v_pi v_pa g_a.toInt u_co.toInt u_pd.toInt 1 := tj_d1 e_j (by decide)
          refine lv_aload_n hx hb dX12_behindTest_22 rfl (lv_at hl 1 rfl) ?_
          refine lv_iload_n hx hb dX12_behindTest_23 rfl (lv_at hl 0 rfl) ?_
          refine lv_if_eq (tgt := 31) hx hb dX12_behindTest_24 (by decide) (fun c_36 => ?_) (fun c_36 => ?_)
          ·
            refine lv_iconst (v := 1) hx hb dX12_behindTest_31 (by decide) ?_
            obtain ⟨hPc, hDc, hFc⟩ := g5_sub3 (wc := [(b_o, (oc12 u_th u_sa b_rf b_ro b_im b_ke u_fd b_tp u_td u_fr u_to u_so u_wo u_fa u_bd u_nc b_nl u_co b_op b_ar u_le b_pi b_pa u_pd u_od b_ws b_hw u_la b_se b_re u_bk u_va u_su u_ce u_ho u_wy u_bt u_ps b_pt u_tg u_sn b_ip u_ic b_ah b_be b_me u_wd b_tr b_ld u_st b_wn u_id)), (b_op, (arI G 400 v_op)), (b_ar, (arI G 400 v_ar)), (b_pi, (arI G 400 v_pi)), (b_pa, (arI G 400 v_pa))]) hP hD hS hA [5, 1, 2, 3, 4] (by decide) rfl
            refine va_callv (va_runV (As := [.int 1]) (rest := []) ⟨hx, hb, hml, hown, hts⟩ (n_settleH l G b_o b_op b_ar b_pi b_pa b_rf b_ro b_im b_ke b_tp b_nl b_ws b_hw b_se b_re b_pt b_ip b_ah b_be b_me b_tr b_ld b_wn H.size u_th u_sa u_fd u_td u_fr u_to u_so u_fa u_bd u_nc u_co u_le u_pd u_od u_la u_bk u_ce u_ho u_wy u_bt u_ps u_tg u_sn u_ic u_wd u_id 1 g_a u_fr u_wo u_va u_su u_st v_op v_ar v_pi v_pa g_op g_ar h_u_td h_u_fr h_u_to ⟨by omega, by omega⟩ h_u_nc h_u_co h_u_pd h_u_la h_u_bk h_u_ce h_u_ho h_u_wy h_u_bt h_u_ps h_u_ic h_u_id ⟨by decide, by decide⟩ (by omega) (e_x) (hE_35)) (cwV 1 hts gV_X12_288 rfl rfl rfl hv_X12_settle ⟨Nat.le_of_ble_eq_true rfl, Nat.le_of_ble_eq_true rfl⟩) (g5_preV hPc hK hDc hN hT hS hFc (ci := 12) (q0 := 0) rfl rfl) rfl rfl hl.1 rfl (lv_room (Nat.le_of_ble_eq_true rfl)) dX12_behindTest_32 ⟨Nat.le_of_ble_eq_true rfl, Nat.le_of_ble_eq_true rfl⟩) hS (fun q _ h => hFc q h) hFc (fun u t H1 locs ht hvm hw hB hz1 hk1 hS => ?_)
            obtain ⟨hP1, hD1⟩ := hB
            rw [ht] at hP1
            obtain ⟨z44, z45, z46, z47, i_37, i_38, i_39, i_40, i_41, i_42, i_43, rfl⟩ := hw
            have i_37 : 0 ≤ z44.toInt ∧ z44.toInt ≤ 400 := i_37
            have i_38 : 0 ≤ z45.toInt ∧ z45.toInt ≤ 400 := i_38
            have i_39 : XJ g_op g_ar z46 z47 v_pi v_pa g_a.toInt z44.toInt z45.toInt u_fr.toInt := i_39
            have i_40 : HJ z46 z47 v_pi v_pa g_a.toInt z44.toInt z45.toInt 1 := i_40
            have i_41 : S1 v_pi u_pd.toInt z45.toInt := i_41
            have i_42 : S2 v_pi z45.toInt (1 : Int32).toInt := i_42
            have i_43 : z45.toInt ≤ u_pd.toInt := i_43
            obtain ⟨hP, hD⟩ := va_join (wr := [(b_tp, (arI G 400 v_tp))]) hP hD [5, 1, 2, 3, 4] [0] rfl rfl (by decide) (by decide) hk1 hFc hP1 hD1
            generalize H1 = H at hP hS ⊢
            refine g5_rs [(b_tp, (arI G 400 v_tp)), (b_o, (oc12 u_th u_sa b_rf b_ro b_im b_ke u_fd b_tp u_td u_fr u_to u_so u_wo u_fa u_bd u_nc b_nl z44 b_op b_ar u_le b_pi b_pa z45 u_od b_ws b_hw u_la b_se b_re u_bk u_va u_su u_ce u_ho u_wy u_bt u_ps b_pt u_tg u_sn b_ip u_ic b_ah b_be b_me u_wd b_tr b_ld u_st b_wn u_id)), (b_op, (arI G 400 z46)), (b_ar, (arI G 400 z47)), (b_pi, (arI G 400 v_pi)), (b_pa, (arI G 400 v_pa))] hP hD (fun hP hD => ?_)
            have hmf8 := xj_mf i_39
            refine lv_aload_n hx hb dX12_behindTest_35 rfl (lv_at hl 1 rfl) ?_
            refine lv_iload_n hx hb dX12_behindTest_36 rfl (lv_at hl 0 rfl) ?_
            refine lv_if_eq (tgt := 45) hx hb dX12_behindTest_37 (by decide) (fun c_48 => ?_) (fun c_48 => ?_)
            ·
              refine lv_bipush (v := 29) hx hb dX12_behindTest_45 (by decide) ?_
              refine lv_aload_n hx hb dX12_behindTest_47 rfl (lv_at hl 1 rfl) ?_
              refine va_get (D := G.1) (ci := 12) (v := .int z44) (C := RX12) (T := TX12) (N := 52) hx hb hts inG_X12 hown hK hP 1 rfl rfl 17 (by decide) (hts _ fl_X12_237) (fun _ h9 => h9) rfl dX12_behindTest_48 ?_
              obtain ⟨hPc, hDc, hFc⟩ := g5_sub3 (wc := [(b_o, (oc12 u_th u_sa b_rf b_ro b_im b_ke u_fd b_tp u_td u_fr u_to u_so u_wo u_fa u_bd u_nc b_nl z44 b_op b_ar u_le b_pi b_pa z45 u_od b_ws b_hw u_la b_se b_re u_bk u_va u_su u_ce u_ho u_wy u_bt u_ps b_pt u_tg u_sn b_ip u_ic b_ah b_be b_me u_wd b_tr b_ld u_st b_wn u_id)), (b_pi, (arI G 400 v_pi)), (b_pa, (arI G 400 v_pa))]) hP hD hS hA [1, 4, 5] (by decide) rfl
              refine va_callv (va_runV (As := [.int 29, .int z44]) (rest := []) ⟨hx, hb, hml, hown, hts⟩ (n_push l G b_o b_pi b_pa b_rf b_ro b_im b_ke b_tp b_nl b_op b_ar b_ws b_hw b_se b_re b_pt b_ip b_ah b_be b_me b_tr b_ld b_wn H.size u_th u_sa u_fd u_td u_fr u_to u_so u_fa u_bd u_nc z44 u_le z45 u_od u_la u_bk u_ce u_ho u_wy u_bt u_ps u_tg u_sn u_ic u_wd u_id 29 z44 u_wo u_va u_su u_st v_pi v_pa h_u_td h_u_fr h_u_to ⟨by omega, by omega⟩ h_u_nc i_37 i_38 h_u_la h_u_bk h_u_ce h_u_ho h_u_wy h_u_bt h_u_ps h_u_ic h_u_id (by omega)) (cwV 2 hts gV_X12_261 rfl rfl rfl hv_X12_push ⟨Nat.le_of_ble_eq_true rfl, Nat.le_of_ble_eq_true rfl⟩) (g5_preV hPc hK hDc hN hT hS hFc (ci := 12) (q0 := 0) rfl rfl) rfl rfl hl.1 rfl (lv_room (Nat.le_of_ble_eq_true rfl)) dX12_behindTest_51 ⟨Nat.le_of_ble_eq_true rfl, Nat.le_of_ble_eq_true rfl⟩) hS (fun q _ h => hFc q h) hFc (fun u t H1 locs ht hvm hw hB hz1 hk1 hS => ?_)
              obtain ⟨hP1, hD1⟩ := hB
              rw [ht] at hP1
              obtain ⟨z51, i_49, i_50, rfl⟩ := hw
              have i_49 : 0 ≤ z51.toInt ∧ z51.toInt ≤ 400 := i_49
              have i_50 : z51.toInt = z45.toInt + 1 := i_50
              obtain ⟨hP, hD⟩ := va_join (wr := [(b_tp, (arI G 400 v_tp)), (b_op, (arI G 400 z46)), (b_ar, (arI G 400 z47))]) hP hD [1, 4, 5] [0, 2, 3] rfl rfl (by decide) (by decide) hk1 hFc hP1 hD1
              generalize H1 = H at hP hS ⊢
              refine g5_rs [(b_tp, (arI G 400 v_tp)), (b_op, (arI G 400 z46)), (b_ar, (arI G 400 z47)), (b_o, (oc12 u_th u_sa b_rf b_ro b_im b_ke u_fd b_tp u_td u_fr u_to u_so u_wo u_fa u_bd u_nc b_nl z44 b_op b_ar u_le b_pi b_pa z51 u_od b_ws b_hw u_la b_se b_re u_bk u_va u_su u_ce u_ho u_wy u_bt u_ps b_pt u_tg u_sn b_ip u_ic b_ah b_be b_me u_wd b_tr b_ld u_st b_wn u_id)), (b_pi, (arI G 400 (upd v_pi z45.toNatClampNeg 29))), (b_pa, (arI G 400 (upd v_pa z45.toNatClampNeg z44)))] hP hD (fun hP hD => ?_)
              refine lv_aload_n hx hb dX12_behindTest_54 rfl (lv_at hl 1 rfl) ?_
              refine lv_iload_n hx hb dX12_behindTest_55 rfl (lv_at hl 0 rfl) ?_
              refine lv_if_eq (tgt := 64) hx hb dX12_behindTest_56 (by decide) (fun c_52 => ?_) (fun c_52 => ?_)
              ·
                refine lv_bipush (v := 29) hx hb dX12_behindTest_64 (by decide) ?_
                refine lv_iconst (v := 0) hx hb dX12_behindTest_66 (by decide) ?_
                obtain ⟨hPc, hDc, hFc⟩ := g5_sub3 (wc := [(b_o, (oc12 u_th u_sa b_rf b_ro b_im b_ke u_fd b_tp u_td u_fr u_to u_so u_wo u_fa u_bd u_nc b_nl z44 b_op b_ar u_le b_pi b_pa z51 u_od b_ws b_hw u_la b_se b_re u_bk u_va u_su u_ce u_ho u_wy u_bt u_ps b_pt u_tg u_sn b_ip u_ic b_ah b_be b_me u_wd b_tr b_ld u_st b_wn u_id)), (b_op, (arI G 400 z46)), (b_ar, (arI G 400 z47))]) hP hD hS hA [3, 1, 2] (by decide) rfl
                refine va_callv (va_runV (As := [.int 29, .int 0]) (rest := []) ⟨hx, hb, hml, hown, hts⟩ (n_emit l G b_o b_op b_ar b_rf b_ro b_im b_ke b_tp b_nl b_pi b_pa b_ws b_hw b_se b_re b_pt b_ip b_ah b_be b_me b_tr b_ld b_wn H.size u_th u_sa u_fd u_td u_fr u_to u_so u_fa u_bd u_nc z44 u_le z51 u_od u_la u_bk u_ce u_ho u_wy u_bt u_ps u_tg u_sn u_ic u_wd u_id 29 0 u_wo u_va u_su u_st z46 z47 h_u_td h_u_fr h_u_to ⟨by omega, by omega⟩ h_u_nc i_37 i_49 h_u_la h_u_bk h_u_ce h_u_ho h_u_wy h_u_bt h_u_ps h_u_ic h_u_id (by omega)) (cwV 2 hts gV_X12_246 rfl rfl rfl hv_X12_emit ⟨Nat.le_of_ble_eq_true rfl, Nat.le_of_ble_eq_true rfl⟩) (g5_preV hPc hK hDc hN hT hS hFc (ci := 12) (q0 := 0) rfl rfl) rfl rfl hl.1 rfl (lv_room (Nat.le_of_ble_eq_true rfl)) dX12_behindTest_67 ⟨Nat.le_of_ble_eq_true rfl, Nat.le_of_ble_eq_true rfl⟩) hS (fun q _ h => hFc q h) hFc (fun u t H1 locs ht hvm hw hB hz1 hk1 hS => ?_)
                obtain ⟨hP1, hD1⟩ := hB
                rw [ht] at hP1
                obtain ⟨z55, i_53, i_54, rfl⟩ := hw
                have i_53 : 0 ≤ z55.toInt ∧ z55.toInt ≤ 400 := i_53
                have i_54 : z55.toInt = z44.toInt + 1 := i_54
                obtain ⟨hP, hD⟩ := va_join (wr := [(b_tp, (arI G 400 v_tp)), (b_pi, (arI G 400 (upd v_pi z45.toNatClampNeg 29))), (b_pa, (arI G 400 (upd v_pa z45.toNatClampNeg z44)))]) hP hD [3, 1, 2] [0, 4, 5] rfl rfl (by decide) (by decide) hk1 hFc hP1 hD1
                generalize H1 = H at hP hS ⊢
                refine g5_rs [(b_tp, (arI G 400 v_tp)), (b_pi, (arI G 400 (upd v_pi z45.toNatClampNeg 29))), (b_pa, (arI G 400 (upd v_pa z45.toNatClampNeg z44))), (b_o, (oc12 u_th u_sa b_rf b_ro b_im b_ke u_fd b_tp u_td u_fr u_to u_so u_wo u_fa u_bd u_nc b_nl z55 b_op b_ar u_le b_pi b_pa z51 u_od b_ws b_hw u_la b_se b_re u_bk u_va u_su u_ce u_ho u_wy u_bt u_ps b_pt u_tg u_sn b_ip u_ic b_ah b_be b_me u_wd b_tr b_ld u_st b_wn u_id)), (b_op, (arI G 400 (upd z46 z44.toNatClampNeg 29))), (b_ar, (arI G 400 (upd z47 z44.toNatClampNeg 0)))] hP hD (fun hP hD => ?_)
                refine lv_aload_n hx hb dX12_behindTest_70 rfl (lv_at hl 1 rfl) ?_
                obtain ⟨hPc, hDc, hFc⟩ := g5_sub3 (wc := [(b_o, (oc12 u_th u_sa b_rf b_ro b_im b_ke u_fd b_tp u_td u_fr u_to u_so u_wo u_fa u_bd u_nc b_nl z55 b_op b_ar u_le b_pi b_pa z51 u_od b_ws b_hw u_la b_se b_re u_bk u_va u_su u_ce u_ho u_wy u_bt u_ps b_pt u_tg u_sn b_ip u_ic b_ah b_be b_me u_wd b_tr b_ld u_st b_wn u_id)), (b_tp, (arI G 400 v_tp))]) hP hD hS hA [3, 0] (by decide) rfl
                refine va_callv (va_runV (As := []) (rest := []) ⟨hx, hb, hml, hown, hts⟩ (n_next l G b_o b_tp b_rf b_ro b_im b_ke b_nl b_op b_ar b_pi b_pa b_ws b_hw b_se b_re b_pt b_ip b_ah b_be b_me b_tr b_ld b_wn H.size u_th u_sa u_fd u_td u_fr u_to u_so u_fa u_bd u_nc z55 u_le z51 u_od u_la u_bk u_ce u_ho u_wy u_bt u_ps u_tg u_sn u_ic u_wd u_id u_wo u_va u_su u_st v_tp h_u_td h_u_fr h_u_to ⟨by omega, by omega⟩ h_u_nc i_53 i_49 h_u_la h_u_bk h_u_ce h_u_ho h_u_wy h_u_bt h_u_ps h_u_ic h_u_id (by omega)) (cwV 0 hts gV_X12_208 rfl rfl rfl hv_X12_next ⟨Nat.le_of_ble_eq_true rfl, Nat.le_of_ble_eq_true rfl⟩) (g5_preV hPc hK hDc hN hT hS hFc (ci := 12) (q0 := 0) rfl rfl) rfl rfl hl.1 rfl (lv_room (Nat.le_of_ble_eq_true rfl)) dX12_behindTest_71 ⟨Nat.le_of_ble_eq_true rfl, Nat.le_of_ble_eq_true rfl⟩) hS (fun q _ h => hFc q h) hFc (fun u t H1 locs ht hvm hw hB hz1 hk1 hS => ?_)
                obtain ⟨hP1, hD1⟩ := hB
                rw [ht] at hP1
                obtain ⟨z60, z61, z62, z63, i_56, i_57, i_58, i_59, rfl⟩ := hw
                have i_56 : 0 ≤ z60.toInt ∧ z60.toInt ≤ 400 := i_56
                have i_57 : 0 ≤ z61.toInt ∧ z61.toInt ≤ 400 := i_57
                have i_58 : u_to.toInt ≤ z60.toInt ∧ z60.toInt ≤ z61.toInt ∧ z61.toInt ≤ u_td.toInt := i_58
                have i_59 : TKs z62.toInt z60.toInt z61.toInt := i_59
                obtain ⟨hP, hD⟩ := va_join (wr := [(b_pi, (arI G 400 (upd v_pi z45.toNatClampNeg 29))), (b_pa, (arI G 400 (upd v_pa z45.toNatClampNeg z44))), (b_op, (arI G 400 (upd z46 z44.toNatClampNeg 29))), (b_ar, (arI G 400 (upd z47 z44.toNatClampNeg 0)))]) hP hD [3, 0] [1, 2, 4, 5] rfl rfl (by decide) (by decide) hk1 hFc hP1 hD1
                generalize H1 = H at hP hS ⊢
                refine g5_rs [(b_pi, (arI G 400 (upd v_pi z45.toNatClampNeg 29))), (b_pa, (arI G 400 (upd v_pa z45.toNatClampNeg z44))), (b_op, (arI G 400 (upd z46 z44.toNatClampNeg 29))), (b_ar, (arI G 400 (upd z47 z44.toNatClampNeg 0))), (b_o, (oc12 u_th u_sa b_rf b_ro b_im b_ke u_fd b_tp u_td z60 z61 z62 z63 u_fa u_bd u_nc b_nl z55 b_op b_ar u_le b_pi b_pa z51 u_od b_ws b_hw u_la b_se b_re u_bk u_va u_su u_ce u_ho u_wy u_bt u_ps b_pt u_tg u_sn b_ip u_ic b_ah b_be b_me u_wd b_tr b_ld u_st b_wn u_id)), (b_tp, (arI G 400 v_tp))] hP hD (fun hP hD => ?_)
                refine lv_iconst (v := 0) hx hb dX12_behindTest_74 (by decide) ?_
                exact W.iret (v := 0) hx hb hr (fun t ht hW => ⟨⟨0, [(b_o, (oc12 u_th u_sa b_rf b_ro b_im b_ke u_fd b_tp u_td z60 z61 z62 z63 u_fa u_bd u_nc b_nl z55 b_op b_ar u_le b_pi b_pa z51 u_od b_ws b_hw u_la b_se b_re u_bk u_va u_su u_ce u_ho u_wy u_bt u_ps b_pt u_tg u_sn b_ip u_ic b_ah b_be b_me u_wd b_tr b_ld u_st b_wn u_id)), (b_tp, (arI G 400 v_tp)), (b_op, (arI G 400 (upd z46 z44.toNatClampNeg 29))), (b_ar, (arI G 400 (upd z47 z44.toNatClampNeg 0))), (b_pi, (arI G 400 (upd v_pi z45.toNatClampNeg 29))), (b_pa, (arI G 400 (upd v_pa z45.toNatClampNeg z44)))], rfl, Or.inr (⟨0, z60, z61, z62, z63, z55, z51, u_od, (upd z46 z44.toNatClampNeg 29), (upd z47 z44.toNatClampNeg 0), (upd v_pi z45.toNatClampNeg 29), (upd v_pa z45.toNatClampNeg z44), i_56, i_57, i_53, i_49, ⟨by have zc_o_r : (0 : Int32).toInt = 0 := (by decide); omega, by have zc_o_r : (0 : Int32).toInt = 0 := (by decide); omega⟩, by omega, i_59, xj_pushJ i_39 (by omega) (by omega) (by omega) (Or.inr (by decide)), tj_0 (hj_pushJ i_39 i_40 (by omega) (by omega) (Or.inr (by decide)) (no31_le (e_j.2.1 (Or.inr rfl)) (by omega))) (by decide) (no31_push (no31_le (e_j.2.1 (Or.inr rfl)) (by omega)) (by omega) (by omega) (by decide)), by have w9 := (twt_0 (by decide) : twt (0 : Int32).toInt = 0); omega, rfl, rfl⟩), by rw [ht]; exact hP.sub [4, 5, 2, 3, 0, 1] rfl, hD.sub [4, 5, 2, 3, 0, 1] (by decide) rfl⟩, hS.F ht⟩) hS.2.2 dX12_behindTest_75
              ·
                exact absurd c_52 (by decide)
            ·
              exact absurd c_48 (by decide)
          ·
            exact absurd c_36 (by decide)
      ·
        obtain ⟨hP, hD⟩ := va_join (wr := [(b_tp, (arI G 400 v_tp)), (b_op, (arI G 400 v_op)), (b_ar, (arI G 400 v_ar)), (b_pi, (arI G 400 v_pi)), (b_pa, (arI G 400 v_pa))]) hP hD [5] [0, 1, 2, 3, 4] rfl rfl (by decide) (by decide) hk1 hFc hP1 hD1
        generalize H1 = H at hP hS ⊢
        refine g5_rs [(b_tp, (arI G 400 v_tp)), (b_op, (arI G 400 v_op)), (b_ar, (arI G 400 v_ar)), (b_pi, (arI G 400 v_pi)), (b_pa, (arI G 400 v_pa)), (b_o, (oc12 u_th u_sa b_rf b_ro b_im b_ke u_fd b_tp u_td u_fr u_to u_so u_wo u_fa u_bd u_nc b_nl u_co b_op b_ar u_le b_pi b_pa u_pd u_od b_ws b_hw u_la b_se b_re u_bk u_va u_su u_ce u_ho u_wy u_bt u_ps b_pt u_tg u_sn b_ip u_ic b_ah b_be b_me u_wd b_tr b_ld u_st b_wn u_id))] hP hD (fun hP hD => ?_)
        refine lv_if_eq (tgt := 76) hx hb dX12_behindTest_19 (by decide) (fun c_64 => ?_) (fun c_64 => ?_)
        ·
          refine lv_aload_n hx hb dX12_behindTest_76 rfl (lv_at hl 1 rfl) ?_
          obtain ⟨hPc, hDc, hFc⟩ := g5_sub3 (wc := [(b_o, (oc12 u_th u_sa b_rf b_ro b_im b_ke u_fd b_tp u_td u_fr u_to u_so u_wo u_fa u_bd u_nc b_nl u_co b_op b_ar u_le b_pi b_pa u_pd u_od b_ws b_hw u_la b_se b_re u_bk u_va u_su u_ce u_ho u_wy u_bt u_ps b_pt u_tg u_sn b_ip u_ic b_ah b_be b_me u_wd b_tr b_ld u_st b_wn u_id)), (b_pi, (arI G 400 v_pi))]) hP hD hS hA [5, 3] (by decide) rfl
          refine va_calli (va_runV (As := []) (rest := []) ⟨hx, hb, hml, hown, hts⟩ (n_inner l G b_o b_pi b_rf b_ro b_im b_ke b_tp b_nl b_op b_ar b_pa b_ws b_hw b_se b_re b_pt b_ip b_ah b_be b_me b_tr b_ld b_wn H.size u_th u_sa u_fd u_td u_fr u_to u_so u_fa u_bd u_nc u_co u_le u_pd u_od u_la u_bk u_ce u_ho u_wy u_bt u_ps u_tg u_sn u_ic u_wd u_id u_wo u_va u_su u_st v_pi h_u_td h_u_fr h_u_to ⟨by omega, by omega⟩ h_u_nc h_u_co h_u_pd h_u_la h_u_bk h_u_ce h_u_ho h_u_wy h_u_bt h_u_ps h_u_ic h_u_id) (cwV 0 hts gV_X12_291 rfl rfl rfl hv_X12_inner ⟨Nat.le_of_ble_eq_true rfl, Nat.le_of_ble_eq_true rfl⟩) (g5_preV hPc hK hDc hN hT hS hFc (ci := 12) (q0 := 0) rfl rfl) rfl rfl hl.1 rfl (lv_room (Nat.le_of_ble_eq_true rfl)) dX12_behindTest_77 ⟨Nat.le_of_ble_eq_true rfl, Nat.le_of_ble_eq_true rfl⟩) hS (fun q _ h => hFc q h) hFc (fun r u t H1 locs ht hvm hw hB hz1 hk1 hS => ?_)
          obtain ⟨hP1, hD1⟩ := hB
          rw [ht] at hP1
          obtain ⟨z66, i_65, y67, rfl⟩ := hw
          have i_65 : innP v_pi u_pd.toInt z66.toInt := i_65
          obtain ⟨hP, hD⟩ := va_join (wr := [(b_tp, (arI G 400 v_tp)), (b_op, (arI G 400 v_op)), (b_ar, (arI G 400 v_ar)), (b_pa, (arI G 400 v_pa))]) hP hD [5, 3] [0, 1, 2, 4] rfl rfl (by decide) (by decide) hk1 hFc hP1 hD1
          generalize H1 = H at hP hS ⊢
          refine g5_rs [(b_tp, (arI G 400 v_tp)), (b_op, (arI G 400 v_op)), (b_ar, (arI G 400 v_ar)), (b_pa, (arI G 400 v_pa)), (b_o, (oc12 u_th u_sa b_rf b_ro b_im b_ke u_fd b_tp u_td u_fr u_to u_so u_wo u_fa u_bd u_nc b_nl u_co b_op b_ar u_le b_pi b_pa u_pd u_od b_ws b_hw u_la b_se b_re u_bk u_va u_su u_ce u_ho u_wy u_bt u_ps b_pt u_tg u_sn b_ip u_ic b_ah b_be b_me u_wd b_tr b_ld u_st b_wn u_id)), (b_pi, (arI G 400 v_pi))] hP hD (fun hP hD => ?_)
          refine g5_ti (v := z66) y67 ?_
          refine lv_iconst (v := (-1)) hx hb dX12_behindTest_80 (by decide) ?_
          refine lv_icmp_ne (tgt := 86) hx hb dX12_behindTest_81 (by decide) (fun c_68 => ?_) (fun c_68 => ?_)
          ·
            have n_68 : gNe (z66.toInt) ((-1)) := by have z := g5_ne (a := z66.toInt) (b := (-1)) (by rfl) (by decide) c_68; unfold gNe; omega
            refine lv_aload_n hx hb dX12_behindTest_86 rfl (lv_at hl 1 rfl) ?_
            refine lv_aload_n hx hb dX12_behindTest_87 rfl (lv_at hl 1 rfl) ?_
            refine lv_bipush (v := 41) hx hb dX12_behindTest_88 (by decide) ?_
            obtain ⟨hPc, hDc, hFc⟩ := g5_sub3 (wc := [(b_o, (oc12 u_th u_sa b_rf b_ro b_im b_ke u_fd b_tp u_td u_fr u_to u_so u_wo u_fa u_bd u_nc b_nl u_co b_op b_ar u_le b_pi b_pa u_pd u_od b_ws b_hw u_la b_se b_re u_bk u_va u_su u_ce u_ho u_wy u_bt u_ps b_pt u_tg u_sn b_ip u_ic b_ah b_be b_me u_wd b_tr b_ld u_st b_wn u_id))]) hP hD hS hA [4] (by decide) rfl
            refine va_calli (va_runV (As := [.int 41]) (rest := [.ref b_o]) ⟨hx, hb, hml, hown, hts⟩ (n_isSign l G b_o b_rf b_ro b_im b_ke b_tp b_nl b_op b_ar b_pi b_pa b_ws b_hw b_se b_re b_pt b_ip b_ah b_be b_me b_tr b_ld b_wn H.size u_th u_sa u_fd u_td u_fr u_to u_so u_fa u_bd u_nc u_co u_le u_pd u_od u_la u_bk u_ce u_ho u_wy u_bt u_ps u_tg u_sn u_ic u_wd u_id 41 u_wo u_va u_su u_st h_u_td h_u_fr h_u_to ⟨by omega, by omega⟩ h_u_nc h_u_co h_u_pd h_u_la h_u_bk h_u_ce h_u_ho h_u_wy h_u_bt h_u_ps h_u_ic h_u_id) (cwV 1 hts gV_X12_267 rfl rfl rfl hv_X12_isSign ⟨Nat.le_of_ble_eq_true rfl, Nat.le_of_ble_eq_true rfl⟩) (g5_preV hPc hK hDc hN hT hS hFc (ci := 12) (q0 := 0) rfl rfl) rfl rfl hl.1 rfl (lv_room (Nat.le_of_ble_eq_true rfl)) dX12_behindTest_90 ⟨Nat.le_of_ble_eq_true rfl, Nat.le_of_ble_eq_true rfl⟩) hS (fun q _ h => hFc q h) hFc (fun r u t H1 locs ht hvm hw hB hz1 hk1 hS => ?_)
            obtain ⟨hP1, hD1⟩ := hB
            rw [ht] at hP1
            rcases hw with ⟨i_69, rfl, rfl⟩ | ⟨rfl, rfl⟩
            ·
              have i_69 : u_so.toInt = 3 := i_69
              obtain ⟨hP, hD⟩ := va_join (wr := [(b_tp, (arI G 400 v_tp)), (b_op, (arI G 400 v_op)), (b_ar, (arI G 400 v_ar)), (b_pa, (arI G 400 v_pa)), (b_pi, (arI G 400 v_pi))]) hP hD [4] [0, 1, 2, 3, 5] rfl rfl (by decide) (by decide) hk1 hFc hP1 hD1
              generalize H1 = H at hP hS ⊢
              refine g5_rs [(b_tp, (arI G 400 v_tp)), (b_op, (arI G 400 v_op)), (b_ar, (arI G 400 v_ar)), (b_pa, (arI G 400 v_pa)), (b_pi, (arI G 400 v_pi)), (b_o, (oc12 u_th u_sa b_rf b_ro b_im b_ke u_fd b_tp u_td u_fr u_to u_so u_wo u_fa u_bd u_nc b_nl u_co b_op b_ar u_le b_pi b_pa u_pd u_od b_ws b_hw u_la b_se b_re u_bk u_va u_su u_ce u_ho u_wy u_bt u_ps b_pt u_tg u_sn b_ip u_ic b_ah b_be b_me u_wd b_tr b_ld u_st b_wn u_id))] hP hD (fun hP hD => ?_)
              have hlt9 : u_fr.toInt < u_to.toInt := tks_lt e_s (by omega)
              obtain ⟨hPc, hDc, hFc⟩ := g5_sub3 (wc := [(b_o, (oc12 u_th u_sa b_rf b_ro b_im b_ke u_fd b_tp u_td u_fr u_to u_so u_wo u_fa u_bd u_nc b_nl u_co b_op b_ar u_le b_pi b_pa u_pd u_od b_ws b_hw u_la b_se b_re u_bk u_va u_su u_ce u_ho u_wy u_bt u_ps b_pt u_tg u_sn b_ip u_ic b_ah b_be b_me u_wd b_tr b_ld u_st b_wn u_id)), (b_tp, (arI G 400 v_tp))]) hP hD hS hA [5, 0] (by decide) rfl
              refine va_callv (va_runV (As := [.int 1]) (rest := []) ⟨hx, hb, hml, hown, hts⟩ (n_must1 l G b_o b_tp b_rf b_ro b_im b_ke b_nl b_op b_ar b_pi b_pa b_ws b_hw b_se b_re b_pt b_ip b_ah b_be b_me b_tr b_ld b_wn H.size u_th u_sa u_fd u_td u_fr u_to u_so u_fa u_bd u_nc u_co u_le u_pd u_od u_la u_bk u_ce u_ho u_wy u_bt u_ps u_tg u_sn u_ic u_wd u_id u_wo u_va u_su u_st v_tp h_u_td h_u_fr h_u_to h_u_bd h_u_nc h_u_co h_u_pd h_u_la h_u_bk h_u_ce h_u_ho h_u_wy h_u_bt h_u_ps h_u_ic h_u_id (by omega)) (cwV 1 hts gV_X12_233 rfl rfl rfl hv_X12_must ⟨Nat.le_of_ble_eq_true rfl, Nat.le_of_ble_eq_true rfl⟩) (g5_preV hPc hK hDc hN hT hS hFc (ci := 12) (q0 := 0) rfl rfl) rfl rfl hl.1 rfl (lv_room (Nat.le_of_ble_eq_true rfl)) dX12_behindTest_93 ⟨Nat.le_of_ble_eq_true rfl, Nat.le_of_ble_eq_true rfl⟩) hS (fun q _ h => hFc q h) hFc (fun u t H1 locs ht hvm hw hB hz1 hk1 hS => ?_)
              obtain ⟨hP1, hD1⟩ := hB
              rw [ht] at hP1
              obtain ⟨z74, z75, z76, z77, i_70, i_71, i_72, i_73, rfl⟩ := hw
              have i_70 : 0 ≤ z74.toInt ∧ z74.toInt ≤ 400 := i_70
              have i_71 : 0 ≤ z75.toInt ∧ z75.toInt ≤ 400 := i_71
              have i_72 : u_to.toInt ≤ z74.toInt ∧ z74.toInt ≤ z75.toInt ∧ z75.toInt ≤ u_td.toInt := i_72
              have i_73 : TKs z76.toInt z74.toInt z75.toInt := i_73
              obtain ⟨hP, hD⟩ := va_join (wr := [(b_op, (arI G 400 v_op)), (b_ar, (arI G 400 v_ar)), (b_pa, (arI G 400 v_pa)), (b_pi, (arI G 400 v_pi))]) hP hD [5, 0] [1, 2, 3, 4] rfl rfl (by decide) (by decide) hk1 hFc hP1 hD1
              generalize H1 = H at hP hS ⊢
              refine g5_rs [(b_op, (arI G 400 v_op)), (b_ar, (arI G 400 v_ar)), (b_pa, (arI G 400 v_pa)), (b_pi, (arI G 400 v_pi)), (b_o, (oc12 u_th u_sa b_rf b_ro b_im b_ke u_fd b_tp u_td z74 z75 z76 z77 u_fa u_bd u_nc b_nl u_co b_op b_ar u_le b_pi b_pa u_pd u_od b_ws b_hw u_la b_se b_re u_bk u_va u_su u_ce u_ho u_wy u_bt u_ps b_pt u_tg u_sn b_ip u_ic b_ah b_be b_me u_wd b_tr b_ld u_st b_wn u_id)), (b_tp, (arI G 400 v_tp))] hP hD (fun hP hD => ?_)
              refine lv_aload_n hx hb dX12_behindTest_96 rfl (lv_at hl 1 rfl) ?_
              refine va_get (D := G.1) (ci := 12) (v := .int u_bd) (C := RX12) (T := TX12) (N := 52) hx hb hts inG_X12 hown hK hP 4 rfl rfl 14 (by decide) (hts _ fl_X12_205) (fun _ h9 => h9) rfl dX12_behindTest_97 ?_
              refine lv_if_ne (tgt := 128) hx hb dX12_behindTest_100 (by decide) (fun c_78 => ?_) (fun c_78 => ?_)
              ·
                have i_78 : u_bd.toInt ≠ 0 := by have z := g5_ne (a := u_bd.toInt) (b := 0) (by rfl) (by decide) c_78; omega
                omega
              ·
                have i_78 : u_bd.toInt = 0 := by have z := g5_neN (a := u_bd.toInt) (b := 0) (by rfl) (by decide) c_78; omega
                have hE_79 : HJ v_op v_ar v_pi v_pa g_a.toInt u_co.toInt u_pd.toInt 1 := tj_d1 e_j (by decide)
                refine lv_aload_n hx hb dX12_behindTest_103 rfl (lv_at hl 1 rfl) ?_
                refine lv_iconst (v := 1) hx hb dX12_behindTest_104 (by decide) ?_
                obtain ⟨hPc, hDc, hFc⟩ := g5_sub3 (wc := [(b_o, (oc12 u_th u_sa b_rf b_ro b_im b_ke u_fd b_tp u_td z74 z75 z76 z77 u_fa u_bd u_nc b_nl u_co b_op b_ar u_le b_pi b_pa u_pd u_od b_ws b_hw u_la b_se b_re u_bk u_va u_su u_ce u_ho u_wy u_bt u_ps b_pt u_tg u_sn b_ip u_ic b_ah b_be b_me u_wd b_tr b_ld u_st b_wn u_id)), (b_op, (arI G 400 v_op)), (b_ar, (arI G 400 v_ar)), (b_pi, (arI G 400 v_pi)), (b_pa, (arI G 400 v_pa))]) hP hD hS hA [4, 0, 1, 3, 2] (by decide) rfl
                refine va_callv (va_runV (As := [.int 1]) (rest := []) ⟨hx, hb, hml, hown, hts⟩ (n_settleH l G b_o b_op b_ar b_pi b_pa b_rf b_ro b_im b_ke b_tp b_nl b_ws b_hw b_se b_re b_pt b_ip b_ah b_be b_me b_tr b_ld b_wn H.size u_th u_sa u_fd u_td z74 z75 z76 u_fa u_bd u_nc u_co u_le u_pd u_od u_la u_bk u_ce u_ho u_wy u_bt u_ps u_tg u_sn u_ic u_wd u_id 1 g_a u_fr z77 u_va u_su u_st v_op v_ar v_pi v_pa g_op g_ar h_u_td i_70 i_71 ⟨by omega, by omega⟩ h_u_nc h_u_co h_u_pd h_u_la h_u_bk h_u_ce h_u_ho h_u_wy h_u_bt h_u_ps h_u_ic h_u_id ⟨by decide, by decide⟩ (by omega) (e_x) (hE_79)) (cwV 1 hts gV_X12_288 rfl rfl rfl hv_X12_settle ⟨Nat.le_of_ble_eq_true rfl, Nat.le_of_ble_eq_true rfl⟩) (g5_preV hPc hK hDc hN hT hS hFc (ci := 12) (q0 := 0) rfl rfl) rfl rfl hl.1 rfl (lv_room (Nat.le_of_ble_eq_true rfl)) dX12_behindTest_105 ⟨Nat.le_of_ble_eq_true rfl, Nat.le_of_ble_eq_true rfl⟩) hS (fun q _ h => hFc q h) hFc (fun u t H1 locs ht hvm hw hB hz1 hk1 hS => ?_)
                obtain ⟨hP1, hD1⟩ := hB
                rw [ht] at hP1
                obtain ⟨z87, z88, z89, z90, i_80, i_81, i_82, i_83, i_84, i_85, i_86, rfl⟩ := hw
                have i_80 : 0 ≤ z87.toInt ∧ z87.toInt ≤ 400 := i_80
                have i_81 : 0 ≤ z88.toInt ∧ z88.toInt ≤ 400 := i_81
                have i_82 : XJ g_op g_ar z89 z90 v_pi v_pa g_a.toInt z87.toInt z88.toInt u_fr.toInt := i_82
                have i_83 : HJ z89 z90 v_pi v_pa g_a.toInt z87.toInt z88.toInt 1 := i_83
                have i_84 : S1 v_pi u_pd.toInt z88.toInt := i_84
                have i_85 : S2 v_pi z88.toInt (1 : Int32).toInt := i_85
                have i_86 : z88.toInt ≤ u_pd.toInt := i_86
                obtain ⟨hP, hD⟩ := va_join (wr := [(b_tp, (arI G 400 v_tp))]) hP hD [4, 0, 1, 3, 2] [5] rfl rfl (by decide) (by decide) hk1 hFc hP1 hD1
                generalize H1 = H at hP hS ⊢
                refine g5_rs [(b_tp, (arI G 400 v_tp)), (b_o, (oc12 u_th u_sa b_rf b_ro b_im b_ke u_fd b_tp u_td z74 z75 z76 z77 u_fa u_bd u_nc b_nl z87 b_op b_ar u_le b_pi b_pa z88 u_od b_ws b_hw u_la b_se b_re u_bk u_va u_su u_ce u_ho u_wy u_bt u_ps b_pt u_tg u_sn b_ip u_ic b_ah b_be b_me u_wd b_tr b_ld u_st b_wn u_id)), (b_op, (arI G 400 z89)), (b_ar, (arI G 400 z90)), (b_pi, (arI G 400 v_pi)), (b_pa, (arI G 400 v_pa))] hP hD (fun hP hD => ?_)
                have htp := top_rd (q' := (z88 - 1)) i_65 n_68 (by decide) i_84 i_85
                have htp1 := htp.1
                refine lv_aload_n hx hb dX12_behindTest_108 rfl (lv_at hl 1 rfl) ?_
                refine lv_dup hx hb dX12_behindTest_109 rfl ?_
                refine va_get (D := G.1) (ci := 12) (v := .int z88) (C := RX12) (T := TX12) (N := 52) hx hb hts inG_X12 hown hK hP 1 rfl rfl 23 (by decide) (hts _ fl_X12_240) (fun _ h9 => h9) rfl dX12_behindTest_110 ?_
                refine lv_iconst (v := 1) hx hb dX12_behindTest_113 (by decide) ?_
                refine lv_isub hx hb dX12_behindTest_114 ?_
                have t_91 : (z88 - 1).toInt = z88.toInt - 1 := g5_isub (a := z88.toInt) (b := 1) (by rfl) (by decide) (by omega) (by omega)
                refine va_put (D := G.1) (ci := 12) (v := .int (z88 - 1)) (ty := .int) (C := RX12) (T := TX12) (N := 52) hx hb hts inG_X12 tyX12 tyX12_ok nmX12 hown hK hP hD hS 1 rfl rfl 23 (by decide) (hts _ fl_X12_240) (fun _ h9 => h9) rfl (by decide +kernel) rfl rfl (Nat.le_of_ble_eq_true rfl) dX12_behindTest_115 (fun H locs hP hD hS => ?_)
                refine g5_rs [(b_tp, (arI G 400 v_tp)), (b_o, (oc12 u_th u_sa b_rf b_ro b_im b_ke u_fd b_tp u_td z74 z75 z76 z77 u_fa u_bd u_nc b_nl z87 b_op b_ar u_le b_pi b_pa (z88 - 1) u_od b_ws b_hw u_la b_se b_re u_bk u_va u_su u_ce u_ho u_wy u_bt u_ps b_pt u_tg u_sn b_ip u_ic b_ah b_be b_me u_wd b_tr b_ld u_st b_wn u_id)), (b_op, (arI G 400 z89)), (b_ar, (arI G 400 z90)), (b_pi, (arI G 400 v_pi)), (b_pa, (arI G 400 v_pa))] hP hD (fun hP hD => ?_)
                refine lv_aload_n hx hb dX12_behindTest_118 rfl (lv_at hl 1 rfl) ?_
                refine lv_dup hx hb dX12_behindTest_119 rfl ?_
                refine va_get (D := G.1) (ci := 12) (v := .int u_od) (C := RX12) (T := TX12) (N := 52) hx hb hts inG_X12 hown hK hP 1 rfl rfl 24 (by decide) (hts _ fl_X12_258) (fun _ h9 => h9) rfl dX12_behindTest_120 ?_
                refine lv_iconst (v := 1) hx hb dX12_behindTest_123 (by decide) ?_
                refine lv_isub hx hb dX12_behindTest_124 ?_
                refine va_put (D := G.1) (ci := 12) (v := .int (u_od - 1)) (ty := .int) (C := RX12) (T := TX12) (N := 52) hx hb hts inG_X12 tyX12 tyX12_ok nmX12 hown hK hP hD hS 1 rfl rfl 24 (by decide) (hts _ fl_X12_258) (fun _ h9 => h9) rfl (by decide +kernel) rfl rfl (Nat.le_of_ble_eq_true rfl) dX12_behindTest_125 (fun H locs hP hD hS => ?_)
                refine g5_rs [(b_tp, (arI G 400 v_tp)), (b_o, (oc12 u_th u_sa b_rf b_ro b_im b_ke u_fd b_tp u_td z74 z75 z76 z77 u_fa u_bd u_nc b_nl z87 b_op b_ar u_le b_pi b_pa (z88 - 1) (u_od - 1) b_ws b_hw u_la b_se b_re u_bk u_va u_su u_ce u_ho u_wy u_bt u_ps b_pt u_tg u_sn b_ip u_ic b_ah b_be b_me u_wd b_tr b_ld u_st b_wn u_id)), (b_op, (arI G 400 z89)), (b_ar, (arI G 400 z90)), (b_pi, (arI G 400 v_pi)), (b_pa, (arI G 400 v_pa))] hP hD (fun hP hD => ?_)
                refine lv_iconst (v := 2) hx hb dX12_behindTest_128 (by decide) ?_
                exact W.iret (v := 2) hx hb hr (fun t ht hW => ⟨⟨2, [(b_o, (oc12 u_th u_sa b_rf b_ro b_im b_ke u_fd b_tp u_td z74 z75 z76 z77 u_fa u_bd u_nc b_nl z87 b_op b_ar u_le b_pi b_pa (z88 - 1) (u_od - 1) b_ws b_hw u_la b_se b_re u_bk u_va u_su u_ce u_ho u_wy u_bt u_ps b_pt u_tg u_sn b_ip u_ic b_ah b_be b_me u_wd b_tr b_ld u_st b_wn u_id)), (b_tp, (arI G 400 v_tp)), (b_op, (arI G 400 z89)), (b_ar, (arI G 400 z90)), (b_pi, (arI G 400 v_pi)), (b_pa, (arI G 400 v_pa))], rfl, Or.inr (⟨2, z74, z75, z76, z77, z87, (z88 - 1), (u_od - 1), z89, z90, v_pi, v_pa, i_70, i_71, i_80, ⟨by omega, by omega⟩, ⟨by have zc_o_r : (2 : Int32).toInt = 2 := (by decide); omega, by have zc_o_r : (2 : Int32).toInt = 2 := (by decide); omega⟩, by omega, i_73, xj_up (xj_popB i_82 htp1 (by omega)) (by omega), tj_2 (hj_popB i_83 htp1 (by omega) (htp.2 (by omega))) (by decide) (no31_le (e_j.2.1 (Or.inr rfl)) (by omega)), by have w9 := (twt_2 (by decide) : twt (2 : Int32).toInt = 1); omega, rfl, rfl⟩), by rw [ht]; exact hP.sub [1, 0, 2, 3, 4, 5] rfl, hD.sub [1, 0, 2, 3, 4, 5] (by decide) rfl⟩, hS.F ht⟩) hS.2.2 dX12_behindTest_129
            ·
              obtain ⟨hP, hD⟩ := va_join (wr := [(b_tp, (arI G 400 v_tp)), (b_op, (arI G 400 v_op)), (b_ar, (arI G 400 v_ar)), (b_pa, (arI G 400 v_pa)), (b_pi, (arI G 400 v_pi))]) hP hD [4] [0, 1, 2, 3, 5] rfl rfl (by decide) (by decide) hk1 hFc hP1 hD1
              generalize H1 = H at hP hS ⊢
              refine g5_rs [(b_tp, (arI G 400 v_tp)), (b_op, (arI G 400 v_op)), (b_ar, (arI G 400 v_ar)), (b_pa, (arI G 400 v_pa)), (b_pi, (arI G 400 v_pi)), (b_o, (oc12 u_th u_sa b_rf b_ro b_im b_ke u_fd b_tp u_td u_fr u_to u_so u_wo u_fa u_bd u_nc b_nl u_co b_op b_ar u_le b_pi b_pa u_pd u_od b_ws b_hw u_la b_se b_re u_bk u_va u_su u_ce u_ho u_wy u_bt u_ps b_pt u_tg u_sn b_ip u_ic b_ah b_be b_me u_wd b_tr b_ld u_st b_wn u_id))] hP hD (fun hP hD => ?_)
              obtain ⟨hPc, hDc, hFc⟩ := g5_sub3 (wc := [(b_o, (oc12 u_th u_sa b_rf b_ro b_im b_ke u_fd b_tp u_td u_fr u_to u_so u_wo u_fa u_bd u_nc b_nl u_co b_op b_ar u_le b_pi b_pa u_pd u_od b_ws b_hw u_la b_se b_re u_bk u_va u_su u_ce u_ho u_wy u_bt u_ps b_pt u_tg u_sn b_ip u_ic b_ah b_be b_me u_wd b_tr b_ld u_st b_wn u_id)), (b_tp, (arI G 400 v_tp))]) hP hD hS hA [5, 0] (by decide) rfl
              refine va_callv (va_runV (As := [.int 0]) (rest := []) ⟨hx, hb, hml, hown, hts⟩ (n_must0 l G b_o b_tp b_rf b_ro b_im b_ke b_nl b_op b_ar b_pi b_pa b_ws b_hw b_se b_re b_pt b_ip b_ah b_be b_me b_tr b_ld b_wn H.size u_th u_sa u_fd u_td u_fr u_to u_so u_fa u_bd u_nc u_co u_le u_pd u_od u_la u_bk u_ce u_ho u_wy u_bt u_ps u_tg u_sn u_ic u_wd u_id u_wo u_va u_su u_st v_tp h_u_td h_u_fr h_u_to h_u_bd h_u_nc h_u_co h_u_pd h_u_la h_u_bk h_u_ce h_u_ho h_u_wy h_u_bt h_u_ps h_u_ic h_u_id) (cwV 1 hts gV_X12_233 rfl rfl rfl hv_X12_must ⟨Nat.le_of_ble_eq_true rfl, Nat.le_of_ble_eq_true rfl⟩) (g5_preV hPc hK hDc hN hT hS hFc (ci := 12) (q0 := 0) rfl rfl) rfl rfl hl.1 rfl (lv_room (Nat.le_of_ble_eq_true rfl)) dX12_behindTest_93 ⟨Nat.le_of_ble_eq_true rfl, Nat.le_of_ble_eq_true rfl⟩) hS (fun q _ h => hFc q h) hFc (fun u t H1 locs ht hvm hw hB hz1 hk1 hS => ?_)
              obtain ⟨hP1, hD1⟩ := hB
              rw [ht] at hP1
              obtain rfl := hw
              obtain ⟨hP, hD⟩ := va_join (wr := [(b_op, (arI G 400 v_op)), (b_ar, (arI G 400 v_ar)), (b_pa, (arI G 400 v_pa)), (b_pi, (arI G 400 v_pi))]) hP hD [5, 0] [1, 2, 3, 4] rfl rfl (by decide) (by decide) hk1 hFc hP1 hD1
              generalize H1 = H at hP hS ⊢
              refine g5_rs [(b_op, (arI G 400 v_op)), (b_ar, (arI G 400 v_ar)), (b_pa, (arI G 400 v_pa)), (b_pi, (arI G 400 v_pi)), (b_o, (oc12 u_th u_sa b_rf b_ro b_im b_ke u_fd b_tp u_td u_fr u_to u_so u_wo u_fr 1 u_nc b_nl u_co b_op b_ar u_le b_pi b_pa u_pd u_od b_ws b_hw u_la b_se b_re u_bk u_va u_su u_ce u_ho u_wy u_bt u_ps b_pt u_tg u_sn b_ip u_ic b_ah b_be b_me u_wd b_tr b_ld u_st b_wn u_id)), (b_tp, (arI G 400 v_tp))] hP hD (fun hP hD => ?_)
              refine lv_aload_n hx hb dX12_behindTest_96 rfl (lv_at hl 1 rfl) ?_
              refine va_get (D := G.1) (ci := 12) (v := .int 1) (C := RX12) (T := TX12) (N := 52) hx hb hts inG_X12 hown hK hP 4 rfl rfl 14 (by decide) (hts _ fl_X12_205) (fun _ h9 => h9) rfl dX12_behindTest_97 ?_
              refine lv_if_ne (tgt := 128) hx hb dX12_behindTest_100 (by decide) (fun c_92 => ?_) (fun c_92 => ?_)
              ·
                refine lv_iconst (v := 2) hx hb dX12_behindTest_128 (by decide) ?_
                exact W.iret (v := 2) hx hb hr (fun t ht hW => ⟨⟨2, [(b_o, (oc12 u_th u_sa b_rf b_ro b_im b_ke u_fd b_tp u_td u_fr u_to u_so u_wo u_fr 1 u_nc b_nl u_co b_op b_ar u_le b_pi b_pa u_pd u_od b_ws b_hw u_la b_se b_re u_bk u_va u_su u_ce u_ho u_wy u_bt u_ps b_pt u_tg u_sn b_ip u_ic b_ah b_be b_me u_wd b_tr b_ld u_st b_wn u_id)), (b_tp, (arI G 400 v_tp)), (b_op, (arI G 400 v_op)), (b_ar, (arI G 400 v_ar)), (b_pi, (arI G 400 v_pi)), (b_pa, (arI G 400 v_pa))], rfl, Or.inl (⟨2, ⟨by have zc_o_r : (2 : Int32).toInt = 2 := (by decide); omega, by have zc_o_r : (2 : Int32).toInt = 2 := (by decide); omega⟩, rfl, rfl⟩), by rw [ht]; exact hP.sub [4, 5, 0, 1, 3, 2] rfl, hD.sub [4, 5, 0, 1, 3, 2] (by decide) rfl⟩, hS.F ht⟩) hS.2.2 dX12_behindTest_129
              ·
                exact absurd c_92 (by decide)
          ·
            have i_68 : z66.toInt = (-1) := by have z := g5_neN (a := z66.toInt) (b := (-1)) (by rfl) (by decide) c_68; omega
            refine lv_iconst (v := 4) hx hb dX12_behindTest_84 (by decide) ?_
            exact W.iret (v := 4) hx hb hr (fun t ht hW => ⟨⟨4, [(b_o, (oc12 u_th u_sa b_rf b_ro b_im b_ke u_fd b_tp u_td u_fr u_to u_so u_wo u_fa u_bd u_nc b_nl u_co b_op b_ar u_le b_pi b_pa u_pd u_od b_ws b_hw u_la b_se b_re u_bk u_va u_su u_ce u_ho u_wy u_bt u_ps b_pt u_tg u_sn b_ip u_ic b_ah b_be b_me u_wd b_tr b_ld u_st b_wn u_id)), (b_tp, (arI G 400 v_tp)), (b_op, (arI G 400 v_op)), (b_ar, (arI G 400 v_ar)), (b_pi, (arI G 400 v_pi)), (b_pa, (arI G 400 v_pa))], rfl, Or.inr (⟨4, u_fr, u_to, u_so, u_wo, u_co, u_pd, u_od, v_op, v_ar, v_pi, v_pa, h_u_fr, h_u_to, h_u_co, h_u_pd, ⟨by have zc_o_r : (4 : Int32).toInt = 4 := (by decide); omega, by have zc_o_r : (4 : Int32).toInt = 4 := (by decide); omega⟩, by omega, e_s, e_x, tj_4 (tj_d1 e_j (by decide)) (by decide) (inn_no30 i_65 (by omega)), by have w9 := (twt_0 (by decide) : twt (4 : Int32).toInt = 0); omega, rfl, rfl⟩), by rw [ht]; exact hP.sub [4, 0, 1, 2, 5, 3] rfl, hD.sub [4, 0, 1, 2, 5, 3] (by decide) rfl⟩, hS.F ht⟩) hS.2.2 dX12_behindTest_85
        ·
          exact absurd c_64 (by decide)
