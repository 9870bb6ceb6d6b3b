theorem dgX0_lacking_0 : ∀ r ∈ ([(0, (.iconst 0, 1)), (1, (.istore_n 2, 1)), (2, (.aload_n 0, 1)), (3, (.getfield 9, 3)), (6, (.getfield 19, 3)), (9, (.astore_n 3, 1)), (10, (.iconst 0, 1)), (11, (.istore 4, 2)), (13, (.iload 4, 2)), (15, (.aload_n 3, 1)), (16, (.getfield 25, 3)), (19, (.if_icmp .ge 93, 3)), (22, (.aload_n 0, 1)), (23, (.getfield 15, 3)), (26, (.aload_n 3, 1)), (27, (.iload 4, 2)), (29, (.iconst 0, 1)), (30, (.invokevirtual 31, 3)), (33, (.aload_n 3, 1)), (34, (.iload 4, 2)), (36, (.iconst 1, 1)), (37, (.invokevirtual 31, 3)), (40, (.aload_n 3, 1)), (41, (.iload 4, 2)), (43, (.iconst 2, 1)), (44, (.invokevirtual 31, 3)), (47, (.iload_n 1, 1)), (48, (.invokevirtual 35, 3)), (51, (.aload_n 0, 1)), (52, (.getfield 15, 3)), (55, (.aload_n 3, 1)), (56, (.iload 4, 2)), (58, (.iconst 4, 1)), (59, (.invokevirtual 31, 3)), (62, (.bipush 64, 2)), (64, (.imul, 1)), (65, (.aload_n 3, 1)), (66, (.iload 4, 2)), (68, (.iconst 3, 1)), (69, (.invokevirtual 31, 3))] : List (Nat × (Instr × Nat))), decode cX0_lacking r.1 = .ok r.2 := by decide +kernel
theorem dX0_lacking_0 : decode cX0_lacking 0 = .ok (.iconst 0, 1) := dgX0_lacking_0 (0, (.iconst 0, 1)) (List.mem_of_getElem? (i := 0) rfl)
theorem dX0_lacking_1 : decode cX0_lacking 1 = .ok (.istore_n 2, 1) := dgX0_lacking_0 (1, (.istore_n 2, 1)) (List.mem_of_getElem? (i := 1) rfl)
theorem dX0_lacking_2 : decode cX0_lacking 2 = .ok (.aload_n 0, 1) := dgX0_lacking_0 (2, (.aload_n 0, 1)) (List.mem_of_getElem? (i := 2) rfl)
theorem dX0_lacking_3 : decode cX0_lacking 3 = .ok (.getfield 9, 3) := dgX0_lacking_0 (3, (.getfield 9, 3)) (List.mem_of_getElem? (i := 3) rfl)
theorem dX0_lacking_6 : decode cX0_lacking 6 = .ok (.getfield 19, 3) := dgX0_lacking_0 (6, (.getfield 19, 3)) (List.mem_of_getElem? (i := 4) rfl)
theorem dX0_lacking_9 : decode cX0_lacking 9 = .ok (.astore_n 3, 1) := dgX0_lacking_0 (9, (.astore_n 3, 1)) (List.mem_of_getElem? (i := 5) rfl)
theorem dX0_lacking_10 : decode cX0_lacking 10 = .ok (.iconst 0, 1) := dgX0_lacking_0 (10, (.iconst 0, 1)) (List.mem_of_getElem? (i := 6) rfl)
theorem dX0_lacking_11 : decode cX0_lacking 11 = .ok (.istore 4, 2) := dgX0_lacking_0 (11, (.istore 4, 2)) (List.mem_of_getElem? (i := 7) rfl)
theorem dX0_lacking_13 : decode cX0_lacking 13 = .ok (.iload 4, 2) := dgX0_lacking_0 (13, (.iload 4, 2)) (List.mem_of_getElem? (i := 8) rfl)
theorem dX0_lacking_15 : decode cX0_lacking 15 = .ok (.aload_n 3, 1) := dgX0_lacking_0 (15, (.aload_n 3, 1)) (List.mem_of_getElem? (i := 9) rfl)
theorem dX0_lacking_16 : decode cX0_lacking 16 = .ok (.getfield 25, 3) := dgX0_lacking_0 (16, (.getfield 25, 3)) (List.mem_of_getElem? (i := 10) rfl)
theorem dX0_lacking_19 : decode cX0_lacking 19 = .ok (.if_icmp .ge 93, 3) := dgX0_lacking_0 (19, (.if_icmp .ge 93, 3)) (List.mem_of_getElem? (i := 11) rfl)
theorem dX0_lacking_22 : decode cX0_lacking 22 = .ok (.aload_n 0, 1) := dgX0_lacking_0 (22, (.aload_n 0, 1)) (List.mem_of_getElem? (i := 12) rfl)
theorem dX0_lacking_23 : decode cX0_lacking 23 = .ok (.getfield 15, 3) := dgX0_lacking_0 (23, (.getfield 15, 3)) (List.mem_of_getElem? (i := 13) rfl)
theorem dX0_lacking_26 : decode cX0_lacking 26 = .ok (.aload_n 3, 1) := dgX0_lacking_0 (26, (.aload_n 3, 1)) (List.mem_of_getElem? (i := 14) rfl)
theorem dX0_lacking_27 : decode cX0_lacking 27 = .ok (.iload 4, 2) := dgX0_lacking_0 (27, (.iload 4, 2)) (List.mem_of_getElem? (i := 15) rfl)
theorem dX0_lacking_29 : decode cX0_lacking 29 = .ok (.iconst 0, 1) := dgX0_lacking_0 (29, (.iconst 0, 1)) (List.mem_of_getElem? (i := 16) rfl)
theorem dX0_lacking_30 : decode cX0_lacking 30 = .ok (.invokevirtual 31, 3) := dgX0_lacking_0 (30, (.invokevirtual 31, 3)) (List.mem_of_getElem? (i := 17) rfl)
theorem dX0_lacking_33 : decode cX0_lacking 33 = .ok (.aload_n 3, 1) := dgX0_lacking_0 (33, (.aload_n 3, 1)) (List.mem_of_getElem? (i := 18) rfl)
theorem dX0_lacking_34 : decode cX0_lacking 34 = .ok (.iload 4, 2) := dgX0_lacking_0 (34, (.iload 4, 2)) (List.mem_of_getElem? (i := 19) rfl)
theorem dX0_lacking_36 : decode cX0_lacking 36 = .ok (.iconst 1, 1) := dgX0_lacking_0 (36, (.iconst 1, 1)) (List.mem_of_getElem? (i := 20) rfl)
theorem dX0_lacking_37 : decode cX0_lacking 37 = .ok (.invokevirtual 31, 3) := dgX0_lacking_0 (37, (.invokevirtual 31, 3)) (List.mem_of_getElem? (i := 21) rfl)
theorem dX0_lacking_40 : decode cX0_lacking 40 = .ok (.aload_n 3, 1) := dgX0_lacking_0 (40, (.aload_n 3, 1)) (List.mem_of_getElem? (i := 22) rfl)
theorem dX0_lacking_41 : decode cX0_lacking 41 = .ok (.iload 4, 2) := dgX0_lacking_0 (41, (.iload 4, 2)) (List.mem_of_getElem? (i := 23) rfl)
theorem dX0_lacking_43 : decode cX0_lacking 43 = .ok (.iconst 2, 1) := dgX0_lacking_0 (43, (.iconst 2, 1)) (List.mem_of_getElem? (i := 24) rfl)
theorem dX0_lacking_44 : decode cX0_lacking 44 = .ok (.invokevirtual 31, 3) := dgX0_lacking_0 (44, (.invokevirtual 31, 3)) (List.mem_of_getElem? (i := 25) rfl)
theorem dX0_lacking_47 : decode cX0_lacking 47 = .ok (.iload_n 1, 1) := dgX0_lacking_0 (47, (.iload_n 1, 1)) (List.mem_of_getElem? (i := 26) rfl)
theorem dX0_lacking_48 : decode cX0_lacking 48 = .ok (.invokevirtual 35, 3) := dgX0_lacking_0 (48, (.invokevirtual 35, 3)) (List.mem_of_getElem? (i := 27) rfl)
theorem dX0_lacking_51 : decode cX0_lacking 51 = .ok (.aload_n 0, 1) := dgX0_lacking_0 (51, (.aload_n 0, 1)) (List.mem_of_getElem? (i := 28) rfl)
theorem dX0_lacking_52 : decode cX0_lacking 52 = .ok (.getfield 15, 3) := dgX0_lacking_0 (52, (.getfield 15, 3)) (List.mem_of_getElem? (i := 29) rfl)
theorem dX0_lacking_55 : decode cX0_lacking 55 = .ok (.aload_n 3, 1) := dgX0_lacking_0 (55, (.aload_n 3, 1)) (List.mem_of_getElem? (i := 30) rfl)
theorem dX0_lacking_56 : decode cX0_lacking 56 = .ok (.iload 4, 2) := dgX0_lacking_0 (56, (.iload 4, 2)) (List.mem_of_getElem? (i := 31) rfl)
theorem dX0_lacking_58 : decode cX0_lacking 58 = .ok (.iconst 4, 1) := dgX0_lacking_0 (58, (.iconst 4, 1)) (List.mem_of_getElem? (i := 32) rfl)
theorem dX0_lacking_59 : decode cX0_lacking 59 = .ok (.invokevirtual 31, 3) := dgX0_lacking_0 (59, (.invokevirtual 31, 3)) (List.mem_of_getElem? (i := 33) rfl)
theorem dX0_lacking_62 : decode cX0_lacking 62 = .ok (.bipush 64, 2) := dgX0_lacking_0 (62, (.bipush 64, 2)) (List.mem_of_getElem? (i := 34) rfl)
theorem dX0_lacking_64 : decode cX0_lacking 64 = .ok (.imul, 1) := dgX0_lacking_0 (64, (.imul, 1)) (List.mem_of_getElem? (i := 35) rfl)
theorem dX0_lacking_65 : decode cX0_lacking 65 = .ok (.aload_n 3, 1) := dgX0_lacking_0 (65, (.aload_n 3, 1)) (List.mem_of_getElem? (i := 36) rfl)
theorem dX0_lacking_66 : decode cX0_lacking 66 = .ok (.iload 4, 2) := dgX0_lacking_0 (66, (.iload 4, 2)) (List.mem_of_getElem? (i := 37) rfl)
theorem dX0_lacking_68 : decode cX0_lacking 68 = .ok (.iconst 3, 1) := dgX0_lacking_0 (68, (.iconst 3, 1)) (List.mem_of_getElem? (i := 38) rfl)
theorem dX0_lacking_69 : decode cX0_lacking 69 = .ok (.invokevirtual 31, 3) := dgX0_lacking_0 (69, (.invokevirtual 31, 3)) (List.mem_of_getElem? (i := 39) rfl)
theorem dgX0_lacking_1 : ∀ r ∈ ([(72, (.iadd, 1)), (73, (.invokevirtual 41, 3)), (76, (.istore 5, 2)), (78, (.iload 5, 2)), (80, (.aload_n 3, 1)), (81, (.iload 4, 2)), (83, (.iconst 5, 1)), (84, (.invokevirtual 31, 3)), (87, (.iconst 1, 1)), (88, (.if_icmp .ne 7, 3)), (91, (.iconst 1, 1)), (92, (.goto 4, 3)), (95, (.iconst 0, 1)), (96, (.if_icmp .eq 10, 3)), (99, (.iload_n 2, 1)), (100, (.iconst 1, 1)), (101, (.iload 4, 2)), (103, (.ishl, 1)), (104, (.ior, 1)), (105, (.istore_n 2, 1)), (106, (.iinc 4 1, 3)), (109, (.goto (-96), 3)), (112, (.iload_n 2, 1)), (113, (.ireturn, 1))] : List (Nat × (Instr × Nat))), decode cX0_lacking r.1 = .ok r.2 := by decide +kernel
theorem dX0_lacking_72 : decode cX0_lacking 72 = .ok (.iadd, 1) := dgX0_lacking_1 (72, (.iadd, 1)) (List.mem_of_getElem? (i := 0) rfl)
theorem dX0_lacking_73 : decode cX0_lacking 73 = .ok (.invokevirtual 41, 3) := dgX0_lacking_1 (73, (.invokevirtual 41, 3)) (List.mem_of_getElem? (i := 1) rfl)
theorem dX0_lacking_76 : decode cX0_lacking 76 = .ok (.istore 5, 2) := dgX0_lacking_1 (76, (.istore 5, 2)) (List.mem_of_getElem? (i := 2) rfl)
theorem dX0_lacking_78 : decode cX0_lacking 78 = .ok (.iload 5, 2) := dgX0_lacking_1 (78, (.iload 5, 2)) (List.mem_of_getElem? (i := 3) rfl)
theorem dX0_lacking_80 : decode cX0_lacking 80 = .ok (.aload_n 3, 1) := dgX0_lacking_1 (80, (.aload_n 3, 1)) (List.mem_of_getElem? (i := 4) rfl)
theorem dX0_lacking_81 : decode cX0_lacking 81 = .ok (.iload 4, 2) := dgX0_lacking_1 (81, (.iload 4, 2)) (List.mem_of_getElem? (i := 5) rfl)
theorem dX0_lacking_83 : decode cX0_lacking 83 = .ok (.iconst 5, 1) := dgX0_lacking_1 (83, (.iconst 5, 1)) (List.mem_of_getElem? (i := 6) rfl)
theorem dX0_lacking_84 : decode cX0_lacking 84 = .ok (.invokevirtual 31, 3) := dgX0_lacking_1 (84, (.invokevirtual 31, 3)) (List.mem_of_getElem? (i := 7) rfl)
theorem dX0_lacking_87 : decode cX0_lacking 87 = .ok (.iconst 1, 1) := dgX0_lacking_1 (87, (.iconst 1, 1)) (List.mem_of_getElem? (i := 8) rfl)
theorem dX0_lacking_88 : decode cX0_lacking 88 = .ok (.if_icmp .ne 7, 3) := dgX0_lacking_1 (88, (.if_icmp .ne 7, 3)) (List.mem_of_getElem? (i := 9) rfl)
theorem dX0_lacking_91 : decode cX0_lacking 91 = .ok (.iconst 1, 1) := dgX0_lacking_1 (91, (.iconst 1, 1)) (List.mem_of_getElem? (i := 10) rfl)
theorem dX0_lacking_92 : decode cX0_lacking 92 = .ok (.goto 4, 3) := dgX0_lacking_1 (92, (.goto 4, 3)) (List.mem_of_getElem? (i := 11) rfl)
theorem dX0_lacking_95 : decode cX0_lacking 95 = .ok (.iconst 0, 1) := dgX0_lacking_1 (95, (.iconst 0, 1)) (List.mem_of_getElem? (i := 12) rfl)
theorem dX0_lacking_96 : decode cX0_lacking 96 = .ok (.if_icmp .eq 10, 3) := dgX0_lacking_1 (96, (.if_icmp .eq 10, 3)) (List.mem_of_getElem? (i := 13) rfl)
theorem dX0_lacking_99 : decode cX0_lacking 99 = .ok (.iload_n 2, 1) := dgX0_lacking_1 (99, (.iload_n 2, 1)) (List.mem_of_getElem? (i := 14) rfl)
theorem dX0_lacking_100 : decode cX0_lacking 100 = .ok (.iconst 1, 1) := dgX0_lacking_1 (100, (.iconst 1, 1)) (List.mem_of_getElem? (i := 15) rfl)
theorem dX0_lacking_101 : decode cX0_lacking 101 = .ok (.iload 4, 2) := dgX0_lacking_1 (101, (.iload 4, 2)) (List.mem_of_getElem? (i := 16) rfl)
theorem dX0_lacking_103 : decode cX0_lacking 103 = .ok (.ishl, 1) := dgX0_lacking_1 (103, (.ishl, 1)) (List.mem_of_getElem? (i := 17) rfl)
theorem dX0_lacking_104 : decode cX0_lacking 104 = .ok (.ior, 1) := dgX0_lacking_1 (104, (.ior, 1)) (List.mem_of_getElem? (i := 18) rfl)
theorem dX0_lacking_105 : decode cX0_lacking 105 = .ok (.istore_n 2, 1) := dgX0_lacking_1 (105, (.istore_n 2, 1)) (List.mem_of_getElem? (i := 19) rfl)
theorem dX0_lacking_106 : decode cX0_lacking 106 = .ok (.iinc 4 1, 3) := dgX0_lacking_1 (106, (.iinc 4 1, 3)) (List.mem_of_getElem? (i := 20) rfl)
theorem dX0_lacking_109 : decode cX0_lacking 109 = .ok (.goto (-96), 3) := dgX0_lacking_1 (109, (.goto (-96), 3)) (List.mem_of_getElem? (i := 21) rfl)
theorem dX0_lacking_112 : decode cX0_lacking 112 = .ok (.iload_n 2, 1) := dgX0_lacking_1 (112, (.iload_n 2, 1)) (List.mem_of_getElem? (i := 22) rfl)
theorem dX0_lacking_113 : decode cX0_lacking 113 = .ok (.ireturn, 1) := dgX0_lacking_1 (113, (.ireturn, 1)) (List.mem_of_getElem? (i := 23) rfl)
theorem inG_X0 : ∀ w ∈ wsX00, w ∈ tblG := tgs [363, 365, 367, 369, 371] (by decide +kernel) (by decide +kernel)
theorem fl_X0_9 : Cond.fieldLink RX0 9 "LateGlass$Hanger" "house" "LLateGlass$House;" ∈ tblG := tg 355 (by decide +kernel) (by decide +kernel)
theorem fl_X0_19 : Cond.fieldLink RX0 19 "LateGlass$House" "wishes" "LLateGlass$Table;" ∈ tblG := tg 186 (by decide +kernel) (by decide +kernel)
theorem fl_X0_25 : Cond.fieldLink RX0 25 "LateGlass$Table" "rows" "I" ∈ tblG := tg 138 (by decide +kernel) (by decide +kernel)
theorem fl_X0_15 : Cond.fieldLink RX0 15 "LateGlass$Hanger" "eye" "LLateGlass$Look;" ∈ tblG := tg 356 (by decide +kernel) (by decide +kernel)
theorem ml_X0_31 : Cond.methodLink RX0 31 yX6_get ∈ tblG := tg 1072 (by decide +kernel) (by decide +kernel)
theorem gV_X0_31 : GoodIn tblG (wsV RX0 31 RX6 yX6_get (wsG yX6_get cX6_get 3 (some .int))) := tgV ml_X0_31 im_X6_get se_X6_get ini_X6 gW_X6_get
theorem ml_X0_35 : Cond.methodLink RX0 35 yX5_run ∈ tblG := tg 1073 (by decide +kernel) (by decide +kernel)
theorem gV_X0_35 : GoodIn tblG (wsV RX0 35 RX5 yX5_run (wsG yX5_run cX5_run 9 none)) := tgV ml_X0_35 im_X5_run se_X5_run ini_X5 gW_X5_run
theorem ml_X0_41 : Cond.methodLink RX0 41 yX5_hasPoint ∈ tblG := tg 1074 (by decide +kernel) (by decide +kernel)
theorem im_X5_hasPoint : Cond.instanceMethod yX5_hasPoint ∈ tblG := tg 1075 (by decide +kernel) (by decide +kernel)
theorem se_X5_hasPoint : Cond.selects RX5 yX5_hasPoint yX5_hasPoint ∈ tblG := tg 1076 (by decide +kernel) (by decide +kernel)
theorem cd_X5_hasPoint : Cond.code yX5_hasPoint cX5_hasPoint 3 (some .boolean) ∈ tblG := tg 1077 (by decide +kernel) (by decide +kernel)
theorem gW_X5_hasPoint : GoodIn tblG (wsG yX5_hasPoint cX5_hasPoint 3 (some .boolean)) := tgi cd_X5_hasPoint
theorem gV_X0_41 : GoodIn tblG (wsV RX0 41 RX5 yX5_hasPoint (wsG yX5_hasPoint cX5_hasPoint 3 (some .boolean))) := tgV ml_X0_41 im_X5_hasPoint se_X5_hasPoint ini_X5 gW_X5_hasPoint
theorem hv_X5_hasPoint : yX5_hasPoint.cls = RX5 ∧ yX5_hasPoint.cls ≠ "java/lang/invoke/MethodHandle" ∧ yX5_hasPoint.cls ≠ "java/lang/invoke/VarHandle" ∧ (parseMethodDescriptor yX5_hasPoint.desc).map (fun d => d.parameters.length) = some 1 := by decide +kernel
set_option maxHeartbeats 4000000 in
set_option maxRecDepth 100000 in
theorem g_lackingN (l : Launch) (G : g5_G) (a_k a_h a_g a_gn a_b a_bn a_p a_pn a_w a_wn a_bb a_j a_as a_sk a_l a_pt a_ha a_s : Nat) (sz : Nat) (e_le : Int32) (e_st : Int32) (e_fo : Int32) (e_lc : Int32) (e_g : Int32) (e_b : Int32) (e_p : Int32) (e_w : Int32) (e_ln : Int32) (e_se : Int32) (e_lh : Int32) (e_br : Int32) (e_we : Int32) (e_me : Int32) (e_ce : Int32) (e_wy : Int32) (e_ho : Int32) (e_ov : Int32) (e_f1 : Int32) (e_f2 : Int32) (e_f3 : Int32) (p_u : Int32) (e_wa : Int64) (e_gb : Int64) (f_g : Nat → Int32) (f_b : Nat → Int32) (f_p : Nat → Int32) (f_w : Nat → Int32) (f_bb : Nat → Int64) (f_as : Nat → Int32) (f_sk : Nat → Int64) (f_l : Nat → Option Nat) (f_pt : Nat → Int32) (h_e_g : 0 ≤ e_g.toInt ∧ e_g.toInt ≤ 6) (h_e_b : 0 ≤ e_b.toInt ∧ e_b.toInt ≤ 5) (h_e_p : 0 ≤ e_p.toInt ∧ e_p.toInt ≤ 8) (h_e_w : 0 ≤ e_w.toInt ∧ e_w.toInt ≤ 6) (h_e_ov : 0 ≤ e_ov.toInt ∧ e_ov.toInt ≤ 1) (e_gk : gOK f_g e_g.toInt) (e_pk : gOK f_p e_p.toInt) (e_gi : inT e_gb f_g e_g.toInt) (e_f : e_fo.toInt < 0 ∨ e_lc.toInt ≤ e_fo.toInt) : Met l yX0_lacking (wsG yX0_lacking cX0_lacking 6 (some .int)) ({ frames := 14, cells := 0, slots := 0, locals := 556 }) (va_Pc [.ref a_ha, .int p_u] (g5_P G [(a_k, (oc5 a_h a_j a_pt e_ln e_se e_lh e_br e_we e_me e_ce e_wy e_ho e_ov)), (a_h, (oc1 e_wa e_le e_st e_fo e_lc a_l a_g a_b a_s a_p a_w e_gb a_bb)), (a_g, (oc6 6 5 a_gn e_g)), (a_gn, (arI G 30 f_g)), (a_b, (oc6 5 24 a_bn e_b)), (a_bn, (arI G 120 f_b)), (a_p, (oc6 8 5 a_pn e_p)), (a_pn, (arI G 40 f_p)), (a_w, (oc6 6 6 a_wn e_w)), (a_wn, (arI G 36 f_w)), (a_bb, (arJ G 24 f_bb)), (a_j, (oc2 a_as a_sk)), (a_as, (arI G 8 f_as)), (a_sk, (arJ G 50 f_sk)), (a_l, (arW G 6 f_l)), (a_pt, (arI G 200 f_pt)), (a_ha, (oc0 a_h a_k e_f1 e_f2 e_f3))] sz)) (va_Qi (fun (r : Int32) (u : va_W) => (∃ (o_r : Int32) (o_ln : Int32) (o_se : Int32) (o_lh : Int32) (o_br : Int32) (o_we : Int32) (o_me : Int32) (o_ce : Int32) (o_wy : Int32) (o_ho : Int32) (o_ov : Int32) (o_pt : Nat → Int32) (o_as : Nat → Int32) (o_sk : Nat → Int64), (0 ≤ o_ov.toInt ∧ o_ov.toInt ≤ 1) ∧ (r = o_r) ∧ (u = [(a_k, (oc5 a_h a_j a_pt o_ln o_se o_lh o_br o_we o_me o_ce o_wy o_ho o_ov)), (a_h, (oc1 e_wa e_le e_st e_fo e_lc a_l a_g a_b a_s a_p a_w e_gb a_bb)), (a_g, (oc6 6 5 a_gn e_g)), (a_gn, (arI G 30 f_g)), (a_b, (oc6 5 24 a_bn e_b)), (a_bn, (arI G 120 f_b)), (a_p, (oc6 8 5 a_pn e_p)), (a_pn, (arI G 40 f_p)), (a_w, (oc6 6 6 a_wn e_w)), (a_wn, (arI G 36 f_w)), (a_bb, (arJ G 24 f_bb)), (a_j, (oc2 a_as a_sk)), (a_as, (arI G 8 o_as)), (a_sk, (arJ G 50 o_sk)), (a_l, (arW G 6 f_l)), (a_pt, (arI G 200 o_pt)), (a_ha, (oc0 a_h a_k e_f1 e_f2 e_f3))]))) (g5_B G (va_A [(a_k, (oc5 a_h a_j a_pt e_ln e_se e_lh e_br e_we e_me e_ce e_wy e_ho e_ov)), (a_h, (oc1 e_wa e_le e_st e_fo e_lc a_l a_g a_b a_s a_p a_w e_gb a_bb)), (a_g, (oc6 6 5 a_gn e_g)), (a_gn, (arI G 30 f_g)), (a_b, (oc6 5 24 a_bn e_b)), (a_bn, (arI G 120 f_b)), (a_p, (oc6 8 5 a_pn e_p)), (a_pn, (arI G 40 f_p)), (a_w, (oc6 6 6 a_wn e_w)), (a_wn, (arI G 36 f_w)), (a_bb, (arJ G 24 f_bb)), (a_j, (oc2 a_as a_sk)), (a_as, (arI G 8 f_as)), (a_sk, (arJ G 50 f_sk)), (a_l, (arW G 6 f_l)), (a_pt, (arI G 200 f_pt)), (a_ha, (oc0 a_h a_k e_f1 e_f2 e_f3))] sz)) (va_A [(a_k, (oc5 a_h a_j a_pt e_ln e_se e_lh e_br e_we e_me e_ce e_wy e_ho e_ov)), (a_h, (oc1 e_wa e_le e_st e_fo e_lc a_l a_g a_b a_s a_p a_w e_gb a_bb)), (a_g, (oc6 6 5 a_gn e_g)), (a_gn, (arI G 30 f_g)), (a_b, (oc6 5 24 a_bn e_b)), (a_bn, (arI G 120 f_b)), (a_p, (oc6 8 5 a_pn e_p)), (a_pn, (arI G 40 f_p)), (a_w, (oc6 6 6 a_wn e_w)), (a_wn, (arI G 36 f_w)), (a_bb, (arJ G 24 f_bb)), (a_j, (oc2 a_as a_sk)), (a_as, (arI G 8 f_as)), (a_sk, (arJ G 50 f_sk)), (a_l, (arW G 6 f_l)), (a_pt, (arI G 200 f_pt)), (a_ha, (oc0 a_h a_k e_f1 e_f2 e_f3))] sz)) 0 0 (va_A [(a_k, (oc5 a_h a_j a_pt e_ln e_se e_lh e_br e_we e_me e_ce e_wy e_ho e_ov)), (a_h, (oc1 e_wa e_le e_st e_fo e_lc a_l a_g a_b a_s a_p a_w e_gb a_bb)), (a_g, (oc6 6 5 a_gn e_g)), (a_gn, (arI G 30 f_g)), (a_b, (oc6 5 24 a_bn e_b)), (a_bn, (arI G 120 f_b)), (a_p, (oc6 8 5 a_pn e_p)), (a_pn, (arI G 40 f_p)), (a_w, (oc6 6 6 a_wn e_w)), (a_wn, (arI G 36 f_w)), (a_bb, (arJ G 24 f_bb)), (a_j, (oc2 a_as a_sk)), (a_as, (arI G 8 f_as)), (a_sk, (arJ G 50 f_sk)), (a_l, (arW G 6 f_l)), (a_pt, (arI G 200 f_pt)), (a_ha, (oc0 a_h a_k e_f1 e_f2 e_f3))] sz) := by
  refine Met.ofW (cc := cX0_lacking) (maxL := 6) (ret := (some .int)) (by decide) rfl ?_
  intro p e s m args below meth c s₁ B hml hv
  obtain ⟨rfl, hsz, hP, hK, hD0, hN, hT⟩ := hv
  have hx := B.exec
  have hb := B.bytes
  have hr := B.returns
  have hts : ∀ w ∈ tblG, w.before _ s = true := fun w h => atoms_spec (ws := (wsG yX0_lacking cX0_lacking 6 (some .int))) B.pre w (List.mem_cons_of_mem _ h)
  have hown : s.vm.findClass RX0 = some m.cls := findClass_of_methodNamed B.named
  have hlocks := B.notSynchronized
  subst hsz
  have hD := hD0.self (sz := s.heap.size)
  generalize hAe : va_A [(a_k, (oc5 a_h a_j a_pt e_ln e_se e_lh e_br e_we e_me e_ce e_wy e_ho e_ov)), (a_h, (oc1 e_wa e_le e_st e_fo e_lc a_l a_g a_b a_s a_p a_w e_gb a_bb)), (a_g, (oc6 6 5 a_gn e_g)), (a_gn, (arI G 30 f_g)), (a_b, (oc6 5 24 a_bn e_b)), (a_bn, (arI G 120 f_b)), (a_p, (oc6 8 5 a_pn e_p)), (a_pn, (arI G 40 f_p)), (a_w, (oc6 6 6 a_wn e_w)), (a_wn, (arI G 36 f_w)), (a_bb, (arJ G 24 f_bb)), (a_j, (oc2 a_as a_sk)), (a_as, (arI G 8 f_as)), (a_sk, (arJ G 50 f_sk)), (a_l, (arW G 6 f_l)), (a_pt, (arI G 200 f_pt)), (a_ha, (oc0 a_h a_k e_f1 e_f2 e_f3))] s.heap.size = A at hD hT ⊢
  have hA : ∀ q : Nat, s.heap.size ≤ q → A q := fun q h => by rw [← hAe]; exact Or.inr h
  have hS : va_S A s.heap s.heap [] := va_S.rf
  have hP : va_P G.1 vwCl [(a_k, (oc5 a_h a_j a_pt e_ln e_se e_lh e_br e_we e_me e_ce e_wy e_ho e_ov)), (a_h, (oc1 e_wa e_le e_st e_fo e_lc a_l a_g a_b a_s a_p a_w e_gb a_bb)), (a_g, (oc6 6 5 a_gn e_g)), (a_gn, (arI G 30 f_g)), (a_b, (oc6 5 24 a_bn e_b)), (a_bn, (arI G 120 f_b)), (a_p, (oc6 8 5 a_pn e_p)), (a_pn, (arI G 40 f_p)), (a_w, (oc6 6 6 a_wn e_w)), (a_wn, (arI G 36 f_w)), (a_bb, (arJ G 24 f_bb)), (a_j, (oc2 a_as a_sk)), (a_as, (arI G 8 f_as)), (a_sk, (arJ G 50 f_sk)), (a_l, (arW G 6 f_l)), (a_pt, (arI G 200 f_pt)), (a_ha, (oc0 a_h a_k e_f1 e_f2 e_f3))] s.heap := hP
  have hl := lv_entry ([.ref a_ha, .int p_u]) (n := 6) (Nat.le_of_ble_eq_true rfl)
  rw [lg_entry_eq]
  generalize (lg_sl ([.ref a_ha, .int p_u]) ++ List.replicate (6 - (lg_sl ([.ref a_ha, .int p_u])).length) Slot.unset).toArray = ls at hl ⊢
  have hl : lv_has ls 6 [(0, .ref a_ha), (1, .int p_u)] := hl
  refine lv_iconst (v := 0) hx hb dX0_lacking_0 (by decide) ?_
  refine lv_istore_n (lv' := [(2, .int 0), (0, .ref a_ha), (1, .int p_u)]) hx hb dX0_lacking_1 rfl hl (by decide) rfl (fun ls hl => ?_)
  refine lv_aload_n hx hb dX0_lacking_2 rfl (lv_at hl 1 rfl) ?_
  refine va_get (D := G.1) (ci := 0) (v := .ref a_h) (C := RX0) (T := TX0) (N := 5) hx hb hts inG_X0 hown hK hP 16 rfl rfl 0 (by decide) (hts _ fl_X0_9) (fun _ h9 => h9) rfl dX0_lacking_3 ?_
  refine va_get (D := G.1) (ci := 1) (v := .ref a_w) (C := RX1) (T := TX1) (N := 13) hx hb hts inG_X1 hown hK hP 1 rfl rfl 10 (by decide) (hts _ fl_X0_19) (fun _ h9 => h9) rfl dX0_lacking_6 ?_
  refine lv_astore_n (lv' := [(3, .ref a_w), (2, .int 0), (0, .ref a_ha), (1, .int p_u)]) hx hb dX0_lacking_9 rfl hl (by decide) rfl (fun ls hl => ?_)
  refine lv_iconst (v := 0) hx hb dX0_lacking_10 (by decide) ?_
  refine lv_istore (lv' := [(4, .int 0), (3, .ref a_w), (2, .int 0), (0, .ref a_ha), (1, .int p_u)]) hx hb dX0_lacking_11 hl (by decide) rfl (fun ls hl => ?_)
  refine g5_loop (α := (Int32) × (Int32) × (Int32) × (Int32) × (Int32) × (Int32) × (Int32) × (Int32) × (Int32) × (Int32) × (Int32) × (Nat → Int32) × (Nat → Int32) × (Nat → Int64) × (Int32)) (fun (q : (Int32) × (Int32) × (Int32) × (Int32) × (Int32) × (Int32) × (Int32) × (Int32) × (Int32) × (Int32) × (Int32) × (Nat → Int32) × (Nat → Int32) × (Nat → Int64) × (Int32)) (ls : Array Slot) (H : Heap) (locs : List Loc) => match q with | (k_i, k_b, k_se, k_lh, k_br, k_we, k_me, k_ce, k_wy, k_ho, k_ov, k_pt, k_as, k_sk, k_ln) => lv_has ls 6 [(2, .int k_b), (4, .int k_i), (3, .ref a_w), (0, .ref a_ha), (1, .int p_u)] ∧ va_P G.1 vwCl [(a_k, (oc5 a_h a_j a_pt k_ln k_se k_lh k_br k_we k_me k_ce k_wy k_ho k_ov)), (a_h, (oc1 e_wa e_le e_st e_fo e_lc a_l a_g a_b a_s a_p a_w e_gb a_bb)), (a_g, (oc6 6 5 a_gn e_g)), (a_gn, (arI G 30 f_g)), (a_b, (oc6 5 24 a_bn e_b)), (a_bn, (arI G 120 f_b)), (a_p, (oc6 8 5 a_pn e_p)), (a_pn, (arI G 40 f_p)), (a_w, (oc6 6 6 a_wn e_w)), (a_wn, (arI G 36 f_w)), (a_bb, (arJ G 24 f_bb)), (a_j, (oc2 a_as a_sk)), (a_as, (arI G 8 k_as)), (a_sk, (arJ G 50 k_sk)), (a_l, (arW G 6 f_l)), (a_pt, (arI G 200 k_pt)), (a_ha, (oc0 a_h a_k e_f1 e_f2 e_f3))] H ∧ va_D A [(a_k, (oc5 a_h a_j a_pt k_ln k_se k_lh k_br k_we k_me k_ce k_wy k_ho k_ov)), (a_h, (oc1 e_wa e_le e_st e_fo e_lc a_l a_g a_b a_s a_p a_w e_gb a_bb)), (a_g, (oc6 6 5 a_gn e_g)), (a_gn, (arI G 30 f_g)), (a_b, (oc6 5 24 a_bn e_b)), (a_bn, (arI G 120 f_b)), (a_p, (oc6 8 5 a_pn e_p)), (a_pn, (arI G 40 f_p)), (a_w, (oc6 6 6 a_wn e_w)), (a_wn, (arI G 36 f_w)), (a_bb, (arJ G 24 f_bb)), (a_j, (oc2 a_as a_sk)), (a_as, (arI G 8 k_as)), (a_sk, (arJ G 50 k_sk)), (a_l, (arW G 6 f_l)), (a_pt, (arI G 200 k_pt)), (a_ha, (oc0 a_h a_k e_f1 e_f2 e_f3))] ∧ va_S A s.heap H locs ∧ (0 ≤ k_i.toInt ∧ k_i.toInt ≤ 6) ∧ (0 ≤ k_ov.toInt ∧ k_ov.toInt ≤ 1) ∧ (k_i.toInt ≤ e_w.toInt)) (fun (q : (Int32) × (Int32) × (Int32) × (Int32) × (Int32) × (Int32) × (Int32) × (Int32) × (Int32) × (Int32) × (Int32) × (Nat → Int32) × (Nat → Int32) × (Nat → Int64) × (Int32)) => match q with | (k_i, k_b, k_se, k_lh, k_br, k_we, k_me, k_ce, k_wy, k_ho, k_ov, k_pt, k_as, k_sk, k_ln) => Int.toNat (6 - k_i.toInt)) (0, 0, e_se, e_lh, e_br, e_we, e_me, e_ce, e_wy, e_ho, e_ov, f_pt, f_as, f_sk, e_ln) ⟨lv_sub hl [2, 0, 1, 3, 4] rfl, hP, hD, hS, ⟨by decide, by decide⟩, h_e_ov, by have z0 : (0 : Int32).toInt = 0 := (by decide); omega⟩ ?_
  rintro ⟨k_i, k_b, k_se, k_lh, k_br, k_we, k_me, k_ce, k_wy, k_ho, k_ov, k_pt, k_as, k_sk, k_ln⟩ ls H locs ⟨hl, hP, hD, hS, i_1, i_2, i_3⟩ ih_13_4
  have hl : lv_has ls 6 [(2, .int k_b), (4, .int k_i), (3, .ref a_w), (0, .ref a_ha), (1, .int p_u)] := hl
  have i_1 : 0 ≤ k_i.toInt ∧ k_i.toInt ≤ 6 := i_1
  have i_2 : 0 ≤ k_ov.toInt ∧ k_ov.toInt ≤ 1 := i_2
  have i_3 : k_i.toInt ≤ e_w.toInt := i_3
  refine g5_rs [(a_k, (oc5 a_h a_j a_pt k_ln k_se k_lh k_br k_we k_me k_ce k_wy k_ho k_ov)), (a_h, (oc1 e_wa e_le e_st e_fo e_lc a_l a_g a_b a_s a_p a_w e_gb a_bb)), (a_g, (oc6 6 5 a_gn e_g)), (a_gn, (arI G 30 f_g)), (a_b, (oc6 5 24 a_bn e_b)), (a_bn, (arI G 120 f_b)), (a_p, (oc6 8 5 a_pn e_p)), (a_pn, (arI G 40 f_p)), (a_w, (oc6 6 6 a_wn e_w)), (a_wn, (arI G 36 f_w)), (a_bb, (arJ G 24 f_bb)), (a_j, (oc2 a_as a_sk)), (a_as, (arI G 8 k_as)), (a_sk, (arJ G 50 k_sk)), (a_l, (arW G 6 f_l)), (a_pt, (arI G 200 k_pt)), (a_ha, (oc0 a_h a_k e_f1 e_f2 e_f3))] hP hD (fun hP hD => ?_)
  refine lv_iload hx hb dX0_lacking_13 (lv_at hl 1 rfl) ?_
  refine lv_aload_n hx hb dX0_lacking_15 rfl (lv_at hl 2 rfl) ?_
  refine va_get (D := G.1) (ci := 6) (v := .int e_w) (C := RX6) (T := TX6) (N := 4) hx hb hts inG_X6 hown hK hP 8 rfl rfl 3 (by decide) (hts _ fl_X0_25) (fun _ h9 => h9) rfl dX0_lacking_16 ?_
  refine lv_icmp_ge (tgt := 112) hx hb dX0_lacking_19 (by decide) (fun c_5 => ?_) (fun c_5 => ?_)
  ·
    have i_5 : k_i.toInt ≥ e_w.toInt := by have z := g5_ge (a := k_i.toInt) (b := e_w.toInt) (by rfl) (by rfl) c_5; omega
    refine lv_iload_n hx hb dX0_lacking_112 rfl (lv_at hl 0 rfl) ?_
    exact W.iret (v := k_b) hx hb hr (fun t ht hW => ⟨⟨k_b, [(a_k, (oc5 a_h a_j a_pt k_ln k_se k_lh k_br k_we k_me k_ce k_wy k_ho k_ov)), (a_h, (oc1 e_wa e_le e_st e_fo e_lc a_l a_g a_b a_s a_p a_w e_gb a_bb)), (a_g, (oc6 6 5 a_gn e_g)), (a_gn, (arI G 30 f_g)), (a_b, (oc6 5 24 a_bn e_b)), (a_bn, (arI G 120 f_b)), (a_p, (oc6 8 5 a_pn e_p)), (a_pn, (arI G 40 f_p)), (a_w, (oc6 6 6 a_wn e_w)), (a_wn, (arI G 36 f_w)), (a_bb, (arJ G 24 f_bb)), (a_j, (oc2 a_as a_sk)), (a_as, (arI G 8 k_as)), (a_sk, (arJ G 50 k_sk)), (a_l, (arW G 6 f_l)), (a_pt, (arI G 200 k_pt)), (a_ha, (oc0 a_h a_k e_f1 e_f2 e_f3))], rfl, ⟨k_b, k_ln, k_se, k_lh, k_br, k_we, k_me, k_ce, k_wy, k_ho, k_ov, k_pt, k_as, k_sk, i_2, rfl, rfl⟩, by rw [ht]; exact hP.sub [0, 1, 2, 3, 4, 5, 6, 7, 8, 9, 10, 11, 12, 13, 14, 15, 16] rfl, hD.sub [0, 1, 2, 3, 4, 5, 6, 7, 8, 9, 10, 11, 12, 13, 14, 15, 16] (by decide) rfl⟩, hS.F ht⟩) hS.2.2 dX0_lacking_113
  ·
    have i_5 : k_i.toInt < e_w.toInt := by have z := g5_geN (a := k_i.toInt) (b := e_w.toInt) (by rfl) (by rfl) c_5; omega
    refine lv_aload_n hx hb dX0_lacking_22 rfl (lv_at hl 3 rfl) ?_
    refine va_get (D := G.1) (ci := 0) (v := .ref a_k) (C := RX0) (T := TX0) (N := 5) hx hb hts inG_X0 hown hK hP 16 rfl rfl 1 (by decide) (hts _ fl_X0_15) (fun _ h9 => h9) rfl dX0_lacking_23 ?_
    refine lv_aload_n hx hb dX0_lacking_26 rfl (lv_at hl 2 rfl) ?_
    refine lv_iload hx hb dX0_lacking_27 (lv_at hl 1 rfl) ?_
    refine lv_iconst (v := 0) hx hb dX0_lacking_29 (by decide) ?_
    obtain ⟨hPc, hDc, hFc⟩ := g5_sub3 (wc := [(a_w, (oc6 6 6 a_wn e_w)), (a_wn, (arI G 36 f_w))]) hP hD hS hA [8, 9] (by decide) rfl
    refine va_calli (va_runV (As := [.int k_i, .int 0]) (rest := [.ref a_k]) ⟨hx, hb, hml, hown, hts⟩ (t_get_W l G a_w a_wn H.size e_w k_i 0 f_w h_e_w) (cwV 2 hts gV_X0_31 rfl rfl rfl hv_X6_get ⟨Nat.le_of_ble_eq_true rfl, Nat.le_of_ble_eq_true rfl⟩) (g5_preV hPc hK hDc hN hT hS hFc (ci := 6) (q0 := 0) rfl rfl) rfl rfl hl.1 rfl (lv_room (Nat.le_of_ble_eq_true rfl)) dX0_lacking_30 ⟨Nat.le_of_ble_eq_true rfl, Nat.le_of_ble_eq_true rfl⟩) hS (fun q _ h => hFc q h) hFc (fun r u t H1 locs ht hvm hw hB hz1 hk1 hS => ?_)
    obtain ⟨hP1, hD1⟩ := hB
    rw [ht] at hP1
    obtain ⟨z7, i_6, y8, rfl⟩ := hw
    have i_6 : z7 = tget f_w e_w.toInt 6 k_i.toInt (0 : Int32).toInt := i_6
    obtain ⟨hP, hD⟩ := va_join (wr := [(a_k, (oc5 a_h a_j a_pt k_ln k_se k_lh k_br k_we k_me k_ce k_wy k_ho k_ov)), (a_h, (oc1 e_wa e_le e_st e_fo e_lc a_l a_g a_b a_s a_p a_w e_gb a_bb)), (a_g, (oc6 6 5 a_gn e_g)), (a_gn, (arI G 30 f_g)), (a_b, (oc6 5 24 a_bn e_b)), (a_bn, (arI G 120 f_b)), (a_p, (oc6 8 5 a_pn e_p)), (a_pn, (arI G 40 f_p)), (a_bb, (arJ G 24 f_bb)), (a_j, (oc2 a_as a_sk)), (a_as, (arI G 8 k_as)), (a_sk, (arJ G 50 k_sk)), (a_l, (arW G 6 f_l)), (a_pt, (arI G 200 k_pt)), (a_ha, (oc0 a_h a_k e_f1 e_f2 e_f3))]) hP hD [8, 9] [0, 1, 2, 3, 4, 5, 6, 7, 10, 11, 12, 13, 14, 15, 16] rfl rfl (by decide) (by decide) hk1 hFc hP1 hD1
    generalize H1 = H at hP hS ⊢
    refine g5_rs [(a_k, (oc5 a_h a_j a_pt k_ln k_se k_lh k_br k_we k_me k_ce k_wy k_ho k_ov)), (a_h, (oc1 e_wa e_le e_st e_fo e_lc a_l a_g a_b a_s a_p a_w e_gb a_bb)), (a_g, (oc6 6 5 a_gn e_g)), (a_gn, (arI G 30 f_g)), (a_b, (oc6 5 24 a_bn e_b)), (a_bn, (arI G 120 f_b)), (a_p, (oc6 8 5 a_pn e_p)), (a_pn, (arI G 40 f_p)), (a_bb, (arJ G 24 f_bb)), (a_j, (oc2 a_as a_sk)), (a_as, (arI G 8 k_as)), (a_sk, (arJ G 50 k_sk)), (a_l, (arW G 6 f_l)), (a_pt, (arI G 200 k_pt)), (a_ha, (oc0 a_h a_k e_f1 e_f2 e_f3)), (a_w, (oc6 6 6 a_wn e_w)), (a_wn, (arI G 36 f_w))] hP hD (fun hP hD => ?_)
    refine g5_ti (v := z7) y8 ?_
    refine lv_aload_n hx hb dX0_lacking_33 rfl (lv_at hl 2 rfl) ?_
    refine lv_iload hx hb dX0_lacking_34 (lv_at hl 1 rfl) ?_
    refine lv_iconst (v := 1) hx hb dX0_lacking_36 (by decide) ?_
    obtain ⟨hPc, hDc, hFc⟩ := g5_sub3 (wc := [(a_w, (oc6 6 6 a_wn e_w)), (a_wn, (arI G 36 f_w))]) hP hD hS hA [15, 16] (by decide) rfl
    refine va_calli (va_runV (As := [.int k_i, .int 1]) (rest := [.int z7, .ref a_k]) ⟨hx, hb, hml, hown, hts⟩ (t_get_W l G a_w a_wn H.size e_w k_i 1 f_w h_e_w) (cwV 2 hts gV_X0_31 rfl rfl rfl hv_X6_get ⟨Nat.le_of_ble_eq_true rfl, Nat.le_of_ble_eq_true rfl⟩) (g5_preV hPc hK hDc hN hT hS hFc (ci := 6) (q0 := 0) rfl rfl) rfl rfl hl.1 rfl (lv_room (Nat.le_of_ble_eq_true rfl)) dX0_lacking_37 ⟨Nat.le_of_ble_eq_true rfl, Nat.le_of_ble_eq_true rfl⟩) hS (fun q _ h => hFc q h) hFc (fun r u t H1 locs ht hvm hw hB hz1 hk1 hS => ?_)
    obtain ⟨hP1, hD1⟩ := hB
    rw [ht] at hP1
    obtain ⟨z10, i_9, y11, rfl⟩ := hw
    have i_9 : z10 = tget f_w e_w.toInt 6 k_i.toInt (1 : Int32).toInt := i_9
    obtain ⟨hP, hD⟩ := va_join (wr := [(a_k, (oc5 a_h a_j a_pt k_ln k_se k_lh k_br k_we k_me k_ce k_wy k_ho k_ov)), (a_h, (oc1 e_wa e_le e_st e_fo e_lc a_l a_g a_b a_s a_p a_w e_gb a_bb)), (a_g, (oc6 6 5 a_gn e_g)), (a_gn, (arI G 30 f_g)), (a_b, (oc6 5 24 a_bn e_b)), (a_bn, (arI G 120 f_b)), (a_p, (oc6 8 5 a_pn e_p)), (a_pn, (arI G 40 f_p)), (a_bb, (arJ G 24 f_bb)), (a_j, (oc2 a_as a_sk)), (a_as, (arI G 8 k_as)), (a_sk, (arJ G 50 k_sk)), (a_l, (arW G 6 f_l)), (a_pt, (arI G 200 k_pt)), (a_ha, (oc0 a_h a_k e_f1 e_f2 e_f3))]) hP hD [15, 16] [0, 1, 2, 3, 4, 5, 6, 7, 8, 9, 10, 11, 12, 13, 14] rfl rfl (by decide) (by decide) hk1 hFc hP1 hD1
    generalize H1 = H at hP hS ⊢
    refine g5_rs [(a_k, (oc5 a_h a_j a_pt k_ln k_se k_lh k_br k_we k_me k_ce k_wy k_ho k_ov)), (a_h, (oc1 e_wa e_le e_st e_fo e_lc a_l a_g a_b a_s a_p a_w e_gb a_bb)), (a_g, (oc6 6 5 a_gn e_g)), (a_gn, (arI G 30 f_g)), (a_b, (oc6 5 24 a_bn e_b)), (a_bn, (arI G 120 f_b)), (a_p, (oc6 8 5 a_pn e_p)), (a_pn, (arI G 40 f_p)), (a_bb, (arJ G 24 f_bb)), (a_j, (oc2 a_as a_sk)), (a_as, (arI G 8 k_as)), (a_sk, (arJ G 50 k_sk)), (a_l, (arW G 6 f_l)), (a_pt, (arI G 200 k_pt)), (a_ha, (oc0 a_h a_k e_f1 e_f2 e_f3)), (a_w, (oc6 6 6 a_wn e_w)), (a_wn, (arI G 36 f_w))] hP hD (fun hP hD => ?_)
    refine g5_ti (v := z10) y11 ?_
    refine lv_aload_n hx hb dX0_lacking_40 rfl (lv_at hl 2 rfl) ?_
    refine lv_iload hx hb dX0_lacking_41 (lv_at hl 1 rfl) ?_
    refine lv_iconst (v := 2) hx hb dX0_lacking_43 (by decide) ?_
    obtain ⟨hPc, hDc, hFc⟩ := g5_sub3 (wc := [(a_w, (oc6 6 6 a_wn e_w)), (a_wn, (arI G 36 f_w))]) hP hD hS hA [15, 16] (by decide) rfl
    refine va_calli (va_runV (As := [.int k_i, .int 2]) (rest := [.int z10, .int z7, .ref a_k]) ⟨hx, hb, hml, hown, hts⟩ (t_get_W l G a_w a_wn H.size e_w k_i 2 f_w h_e_w) (cwV 2 hts gV_X0_31 rfl rfl rfl hv_X6_get ⟨Nat.le_of_ble_eq_true rfl, Nat.le_of_ble_eq_true rfl⟩) (g5_preV hPc hK hDc hN hT hS hFc (ci := 6) (q0 := 0) rfl rfl) rfl rfl hl.1 rfl (lv_room (Nat.le_of_ble_eq_true rfl)) dX0_lacking_44 ⟨Nat.le_of_ble_eq_true rfl, Nat.le_of_ble_eq_true rfl⟩) hS (fun q _ h => hFc q h) hFc (fun r u t H1 locs ht hvm hw hB hz1 hk1 hS => ?_)
    obtain ⟨hP1, hD1⟩ := hB
    rw [ht] at hP1
    obtain ⟨z13, i_12, y14, rfl⟩ := hw
    have i_12 : z13 = tget f_w e_w.toInt 6 k_i.toInt (2 : Int32).toInt := i_12
    obtain ⟨hP, hD⟩ := va_join (wr := [(a_k, (oc5 a_h a_j a_pt k_ln k_se k_lh k_br k_we k_me k_ce k_wy k_ho k_ov)), (a_h, (oc1 e_wa e_le e_st e_fo e_lc a_l a_g a_b a_s a_p a_w e_gb a_bb)), (a_g, (oc6 6 5 a_gn e_g)), (a_gn, (arI G 30 f_g)), (a_b, (oc6 5 24 a_bn e_b)), (a_bn, (arI G 120 f_b)), (a_p, (oc6 8 5 a_pn e_p)), (a_pn, (arI G 40 f_p)), (a_bb, (arJ G 24 f_bb)), (a_j, (oc2 a_as a_sk)), (a_as, (arI G 8 k_as)), (a_sk, (arJ G 50 k_sk)), (a_l, (arW G 6 f_l)), (a_pt, (arI G 200 k_pt)), (a_ha, (oc0 a_h a_k e_f1 e_f2 e_f3))]) hP hD [15, 16] [0, 1, 2, 3, 4, 5, 6, 7, 8, 9, 10, 11, 12, 13, 14] rfl rfl (by decide) (by decide) hk1 hFc hP1 hD1
    generalize H1 = H at hP hS ⊢
    refine g5_rs [(a_k, (oc5 a_h a_j a_pt k_ln k_se k_lh k_br k_we k_me k_ce k_wy k_ho k_ov)), (a_h, (oc1 e_wa e_le e_st e_fo e_lc a_l a_g a_b a_s a_p a_w e_gb a_bb)), (a_g, (oc6 6 5 a_gn e_g)), (a_gn, (arI G 30 f_g)), (a_b, (oc6 5 24 a_bn e_b)), (a_bn, (arI G 120 f_b)), (a_p, (oc6 8 5 a_pn e_p)), (a_pn, (arI G 40 f_p)), (a_bb, (arJ G 24 f_bb)), (a_j, (oc2 a_as a_sk)), (a_as, (arI G 8 k_as)), (a_sk, (arJ G 50 k_sk)), (a_l, (arW G 6 f_l)), (a_pt, (arI G 200 k_pt)), (a_ha, (oc0 a_h a_k e_f1 e_f2 e_f3)), (a_w, (oc6 6 6 a_wn e_w)), (a_wn, (arI G 36 f_w))] hP hD (fun hP hD => ?_)
    refine g5_ti (v := z13) y14 ?_
    refine lv_iload_n hx hb dX0_lacking_47 rfl (lv_at hl 4 rfl) ?_
    obtain ⟨hPc, hDc, hFc⟩ := g5_sub3 (wc := [(a_k, (oc5 a_h a_j a_pt k_ln k_se k_lh k_br k_we k_me k_ce k_wy k_ho k_ov)), (a_h, (oc1 e_wa e_le e_st e_fo e_lc a_l a_g a_b a_s a_p a_w e_gb a_bb)), (a_g, (oc6 6 5 a_gn e_g)), (a_gn, (arI G 30 f_g)), (a_b, (oc6 5 24 a_bn e_b)), (a_bn, (arI G 120 f_b)), (a_p, (oc6 8 5 a_pn e_p)), (a_pn, (arI G 40 f_p)), (a_bb, (arJ G 24 f_bb)), (a_j, (oc2 a_as a_sk)), (a_as, (arI G 8 k_as)), (a_sk, (arJ G 50 k_sk)), (a_l, (arW G 6 f_l)), (a_pt, (arI G 200 k_pt))]) hP hD hS hA [0, 1, 2, 3, 4, 5, 6, 7, 8, 9, 10, 11, 12, 13] (by decide) rfl
    refine va_callv (va_runV (As := [.int z7, .int z10, .int z13, .int p_u]) (rest := []) ⟨hx, hb, hml, hown, hts⟩ (k_runN l G a_k a_h a_g a_gn a_b a_bn a_p a_pn a_bb a_j a_as a_sk a_l a_pt a_s a_w H.size e_le e_st e_fo e_lc e_g e_b e_p k_ln k_se k_lh k_br k_we k_me k_ce k_wy k_ho k_ov z7 z10 z13 p_u e_wa e_gb f_g f_b f_p f_bb k_as k_sk f_l k_pt h_e_g h_e_b h_e_p i_2 (e_gk) (e_pk) (e_gi) (e_f)) (cwV 4 hts gV_X0_35 rfl rfl rfl hv_X5_run ⟨Nat.le_of_ble_eq_true rfl, Nat.le_of_ble_eq_true rfl⟩) (g5_preV hPc hK hDc hN hT hS hFc (ci := 5) (q0 := 0) rfl rfl) rfl rfl hl.1 rfl (lv_room (Nat.le_of_ble_eq_true rfl)) dX0_lacking_48 ⟨Nat.le_of_ble_eq_true rfl, Nat.le_of_ble_eq_true rfl⟩) hS (fun q _ h => hFc q h) hFc (fun u t H1 locs ht hvm hw hB hz1 hk1 hS => ?_)
    obtain ⟨hP1, hD1⟩ := hB
    rw [ht] at hP1
    obtain ⟨z18, z19, z20, z21, z22, z23, z24, z25, z26, z27, z28, z29, z30, i_15, i_16, i_17, rfl⟩ := hw
    have i_15 : 0 ≤ z18.toInt ∧ z18.toInt ≤ 200 := i_15
    have i_16 : 0 ≤ z27.toInt ∧ z27.toInt ≤ 1 := i_16
    have i_17 : ∀ j : Nat, (j : Int) < z18.toInt → 0 ≤ (z28 j).toInt ∧ (z28 j).toInt ≤ 1535 := i_17
    obtain ⟨hP, hD⟩ := va_join (wr := [(a_ha, (oc0 a_h a_k e_f1 e_f2 e_f3)), (a_w, (oc6 6 6 a_wn e_w)), (a_wn, (arI G 36 f_w))]) hP hD [0, 1, 2, 3, 4, 5, 6, 7, 8, 9, 10, 11, 12, 13] [14, 15, 16] rfl rfl (by decide) (by decide) hk1 hFc hP1 hD1
    generalize H1 = H at hP hS ⊢
    refine g5_rs [(a_ha, (oc0 a_h a_k e_f1 e_f2 e_f3)), (a_w, (oc6 6 6 a_wn e_w)), (a_wn, (arI G 36 f_w)), (a_k, (oc5 a_h a_j a_pt z18 z19 z20 z21 z22 z23 z24 z25 z26 z27)), (a_h, (oc1 e_wa e_le e_st e_fo e_lc a_l a_g a_b a_s a_p a_w e_gb a_bb)), (a_g, (oc6 6 5 a_gn e_g)), (a_gn, (arI G 30 f_g)), (a_b, (oc6 5 24 a_bn e_b)), (a_bn, (arI G 120 f_b)), (a_p, (oc6 8 5 a_pn e_p)), (a_pn, (arI G 40 f_p)), (a_bb, (arJ G 24 f_bb)), (a_j, (oc2 a_as a_sk)), (a_as, (arI G 8 z29)), (a_sk, (arJ G 50 z30)), (a_l, (arW G 6 f_l)), (a_pt, (arI G 200 z28))] hP hD (fun hP hD => ?_)
    refine lv_aload_n hx hb dX0_lacking_51 rfl (lv_at hl 3 rfl) ?_
    refine va_get (D := G.1) (ci := 0) (v := .ref a_k) (C := RX0) (T := TX0) (N := 5) hx hb hts inG_X0 hown hK hP 0 rfl rfl 1 (by decide) (hts _ fl_X0_15) (fun _ h9 => h9) rfl dX0_lacking_52 ?_
    refine lv_aload_n hx hb dX0_lacking_55 rfl (lv_at hl 2 rfl) ?_
    refine lv_iload hx hb dX0_lacking_56 (lv_at hl 1 rfl) ?_
    refine lv_iconst (v := 4) hx hb dX0_lacking_58 (by decide) ?_
    obtain ⟨hPc, hDc, hFc⟩ := g5_sub3 (wc := [(a_w, (oc6 6 6 a_wn e_w)), (a_wn, (arI G 36 f_w))]) hP hD hS hA [1, 2] (by decide) rfl
    refine va_calli (va_runV (As := [.int k_i, .int 4]) (rest := [.ref a_k]) ⟨hx, hb, hml, hown, hts⟩ (t_get_W l G a_w a_wn H.size e_w k_i 4 f_w h_e_w) (cwV 2 hts gV_X0_31 rfl rfl rfl hv_X6_get ⟨Nat.le_of_ble_eq_true rfl, Nat.le_of_ble_eq_true rfl⟩) (g5_preV hPc hK hDc hN hT hS hFc (ci := 6) (q0 := 0) rfl rfl) rfl rfl hl.1 rfl (lv_room (Nat.le_of_ble_eq_true rfl)) dX0_lacking_59 ⟨Nat.le_of_ble_eq_true rfl, Nat.le_of_ble_eq_true rfl⟩) hS (fun q _ h => hFc q h) hFc (fun r u t H1 locs ht hvm hw hB hz1 hk1 hS => ?_)
    obtain ⟨hP1, hD1⟩ := hB
    rw [ht] at hP1
    obtain ⟨z32, i_31, y33, rfl⟩ := hw
    have i_31 : z32 = tget f_w e_w.toInt 6 k_i.toInt (4 : Int32).toInt := i_31
    obtain ⟨hP, hD⟩ := va_join (wr := [(a_ha, (oc0 a_h a_k e_f1 e_f2 e_f3)), (a_k, (oc5 a_h a_j a_pt z18 z19 z20 z21 z22 z23 z24 z25 z26 z27)), (a_h, (oc1 e_wa e_le e_st e_fo e_lc a_l a_g a_b a_s a_p a_w e_gb a_bb)), (a_g, (oc6 6 5 a_gn e_g)), (a_gn, (arI G 30 f_g)), (a_b, (oc6 5 24 a_bn e_b)), (a_bn, (arI G 120 f_b)), (a_p, (oc6 8 5 a_pn e_p)), (a_pn, (arI G 40 f_p)), (a_bb, (arJ G 24 f_bb)), (a_j, (oc2 a_as a_sk)), (a_as, (arI G 8 z29)), (a_sk, (arJ G 50 z30)), (a_l, (arW G 6 f_l)), (a_pt, (arI G 200 z28))]) hP hD [1, 2] [0, 3, 4, 5, 6, 7, 8, 9, 10, 11, 12, 13, 14, 15, 16] rfl rfl (by decide) (by decide) hk1 hFc hP1 hD1
    generalize H1 = H at hP hS ⊢
    refine g5_rs [(a_ha, (oc0 a_h a_k e_f1 e_f2 e_f3)), (a_k, (oc5 a_h a_j a_pt z18 z19 z20 z21 z22 z23 z24 z25 z26 z27)), (a_h, (oc1 e_wa e_le e_st e_fo e_lc a_l a_g a_b a_s a_p a_w e_gb a_bb)), (a_g, (oc6 6 5 a_gn e_g)), (a_gn, (arI G 30 f_g)), (a_b, (oc6 5 24 a_bn e_b)), (a_bn, (arI G 120 f_b)), (a_p, (oc6 8 5 a_pn e_p)), (a_pn, (arI G 40 f_p)), (a_bb, (arJ G 24 f_bb)), (a_j, (oc2 a_as a_sk)), (a_as, (arI G 8 z29)), (a_sk, (arJ G 50 z30)), (a_l, (arW G 6 f_l)), (a_pt, (arI G 200 z28)), (a_w, (oc6 6 6 a_wn e_w)), (a_wn, (arI G 36 f_w))] hP hD (fun hP hD => ?_)
    refine g5_ti (v := z32) y33 ?_
    refine lv_bipush (v := 64) hx hb dX0_lacking_62 (by decide) ?_
    refine lv_imul hx hb dX0_lacking_64 ?_
    refine lv_aload_n hx hb dX0_lacking_65 rfl (lv_at hl 2 rfl) ?_
    refine lv_iload hx hb dX0_lacking_66 (lv_at hl 1 rfl) ?_
    refine lv_iconst (v := 3) hx hb dX0_lacking_68 (by decide) ?_
    obtain ⟨hPc, hDc, hFc⟩ := g5_sub3 (wc := [(a_w, (oc6 6 6 a_wn e_w)), (a_wn, (arI G 36 f_w))]) hP hD hS hA [15, 16] (by decide) rfl
    refine va_calli (va_runV (As := [.int k_i, .int 3]) (rest := [.int (z32 * 64), .ref a_k]) ⟨hx, hb, hml, hown, hts⟩ (t_get_W l G a_w a_wn H.size e_w k_i 3 f_w h_e_w) (cwV 2 hts gV_X0_31 rfl rfl rfl hv_X6_get ⟨Nat.le_of_ble_eq_true rfl, Nat.le_of_ble_eq_true rfl⟩) (g5_preV hPc hK hDc hN hT hS hFc (ci := 6) (q0 := 0) rfl rfl) rfl rfl hl.1 rfl (lv_room (Nat.le_of_ble_eq_true rfl)) dX0_lacking_69 ⟨Nat.le_of_ble_eq_true rfl, Nat.le_of_ble_eq_true rfl⟩) hS (fun q _ h => hFc q h) hFc (fun r u t H1 locs ht hvm hw hB hz1 hk1 hS => ?_)
    obtain ⟨hP1, hD1⟩ := hB
    rw [ht] at hP1
    obtain ⟨z35, i_34, y36, rfl⟩ := hw
    have i_34 : z35 = tget f_w e_w.toInt 6 k_i.toInt (3 : Int32).toInt := i_34
    obtain ⟨hP, hD⟩ := va_join (wr := [(a_ha, (oc0 a_h a_k e_f1 e_f2 e_f3)), (a_k, (oc5 a_h a_j a_pt z18 z19 z20 z21 z22 z23 z24 z25 z26 z27)), (a_h, (oc1 e_wa e_le e_st e_fo e_lc a_l a_g a_b a_s a_p a_w e_gb a_bb)), (a_g, (oc6 6 5 a_gn e_g)), (a_gn, (arI G 30 f_g)), (a_b, (oc6 5 24 a_bn e_b)), (a_bn, (arI G 120 f_b)), (a_p, (oc6 8 5 a_pn e_p)), (a_pn, (arI G 40 f_p)), (a_bb, (arJ G 24 f_bb)), (a_j, (oc2 a_as a_sk)), (a_as, (arI G 8 z29)), (a_sk, (arJ G 50 z30)), (a_l, (arW G 6 f_l)), (a_pt, (arI G 200 z28))]) hP hD [15, 16] [0, 1, 2, 3, 4, 5, 6, 7, 8, 9, 10, 11, 12, 13, 14] rfl rfl (by decide) (by decide) hk1 hFc hP1 hD1
    generalize H1 = H at hP hS ⊢
    refine g5_rs [(a_ha, (oc0 a_h a_k e_f1 e_f2 e_f3)), (a_k, (oc5 a_h a_j a_pt z18 z19 z20 z21 z22 z23 z24 z25 z26 z27)), (a_h, (oc1 e_wa e_le e_st e_fo e_lc a_l a_g a_b a_s a_p a_w e_gb a_bb)), (a_g, (oc6 6 5 a_gn e_g)), (a_gn, (arI G 30 f_g)), (a_b, (oc6 5 24 a_bn e_b)), (a_bn, (arI G 120 f_b)), (a_p, (oc6 8 5 a_pn e_p)), (a_pn, (arI G 40 f_p)), (a_bb, (arJ G 24 f_bb)), (a_j, (oc2 a_as a_sk)), (a_as, (arI G 8 z29)), (a_sk, (arJ G 50 z30)), (a_l, (arW G 6 f_l)), (a_pt, (arI G 200 z28)), (a_w, (oc6 6 6 a_wn e_w)), (a_wn, (arI G 36 f_w))] hP hD (fun hP hD => ?_)
    refine g5_ti (v := z35) y36 ?_
    refine lv_iadd hx hb dX0_lacking_72 ?_
    obtain ⟨hPc, hDc, hFc⟩ := g5_sub3 (wc := [(a_k, (oc5 a_h a_j a_pt z18 z19 z20 z21 z22 z23 z24 z25 z26 z27)), (a_pt, (arI G 200 z28))]) hP hD hS hA [1, 14] (by decide) rfl
    refine va_calli (va_runV (As := [.int ((z32 * 64) + z35)]) (rest := []) ⟨hx, hb, hml, hown, hts⟩ (s_hasPoint l G a_k a_pt a_h a_j H.size z18 z19 z20 z21 z22 z23 z24 z25 z26 z27 ((z32 * 64) + z35) z28 i_15 i_16) (cwV 1 hts gV_X0_41 rfl rfl rfl hv_X5_hasPoint ⟨Nat.le_of_ble_eq_true rfl, Nat.le_of_ble_eq_true rfl⟩) (g5_preV hPc hK hDc hN hT hS hFc (ci := 5) (q0 := 0) rfl rfl) rfl rfl hl.1 rfl (lv_room (Nat.le_of_ble_eq_true rfl)) dX0_lacking_73 ⟨Nat.le_of_ble_eq_true rfl, Nat.le_of_ble_eq_true rfl⟩) hS (fun q _ h => hFc q h) hFc (fun r u t H1 locs ht hvm hw hB hz1 hk1 hS => ?_)
    obtain ⟨hP1, hD1⟩ := hB
    rw [ht] at hP1
    obtain ⟨z38, i_37, y39, rfl⟩ := hw
    have i_37 : 0 ≤ z38.toInt ∧ z38.toInt ≤ 1 := i_37
    obtain ⟨hP, hD⟩ := va_join (wr := [(a_ha, (oc0 a_h a_k e_f1 e_f2 e_f3)), (a_h, (oc1 e_wa e_le e_st e_fo e_lc a_l a_g a_b a_s a_p a_w e_gb a_bb)), (a_g, (oc6 6 5 a_gn e_g)), (a_gn, (arI G 30 f_g)), (a_b, (oc6 5 24 a_bn e_b)), (a_bn, (arI G 120 f_b)), (a_p, (oc6 8 5 a_pn e_p)), (a_pn, (arI G 40 f_p)), (a_bb, (arJ G 24 f_bb)), (a_j, (oc2 a_as a_sk)), (a_as, (arI G 8 z29)), (a_sk, (arJ G 50 z30)), (a_l, (arW G 6 f_l)), (a_w, (oc6 6 6 a_wn e_w)), (a_wn, (arI G 36 f_w))]) hP hD [1, 14] [0, 2, 3, 4, 5, 6, 7, 8, 9, 10, 11, 12, 13, 15, 16] rfl rfl (by decide) (by decide) hk1 hFc hP1 hD1
    generalize H1 = H at hP hS ⊢
    refine g5_rs [(a_ha, (oc0 a_h a_k e_f1 e_f2 e_f3)), (a_h, (oc1 e_wa e_le e_st e_fo e_lc a_l a_g a_b a_s a_p a_w e_gb a_bb)), (a_g, (oc6 6 5 a_gn e_g)), (a_gn, (arI G 30 f_g)), (a_b, (oc6 5 24 a_bn e_b)), (a_bn, (arI G 120 f_b)), (a_p, (oc6 8 5 a_pn e_p)), (a_pn, (arI G 40 f_p)), (a_bb, (arJ G 24 f_bb)), (a_j, (oc2 a_as a_sk)), (a_as, (arI G 8 z29)), (a_sk, (arJ G 50 z30)), (a_l, (arW G 6 f_l)), (a_w, (oc6 6 6 a_wn e_w)), (a_wn, (arI G 36 f_w)), (a_k, (oc5 a_h a_j a_pt z18 z19 z20 z21 z22 z23 z24 z25 z26 z27)), (a_pt, (arI G 200 z28))] hP hD (fun hP hD => ?_)
    refine g5_ti (v := z38) y39 ?_
    refine lv_istore (lv' := [(5, .int z38), (2, .int k_b), (4, .int k_i), (3, .ref a_w), (0, .ref a_ha), (1, .int p_u)]) hx hb dX0_lacking_76 hl (by decide) rfl (fun ls hl => ?_)
    refine lv_iload hx hb dX0_lacking_78 (lv_at hl 0 rfl) ?_
    refine lv_aload_n hx hb dX0_lacking_80 rfl (lv_at hl 3 rfl) ?_
    refine lv_iload hx hb dX0_lacking_81 (lv_at hl 2 rfl) ?_
    refine lv_iconst (v := 5) hx hb dX0_lacking_83 (by decide) ?_
    obtain ⟨hPc, hDc, hFc⟩ := g5_sub3 (wc := [(a_w, (oc6 6 6 a_wn e_w)), (a_wn, (arI G 36 f_w))]) hP hD hS hA [13, 14] (by decide) rfl
    refine va_calli (va_runV (As := [.int k_i, .int 5]) (rest := [.int z38]) ⟨hx, hb, hml, hown, hts⟩ (t_get_W l G a_w a_wn H.size e_w k_i 5 f_w h_e_w) (cwV 2 hts gV_X0_31 rfl rfl rfl hv_X6_get ⟨Nat.le_of_ble_eq_true rfl, Nat.le_of_ble_eq_true rfl⟩) (g5_preV hPc hK hDc hN hT hS hFc (ci := 6) (q0 := 0) rfl rfl) rfl rfl hl.1 rfl (lv_room (Nat.le_of_ble_eq_true rfl)) dX0_lacking_84 ⟨Nat.le_of_ble_eq_true rfl, Nat.le_of_ble_eq_true rfl⟩) hS (fun q _ h => hFc q h) hFc (fun r u t H1 locs ht hvm hw hB hz1 hk1 hS => ?_)
    obtain ⟨hP1, hD1⟩ := hB
    rw [ht] at hP1
    obtain ⟨z41, i_40, y42, rfl⟩ := hw
    have i_40 : z41 = tget f_w e_w.toInt 6 k_i.toInt (5 : Int32).toInt := i_40
    obtain ⟨hP, hD⟩ := va_join (wr := [(a_ha, (oc0 a_h a_k e_f1 e_f2 e_f3)), (a_h, (oc1 e_wa e_le e_st e_fo e_lc a_l a_g a_b a_s a_p a_w e_gb a_bb)), (a_g, (oc6 6 5 a_gn e_g)), (a_gn, (arI G 30 f_g)), (a_b, (oc6 5 24 a_bn e_b)), (a_bn, (arI G 120 f_b)), (a_p, (oc6 8 5 a_pn e_p)), (a_pn, (arI G 40 f_p)), (a_bb, (arJ G 24 f_bb)), (a_j, (oc2 a_as a_sk)), (a_as, (arI G 8 z29)), (a_sk, (arJ G 50 z30)), (a_l, (arW G 6 f_l)), (a_k, (oc5 a_h a_j a_pt z18 z19 z20 z21 z22 z23 z24 z25 z26 z27)), (a_pt, (arI G 200 z28))]) hP hD [13, 14] [0, 1, 2, 3, 4, 5, 6, 7, 8, 9, 10, 11, 12, 15, 16] rfl rfl (by decide) (by decide) hk1 hFc hP1 hD1
    generalize H1 = H at hP hS ⊢
    refine g5_rs [(a_ha, (oc0 a_h a_k e_f1 e_f2 e_f3)), (a_h, (oc1 e_wa e_le e_st e_fo e_lc a_l a_g a_b a_s a_p a_w e_gb a_bb)), (a_g, (oc6 6 5 a_gn e_g)), (a_gn, (arI G 30 f_g)), (a_b, (oc6 5 24 a_bn e_b)), (a_bn, (arI G 120 f_b)), (a_p, (oc6 8 5 a_pn e_p)), (a_pn, (arI G 40 f_p)), (a_bb, (arJ G 24 f_bb)), (a_j, (oc2 a_as a_sk)), (a_as, (arI G 8 z29)), (a_sk, (arJ G 50 z30)), (a_l, (arW G 6 f_l)), (a_k, (oc5 a_h a_j a_pt z18 z19 z20 z21 z22 z23 z24 z25 z26 z27)), (a_pt, (arI G 200 z28)), (a_w, (oc6 6 6 a_wn e_w)), (a_wn, (arI G 36 f_w))] hP hD (fun hP hD => ?_)
    refine g5_ti (v := z41) y42 ?_
    refine lv_iconst (v := 1) hx hb dX0_lacking_87 (by decide) ?_
    refine lv_icmp_ne (tgt := 95) hx hb dX0_lacking_88 (by decide) (fun c_43 => ?_) (fun c_43 => ?_)
    ·
      have n_43 : gNe (z41.toInt) (1) := by have z := g5_ne (a := z41.toInt) (b := 1) (by rfl) (by decide) c_43; unfold gNe; omega
      refine lv_iconst (v := 0) hx hb dX0_lacking_95 (by decide) ?_
      refine lv_icmp_eq (tgt := 106) hx hb dX0_lacking_96 (by decide) (fun c_44 => ?_) (fun c_44 => ?_)
      ·
        have i_44 : z38.toInt = 0 := by have z := g5_eq (a := z38.toInt) (b := 0) (by rfl) (by decide) c_44; omega
        refine lv_iinc (v := (k_i + 1)) (lv' := [(4, .int (k_i + 1)), (5, .int z38), (2, .int k_b), (3, .ref a_w), (0, .ref a_ha), (1, .int p_u)]) hx hb dX0_lacking_106 hl (k := 2) rfl rfl (by decide) rfl (fun ls hl => ?_)
        have t_45 : (k_i + 1).toInt = k_i.toInt + 1 := g5_iadd (a := k_i.toInt) (b := 1) rfl (by decide) (by omega) (by omega)
        refine lv_goto (tgt := 13) hx hb dX0_lacking_109 (by decide) ?_
        exact ih_13_4 ((k_i + 1), k_b, z19, z20, z21, z22, z23, z24, z25, z26, z27, z28, z29, z30, z18) ls H locs (show Int.toNat (6 - (k_i + 1).toInt) < Int.toNat (6 - k_i.toInt) from g_up (show k_i.toInt < (k_i + 1).toInt by omega) (show k_i.toInt < 6 by omega)) ⟨lv_sub hl [2, 0, 3, 4, 5] rfl, hP.sub [13, 1, 2, 3, 4, 5, 6, 7, 15, 16, 8, 9, 10, 11, 12, 14, 0] rfl, hD.sub [13, 1, 2, 3, 4, 5, 6, 7, 15, 16, 8, 9, 10, 11, 12, 14, 0] (by decide) rfl, hS, ⟨by omega, by omega⟩, i_16, by omega⟩
      ·
        have n_44 : gNe (z38.toInt) (0) := by have z := g5_eqN (a := z38.toInt) (b := 0) (by rfl) (by decide) c_44; unfold gNe; omega
        have i_44 : z38.toInt ≥ 1 := by have z := g5_eqN (a := z38.toInt) (b := 0) (by rfl) (by decide) c_44; omega
        refine lv_iload_n hx hb dX0_lacking_99 rfl (lv_at hl 1 rfl) ?_
        refine lv_iconst (v := 1) hx hb dX0_lacking_100 (by decide) ?_
        refine lv_iload hx hb dX0_lacking_101 (lv_at hl 2 rfl) ?_
        refine lv_ishl hx hb dX0_lacking_103 ?_
        refine lv_ior hx hb dX0_lacking_104 ?_
        refine lv_istore_n (lv' := [(2, .int (k_b ||| (1 <<< (k_i &&& 31)))), (5, .int z38), (4, .int k_i), (3, .ref a_w), (0, .ref a_ha), (1, .int p_u)]) hx hb dX0_lacking_105 rfl hl (by decide) rfl (fun ls hl => ?_)
        refine lv_iinc (v := (k_i + 1)) (lv' := [(4, .int (k_i + 1)), (2, .int (k_b ||| (1 <<< (k_i &&& 31)))), (5, .int z38), (3, .ref a_w), (0, .ref a_ha), (1, .int p_u)]) hx hb dX0_lacking_106 hl (k := 2) rfl rfl (by decide) rfl (fun ls hl => ?_)
        have t_46 : (k_i + 1).toInt = k_i.toInt + 1 := g5_iadd (a := k_i.toInt) (b := 1) rfl (by decide) (by omega) (by omega)
        refine lv_goto (tgt := 13) hx hb dX0_lacking_109 (by decide) ?_
        exact ih_13_4 ((k_i + 1), (k_b ||| (1 <<< (k_i &&& 31))), z19, z20, z21, z22, z23, z24, z25, z26, z27, z28, z29, z30, z18) ls H locs (show Int.toNat (6 - (k_i + 1).toInt) < Int.toNat (6 - k_i.toInt) from g_up (show k_i.toInt < (k_i + 1).toInt by omega) (show k_i.toInt < 6 by omega)) ⟨lv_sub hl [1, 0, 3, 4, 5] rfl, hP.sub [13, 1, 2, 3, 4, 5, 6, 7, 15, 16, 8, 9, 10, 11, 12, 14, 0] rfl, hD.sub [13, 1, 2, 3, 4, 5, 6, 7, 15, 16, 8, 9, 10, 11, 12, 14, 0] (by decide) rfl, hS, ⟨by omega, by omega⟩, i_16, by omega⟩
    ·
      have i_43 : z41.toInt = 1 := by have z := g5_neN (a := z41.toInt) (b := 1) (by rfl) (by decide) c_43; omega
      refine lv_iconst (v := 1) hx hb dX0_lacking_91 (by decide) ?_
      refine lv_goto (tgt := 96) hx hb dX0_lacking_92 (by decide) ?_
      refine lv_icmp_eq (tgt := 106) hx hb dX0_lacking_96 (by decide) (fun c_47 => ?_) (fun c_47 => ?_)
      ·
        have i_47 : z38.toInt = 1 := by have z := g5_eq (a := z38.toInt) (b := 1) (by rfl) (by decide) c_47; omega
        refine lv_iinc (v := (k_i + 1)) (lv' := [(4, .int (k_i + 1)), (5, .int z38), (2, .int k_b), (3, .ref a_w), (0, .ref a_ha), (1, .int p_u)]) hx hb dX0_lacking_106 hl (k := 2) rfl rfl (by decide) rfl (fun ls hl => ?_)
        have t_48 : (k_i + 1).toInt = k_i.toInt + 1 := g5_iadd (a := k_i.toInt) (b := 1) rfl (by decide) (by omega) (by omega)
        refine lv_goto (tgt := 13) hx hb dX0_lacking_109 (by decide) ?_
        exact ih_13_4 ((k_i + 1), k_b, z19, z20, z21, z22, z23, z24, z25, z26, z27, z28, z29, z30, z18) ls H locs (show Int.toNat (6 - (k_i + 1).toInt) < Int.toNat (6 - k_i.toInt) from g_up (show k_i.toInt < (k_i + 1).toInt by omega) (show k_i.toInt < 6 by omega)) ⟨lv_sub hl [2, 0, 3, 4, 5] rfl, hP.sub [13, 1, 2, 3, 4, 5, 6, 7, 15, 16, 8, 9, 10, 11, 12, 14, 0] rfl, hD.sub [13, 1, 2, 3, 4, 5, 6, 7, 15, 16, 8, 9, 10, 11, 12, 14, 0] (by decide) rfl, hS, ⟨by omega, by omega⟩, i_16, by omega⟩
      ·
        have n_47 : gNe (z38.toInt) (1) := by have z := g5_eqN (a := z38.toInt) (b := 1) (by rfl) (by decide) c_47; unfold gNe; omega
        have i_47 : z38.toInt ≤ 0 := by have z := g5_eqN (a := z38.toInt) (b := 1) (by rfl) (by decide) c_47; omega
        refine lv_iload_n hx hb dX0_lacking_99 rfl (lv_at hl 1 rfl) ?_
        refine lv_iconst (v := 1) hx hb dX0_lacking_100 (by decide) ?_
        refine lv_iload hx hb dX0_lacking_101 (lv_at hl 2 rfl) ?_
        refine lv_ishl hx hb dX0_lacking_103 ?_
        refine lv_ior hx hb dX0_lacking_104 ?_
        refine lv_istore_n (lv' := [(2, .int (k_b ||| (1 <<< (k_i &&& 31)))), (5, .int z38), (4, .int k_i), (3, .ref a_w), (0, .ref a_ha), (1, .int p_u)]) hx hb dX0_lacking_105 rfl hl (by decide) rfl (fun ls hl => ?_)
        refine lv_iinc (v := (k_i + 1)) (lv' := [(4, .int (k_i + 1)), (2, .int (k_b ||| (1 <<< (k_i &&& 31)))), (5, .int z38), (3, .ref a_w), (0, .ref a_ha), (1, .int p_u)]) hx hb dX0_lacking_106 hl (k := 2) rfl rfl (by decide) rfl (fun ls hl => ?_)
        have t_49 : (k_i + 1).toInt = k_i.toInt + 1 := g5_iadd (a := k_i.toInt) (b := 1) rfl (by decide) (by omega) (by omega)
        refine lv_goto (tgt := 13) hx hb dX0_lacking_109 (by decide) ?_
        exact ih_13_4 ((k_i + 1), (k_b ||| (1 <<< (k_i &&& 31))), z19, z20, z21, z22, z23, z24, z25, z26, z27, z28, z29, z30, z18) ls H locs (show Int.toNat (6 - (k_i + 1).toInt) < Int.toNat (6 - k_i.toInt) from g_up (show k_i.toInt < (k_i + 1).toInt by omega) (show k_i.toInt < 6 by omega)) ⟨lv_sub hl [1, 0, 3, 4, 5] rfl, hP.sub [13, 1, 2, 3, 4, 5, 6, 7, 15, 16, 8, 9, 10, 11, 12, 14, 0] rfl, hD.sub [13, 1, 2, 3, 4, 5, 6, 7, 15, 16, 8, 9, 10, 11, 12, 14, 0] (by decide) rfl, hS, ⟨by omega, by omega⟩, i_16, by omega⟩
set_option maxHeartbeats 4000000 in
set_option maxRecDepth 100000 in
theorem g_lackingL (l : Launch) (G : g5_G) (a_k a_h a_g a_gn a_b a_bn a_p a_pn a_w a_wn a_bb a_j a_as a_sk a_l a_lo a_sr a_cd a_hd a_pt a_ha a_s : Nat) (sz : Nat) (e_le : Int32) (e_st : Int32) (e_fo : Int32) (e_lc : Int32) (e_g : Int32) (e_b : Int32) (e_p : Int32) (e_w : Int32) (e_cl : Int32) (e_ln : Int32) (e_se : Int32) (e_lh : Int32) (e_br : Int32) (e_we : Int32) (e_me : Int32) (e_ce : Int32) (e_wy : Int32) (e_ho : Int32) (e_ov : Int32) (e_f1 : Int32) (e_f2 : Int32) (e_f3 : Int32) (p_u : Int32) (e_wa : Int64) (e_gb : Int64) (f_g : Nat → Int32) (f_b : Nat → Int32) (f_p : Nat → Int32) (f_w : Nat → Int32) (f_bb : Nat → Int64) (f_as : Nat → Int32) (f_sk : Nat → Int64) (f_l : Nat → Option Nat) (f_sr : Nat → Int32) (f_cd : Nat → Int32) (f_hd : Nat → Int32) (f_pt : Nat → Int32) (n_sr : Nat) (n_cd : Nat) (n_hd : Nat) (h_e_g : 0 ≤ e_g.toInt ∧ e_g.toInt ≤ 6) (h_e_b : 0 ≤ e_b.toInt ∧ e_b.toInt ≤ 5) (h_e_p : 0 ≤ e_p.toInt ∧ e_p.toInt ≤ 8) (h_e_w : 0 ≤ e_w.toInt ∧ e_w.toInt ≤ 6) (h_e_cl : 0 ≤ e_cl.toInt ∧ e_cl.toInt ≤ 12) (h_e_ov : 0 ≤ e_ov.toInt ∧ e_ov.toInt ≤ 1) (e_gk : gOK f_g e_g.toInt) (e_pk : gOK f_p e_p.toInt) (e_gi : inT e_gb f_g e_g.toInt) (e_f : 0 ≤ e_fo.toInt ∧ e_fo.toInt < e_lc.toInt ∧ e_lc.toInt ≤ 6) (e_a : f_l e_fo.toNatClampNeg = some a_lo) (e_hn : n_cd ≤ 400) (e_hs : ∀ j : Nat, j < n_sr → 0 ≤ (f_sr j).toInt ∧ (f_sr j).toInt ≤ (n_cd : Int)) (e_hk : ∀ j : Nat, j < n_cd → (f_cd j >>> (12 &&& 31)).toInt = 1 → (f_cd j &&& 4095).toInt < 8) (e_c : (e_cl.toInt : Int) ≤ (n_hd : Int) ∧ (e_cl.toInt + 1 : Int) ≤ (n_sr : Int)) : Met l yX0_lacking (wsG yX0_lacking cX0_lacking 6 (some .int)) ({ frames := 14, cells := 0, slots := 0, locals := 556 }) (va_Pc [.ref a_ha, .int p_u] (g5_P G [(a_k, (oc5 a_h a_j a_pt e_ln e_se e_lh e_br e_we e_me e_ce e_wy e_ho e_ov)), (a_h, (oc1 e_wa e_le e_st e_fo e_lc a_l a_g a_b a_s a_p a_w e_gb a_bb)), (a_g, (oc6 6 5 a_gn e_g)), (a_gn, (arI G 30 f_g)), (a_b, (oc6 5 24 a_bn e_b)), (a_bn, (arI G 120 f_b)), (a_p, (oc6 8 5 a_pn e_p)), (a_pn, (arI G 40 f_p)), (a_w, (oc6 6 6 a_wn e_w)), (a_wn, (arI G 36 f_w)), (a_bb, (arJ G 24 f_bb)), (a_j, (oc2 a_as a_sk)), (a_as, (arI G 8 f_as)), (a_sk, (arJ G 50 f_sk)), (a_l, (arW G 6 f_l)), (a_lo, (oc3 e_cl a_hd a_sr a_cd)), (a_sr, (arI G n_sr f_sr)), (a_cd, (arI G n_cd f_cd)), (a_hd, (arI G n_hd f_hd)), (a_pt, (arI G 200 f_pt)), (a_ha, (oc0 a_h a_k e_f1 e_f2 e_f3))] sz)) (va_Qi (fun (r : Int32) (u : va_W) => (∃ (o_r : Int32) (o_ln : Int32) (o_se : Int32) (o_lh : Int32) (o_br : Int32) (o_we : Int32) (o_me : Int32) (o_ce : Int32) (o_wy : Int32) (o_ho : Int32) (o_ov : Int32) (o_pt : Nat → Int32) (o_as : Nat → Int32) (o_sk : Nat → Int64), (0 ≤ o_ov.toInt ∧ o_ov.toInt ≤ 1) ∧ (r = o_r) ∧ (u = [(a_k, (oc5 a_h a_j a_pt o_ln o_se o_lh o_br o_we o_me o_ce o_wy o_ho o_ov)), (a_h, (oc1 e_wa e_le e_st e_fo e_lc a_l a_g a_b a_s a_p a_w e_gb a_bb)), (a_g, (oc6 6 5 a_gn e_g)), (a_gn, (arI G 30 f_g)), (a_b, (oc6 5 24 a_bn e_b)), (a_bn, (arI G 120 f_b)), (a_p, (oc6 8 5 a_pn e_p)), (a_pn, (arI G 40 f_p)), (a_w, (oc6 6 6 a_wn e_w)), (a_wn, (arI G 36 f_w)), (a_bb, (arJ G 24 f_bb)), (a_j, (oc2 a_as a_sk)), (a_as, (arI G 8 o_as)), (a_sk, (arJ G 50 o_sk)), (a_l, (arW G 6 f_l)), (a_lo, (oc3 e_cl a_hd a_sr a_cd)), (a_sr, (arI G n_sr f_sr)), (a_cd, (arI G n_cd f_cd)), (a_hd, (arI G n_hd f_hd)), (a_pt, (arI G 200 o_pt)), (a_ha, (oc0 a_h a_k e_f1 e_f2 e_f3))]))) (g5_B G (va_A [(a_k, (oc5 a_h a_j a_pt e_ln e_se e_lh e_br e_we e_me e_ce e_wy e_ho e_ov)), (a_h, (oc1 e_wa e_le e_st e_fo e_lc a_l a_g a_b a_s a_p a_w e_gb a_bb)), (a_g, (oc6 6 5 a_gn e_g)), (a_gn, (arI G 30 f_g)), (a_b, (oc6 5 24 a_bn e_b)), (a_bn, (arI G 120 f_b)), (a_p, (oc6 8 5 a_pn e_p)), (a_pn, (arI G 40 f_p)), (a_w, (oc6 6 6 a_wn e_w)), (a_wn, (arI G 36 f_w)), (a_bb, (arJ G 24 f_bb)), (a_j, (oc2 a_as a_sk)), (a_as, (arI G 8 f_as)), (a_sk, (arJ G 50 f_sk)), (a_l, (arW G 6 f_l)), (a_lo, (oc3 e_cl a_hd a_sr a_cd)), (a_sr, (arI G n_sr f_sr)), (a_cd, (arI G n_cd f_cd)), (a_hd, (arI G n_hd f_hd)), (a_pt, (arI G 200 f_pt)), (a_ha, (oc0 a_h a_k e_f1 e_f2 e_f3))] sz)) (va_A [(a_k, (oc5 a_h a_j a_pt e_ln e_se e_lh e_br e_we e_me e_ce e_wy e_ho e_ov)), (a_h, (oc1 e_wa e_le e_st e_fo e_lc a_l a_g a_b a_s a_p a_w e_gb a_bb)), (a_g, (oc6 6 5 a_gn e_g)), (a_gn, (arI G 30 f_g)), (a_b, (oc6 5 24 a_bn e_b)), (a_bn, (arI G 120 f_b)), (a_p, (oc6 8 5 a_pn e_p)), (a_pn, (arI G 40 f_p)), (a_w, (oc6 6 6 a_wn e_w)), (a_wn, (arI G 36 f_w)), (a_bb, (arJ G 24 f_bb)), (a_j, (oc2 a_as a_sk)), (a_as, (arI G 8 f_as)), (a_sk, (arJ G 50 f_sk)), (a_l, (arW G 6 f_l)), (a_lo, (oc3 e_cl a_hd a_sr a_cd)), (a_sr, (arI G n_sr f_sr)), (a_cd, (arI G n_cd f_cd)), (a_hd, (arI G n_hd f_hd)), (a_pt, (arI G 200 f_pt)), (a_ha, (oc0 a_h a_k e_f1 e_f2 e_f3))] sz)) 0 0 (va_A [(a_k, (oc5 a_h a_j a_pt e_ln e_se e_lh e_br e_we e_me e_ce e_wy e_ho e_ov)), (a_h, (oc1 e_wa e_le e_st e_fo e_lc a_l a_g a_b a_s a_p a_w e_gb a_bb)), (a_g, (oc6 6 5 a_gn e_g)), (a_gn, (arI G 30 f_g)), (a_b, (oc6 5 24 a_bn e_b)), (a_bn, (arI G 120 f_b)), (a_p, (oc6 8 5 a_pn e_p)), (a_pn, (arI G 40 f_p)), (a_w, (oc6 6 6 a_wn e_w)), (a_wn, (arI G 36 f_w)), (a_bb, (arJ G 24 f_bb)), (a_j, (oc2 a_as a_sk)), (a_as, (arI G 8 f_as)), (a_sk, (arJ G 50 f_sk)), (a_l, (arW G 6 f_l)), (a_lo, (oc3 e_cl a_hd a_sr a_cd)), (a_sr, (arI G n_sr f_sr)), (a_cd, (arI G n_cd f_cd)), (a_hd, (arI G n_hd f_hd)), (a_pt, (arI G 200 f_pt)), (a_ha, (oc0 a_h a_k e_f1 e_f2 e_f3))] sz) := by
  refine Met.ofW (cc := cX0_lacking) (maxL := 6) (ret := (some .int)) (by decide) rfl ?_
  intro p e s m args below meth c s₁ B hml hv
  obtain ⟨rfl, hsz, hP, hK, hD0, hN, hT⟩ := hv
  have hx := B.exec
  have hb := B.bytes
  have hr := B.returns
  have hts : ∀ w ∈ tblG, w.before _ s = true := fun w h => atoms_spec (ws := (wsG yX0_lacking cX0_lacking 6 (some .int))) B.pre w (List.mem_cons_of_mem _ h)
  have hown : s.vm.findClass RX0 = some m.cls := findClass_of_methodNamed B.named
  have hlocks := B.notSynchronized
  subst hsz
  have hD := hD0.self (sz := s.heap.size)
  generalize hAe : va_A [(a_k, (oc5 a_h a_j a_pt e_ln e_se e_lh e_br e_we e_me e_ce e_wy e_ho e_ov)), (a_h, (oc1 e_wa e_le e_st e_fo e_lc a_l a_g a_b a_s a_p a_w e_gb a_bb)), (a_g, (oc6 6 5 a_gn e_g)), (a_gn, (arI G 30 f_g)), (a_b, (oc6 5 24 a_bn e_b)), (a_bn, (arI G 120 f_b)), (a_p, (oc6 8 5 a_pn e_p)), (a_pn, (arI G 40 f_p)), (a_w, (oc6 6 6 a_wn e_w)), (a_wn, (arI G 36 f_w)), (a_bb, (arJ G 24 f_bb)), (a_j, (oc2 a_as a_sk)), (a_as, (arI G 8 f_as)), (a_sk, (arJ G 50 f_sk)), (a_l, (arW G 6 f_l)), (a_lo, (oc3 e_cl a_hd a_sr a_cd)), (a_sr, (arI G n_sr f_sr)), (a_cd, (arI G n_cd f_cd)), (a_hd, (arI G n_hd f_hd)), (a_pt, (arI G 200 f_pt)), (a_ha, (oc0 a_h a_k e_f1 e_f2 e_f3))] s.heap.size = A at hD hT ⊢
  have hA : ∀ q : Nat, s.heap.size ≤ q → A q := fun q h => by rw [← hAe]; exact Or.inr h
  have hS : va_S A s.heap s.heap [] := va_S.rf
  have hP : va_P G.1 vwCl [(a_k, (oc5 a_h a_j a_pt e_ln e_se e_lh e_br e_we e_me e_ce e_wy e_ho e_ov)), (a_h, (oc1 e_wa e_le e_st e_fo e_lc a_l a_g a_b a_s a_p a_w e_gb a_bb)), (a_g, (oc6 6 5 a_gn e_g)), (a_gn, (arI G 30 f_g)), (a_b, (oc6 5 24 a_bn e_b)), (a_bn, (arI G 120 f_b)), (a_p, (oc6 8 5 a_pn e_p)), (a_pn, (arI G 40 f_p)), (a_w, (oc6 6 6 a_wn e_w)), (a_wn, (arI G 36 f_w)), (a_bb, (arJ G 24 f_bb)), (a_j, (oc2 a_as a_sk)), (a_as, (arI G 8 f_as)), (a_sk, (arJ G 50 f_sk)), (a_l, (arW G 6 f_l)), (a_lo, (oc3 e_cl a_hd a_sr a_cd)), (a_sr, (arI G n_sr f_sr)), (a_cd, (arI G n_cd f_cd)), (a_hd, (arI G n_hd f_hd)), (a_pt, (arI G 200 f_pt)), (a_ha, (oc0 a_h a_k e_f1 e_f2 e_f3))] s.heap := hP
  have hl := lv_entry ([.ref a_ha, .int p_u]) (n := 6) (Nat.le_of_ble_eq_true rfl)
  rw [lg_entry_eq]
  generalize (lg_sl ([.ref a_ha, .int p_u]) ++ List.replicate (6 - (lg_sl ([.ref a_ha, .int p_u])).length) Slot.unset).toArray = ls at hl ⊢
  have hl : lv_has ls 6 [(0, .ref a_ha), (1, .int p_u)] := hl
  refine lv_iconst (v := 0) hx hb dX0_lacking_0 (by decide) ?_
  refine lv_istore_n (lv' := [(2, .int 0), (0, .ref a_ha), (1, .int p_u)]) hx hb dX0_lacking_1 rfl hl (by decide) rfl (fun ls hl => ?_)
  refine lv_aload_n hx hb dX0_lacking_2 rfl (lv_at hl 1 rfl) ?_
  refine va_get (D := G.1) (ci := 0) (v := .ref a_h) (C := RX0) (T := TX0) (N := 5) hx hb hts inG_X0 hown hK hP 20 rfl rfl 0 (by decide) (hts _ fl_X0_9) (fun _ h9 => h9) rfl dX0_lacking_3 ?_
  refine va_get (D := G.1) (ci := 1) (v := .ref a_w) (C := RX1) (T := TX1) (N := 13) hx hb hts inG_X1 hown hK hP 1 rfl rfl 10 (by decide) (hts _ fl_X0_19) (fun _ h9 => h9) rfl dX0_lacking_6 ?_
  refine lv_astore_n (lv' := [(3, .ref a_w), (2, .int 0), (0, .ref a_ha), (1, .int p_u)]) hx hb dX0_lacking_9 rfl hl (by decide) rfl (fun ls hl => ?_)
  refine lv_iconst (v := 0) hx hb dX0_lacking_10 (by decide) ?_
  refine lv_istore (lv' := [(4, .int 0), (3, .ref a_w), (2, .int 0), (0, .ref a_ha), (1, .int p_u)]) hx hb dX0_lacking_11 hl (by decide) rfl (fun ls hl => ?_)
  refine g5_loop (α := (Int32) × (Int32) × (Int32) × (Int32) × (Int32) × (Int32) × (Int32) × (Int32) × (Int32) × (Int32) × (Int32) × (Nat → Int32) × (Nat → Int32) × (Nat → Int64) × (Int32)) (fun (q : (Int32) × (Int32) × (Int32) × (Int32) × (Int32) × (Int32) × (Int32) × (Int32) × (Int32) × (Int32) × (Int32) × (Nat → Int32) × (Nat → Int32) × (Nat → Int64) × (Int32)) (ls : Array Slot) (H : Heap) (locs : List Loc) => match q with | (k_i, k_b, k_se, k_lh, k_br, k_we, k_me, k_ce, k_wy, k_ho, k_ov, k_pt, k_as, k_sk, k_ln) => lv_has ls 6 [(2, .int k_b), (4, .int k_i), (3, .ref a_w), (0, .ref a_ha), (1, .int p_u)] ∧ va_P G.1 vwCl [(a_k, (oc5 a_h a_j a_pt k_ln k_se k_lh k_br k_we k_me k_ce k_wy k_ho k_ov)), (a_h, (oc1 e_wa e_le e_st e_fo e_lc a_l a_g a_b a_s a_p a_w e_gb a_bb)), (a_g, (oc6 6 5 a_gn e_g)), (a_gn, (arI G 30 f_g)), (a_b, (oc6 5 24 a_bn e_b)), (a_bn, (arI G 120 f_b)), (a_p, (oc6 8 5 a_pn e_p)), (a_pn, (arI G 40 f_p)), (a_w, (oc6 6 6 a_wn e_w)), (a_wn, (arI G 36 f_w)), (a_bb, (arJ G 24 f_bb)), (a_j, (oc2 a_as a_sk)), (a_as, (arI G 8 k_as)), (a_sk, (arJ G 50 k_sk)), (a_l, (arW G 6 f_l)), (a_lo, (oc3 e_cl a_hd a_sr a_cd)), (a_sr, (arI G n_sr f_sr)), (a_cd, (arI G n_cd f_cd)), (a_hd, (arI G n_hd f_hd)), (a_pt, (arI G 200 k_pt)), (a_ha, (oc0 a_h a_k e_f1 e_f2 e_f3))] H ∧ va_D A [(a_k, (oc5 a_h a_j a_pt k_ln k_se k_lh k_br k_we k_me k_ce k_wy k_ho k_ov)), (a_h, (oc1 e_wa e_le e_st e_fo e_lc a_l a_g a_b a_s a_p a_w e_gb a_bb)), (a_g, (oc6 6 5 a_gn e_g)), (a_gn, (arI G 30 f_g)), (a_b, (oc6 5 24 a_bn e_b)), (a_bn, (arI G 120 f_b)), (a_p, (oc6 8 5 a_pn e_p)), (a_pn, (arI G 40 f_p)), (a_w, (oc6 6 6 a_wn e_w)), (a_wn, (arI G 36 f_w)), (a_bb, (arJ G 24 f_bb)), (a_j, (oc2 a_as a_sk)), (a_as, (arI G 8 k_as)), (a_sk, (arJ G 50 k_sk)), (a_l, (arW G 6 f_l)), (a_lo, (oc3 e_cl a_hd a_sr a_cd)), (a_sr, (arI G n_sr f_sr)), (a_cd, (arI G n_cd f_cd)), (a_hd, (arI G n_hd f_hd)), (a_pt, (arI G 200 k_pt)), (a_ha, (oc0 a_h a_k e_f1 e_f2 e_f3))] ∧ va_S A s.heap H locs ∧ (0 ≤ k_i.toInt ∧ k_i.toInt ≤ 6) ∧ (0 ≤ k_ov.toInt ∧ k_ov.toInt ≤ 1) ∧ (k_i.toInt ≤ e_w.toInt)) (fun (q : (Int32) × (Int32) × (Int32) × (Int32) × (Int32) × (Int32) × (Int32) × (Int32) × (Int32) × (Int32) × (Int32) × (Nat → Int32) × (Nat → Int32) × (Nat → Int64) × (Int32)) => match q with | (k_i, k_b, k_se, k_lh, k_br, k_we, k_me, k_ce, k_wy, k_ho, k_ov, k_pt, k_as, k_sk, k_ln) => Int.toNat (6 - k_i.toInt)) (0, 0, e_se, e_lh, e_br, e_we, e_me, e_ce, e_wy, e_ho, e_ov, f_pt, f_as, f_sk, e_ln) ⟨lv_sub hl [2, 0, 1, 3, 4] rfl, hP, hD, hS, ⟨by decide, by decide⟩, h_e_ov, by have z0 : (0 : Int32).toInt = 0 := (by decide); omega⟩ ?_
  rintro ⟨k_i, k_b, k_se, k_lh, k_br, k_we, k_me, k_ce, k_wy, k_ho, k_ov, k_pt, k_as, k_sk, k_ln⟩ ls H locs ⟨hl, hP, hD, hS, i_1, i_2, i_3⟩ ih_13_4
  have hl : lv_has ls 6 [(2, .int k_b), (4, .int k_i), (3, .ref a_w), (0, .ref a_ha), (1, .int p_u)] := hl
  have i_1 : 0 ≤ k_i.toInt ∧ k_i.toInt ≤ 6 := i_1
  have i_2 : 0 ≤ k_ov.toInt ∧ k_ov.toInt ≤ 1 := i_2
  have i_3 : k_i.toInt ≤ e_w.toInt := i_3
  refine g5_rs [(a_k, (oc5 a_h a_j a_pt k_ln k_se k_lh k_br k_we k_me k_ce k_wy k_ho k_ov)), (a_h, (oc1 e_wa e_le e_st e_fo e_lc a_l a_g a_b a_s a_p a_w e_gb a_bb)), (a_g, (oc6 6 5 a_gn e_g)), (a_gn, (arI G 30 f_g)), (a_b, (oc6 5 24 a_bn e_b)), (a_bn, (arI G 120 f_b)), (a_p, (oc6 8 5 a_pn e_p)), (a_pn, (arI G 40 f_p)), (a_w, (oc6 6 6 a_wn e_w)), (a_wn, (arI G 36 f_w)), (a_bb, (arJ G 24 f_bb)), (a_j, (oc2 a_as a_sk)), (a_as, (arI G 8 k_as)), (a_sk, (arJ G 50 k_sk)), (a_l, (arW G 6 f_l)), (a_lo, (oc3 e_cl a_hd a_sr a_cd)), (a_sr, (arI G n_sr f_sr)), (a_cd, (arI G n_cd f_cd)), (a_hd, (arI G n_hd f_hd)), (a_pt, (arI G 200 k_pt)), (a_ha, (oc0 a_h a_k e_f1 e_f2 e_f3))] hP hD (fun hP hD => ?_)
  refine lv_iload hx hb dX0_lacking_13 (lv_at hl 1 rfl) ?_
  refine lv_aload_n hx hb dX0_lacking_15 rfl (lv_at hl 2 rfl) ?_
  refine va_get (D := G.1) (ci := 6) (v := .int e_w) (C := RX6) (T := TX6) (N := 4) hx hb hts inG_X6 hown hK hP 8 rfl rfl 3 (by decide) (hts _ fl_X0_25) (fun _ h9 => h9) rfl dX0_lacking_16 ?_
  refine lv_icmp_ge (tgt := 112) hx hb dX0_lacking_19 (by decide) (fun c_5 => ?_) (fun c_5 => ?_)
  ·
    have i_5 : k_i.toInt ≥ e_w.toInt := by have z := g5_ge (a := k_i.toInt) (b := e_w.toInt) (by rfl) (by rfl) c_5; omega
    refine lv_iload_n hx hb dX0_lacking_112 rfl (lv_at hl 0 rfl) ?_
    exact W.iret (v := k_b) hx hb hr (fun t ht hW => ⟨⟨k_b, [(a_k, (oc5 a_h a_j a_pt k_ln k_se k_lh k_br k_we k_me k_ce k_wy k_ho k_ov)), (a_h, (oc1 e_wa e_le e_st e_fo e_lc a_l a_g a_b a_s a_p a_w e_gb a_bb)), (a_g, (oc6 6 5 a_gn e_g)), (a_gn, (arI G 30 f_g)), (a_b, (oc6 5 24 a_bn e_b)), (a_bn, (arI G 120 f_b)), (a_p, (oc6 8 5 a_pn e_p)), (a_pn, (arI G 40 f_p)), (a_w, (oc6 6 6 a_wn e_w)), (a_wn, (arI G 36 f_w)), (a_bb, (arJ G 24 f_bb)), (a_j, (oc2 a_as a_sk)), (a_as, (arI G 8 k_as)), (a_sk, (arJ G 50 k_sk)), (a_l, (arW G 6 f_l)), (a_lo, (oc3 e_cl a_hd a_sr a_cd)), (a_sr, (arI G n_sr f_sr)), (a_cd, (arI G n_cd f_cd)), (a_hd, (arI G n_hd f_hd)), (a_pt, (arI G 200 k_pt)), (a_ha, (oc0 a_h a_k e_f1 e_f2 e_f3))], rfl, ⟨k_b, k_ln, k_se, k_lh, k_br, k_we, k_me, k_ce, k_wy, k_ho, k_ov, k_pt, k_as, k_sk, i_2, rfl, rfl⟩, by rw [ht]; exact hP.sub [0, 1, 2, 3, 4, 5, 6, 7, 8, 9, 10, 11, 12, 13, 14, 15, 16, 17, 18, 19, 20] rfl, hD.sub [0, 1, 2, 3, 4, 5, 6, 7, 8, 9, 10, 11, 12, 13, 14, 15, 16, 17, 18, 19, 20] (by decide) rfl⟩, hS.F ht⟩) hS.2.2 dX0_lacking_113
  ·
    have i_5 : k_i.toInt < e_w.toInt := by have z := g5_geN (a := k_i.toInt) (b := e_w.toInt) (by rfl) (by rfl) c_5; omega
    refine lv_aload_n hx hb dX0_lacking_22 rfl (lv_at hl 3 rfl) ?_
    refine va_get (D := G.1) (ci := 0) (v := .ref a_k) (C := RX0) (T := TX0) (N := 5) hx hb hts inG_X0 hown hK hP 20 rfl rfl 1 (by decide) (hts _ fl_X0_15) (fun _ h9 => h9) rfl dX0_lacking_23 ?_
    refine lv_aload_n hx hb dX0_lacking_26 rfl (lv_at hl 2 rfl) ?_
    refine lv_iload hx hb dX0_lacking_27 (lv_at hl 1 rfl) ?_
    refine lv_iconst (v := 0) hx hb dX0_lacking_29 (by decide) ?_
    obtain ⟨hPc, hDc, hFc⟩ := g5_sub3 (wc := [(a_w, (oc6 6 6 a_wn e_w)), (a_wn, (arI G 36 f_w))]) hP hD hS hA [8, 9] (by decide) rfl
    refine va_calli (va_runV (As := [.int k_i, .int 0]) (rest := [.ref a_k]) ⟨hx, hb, hml, hown, hts⟩ (t_get_W l G a_w a_wn H.size e_w k_i 0 f_w h_e_w) (cwV 2 hts gV_X0_31 rfl rfl rfl hv_X6_get ⟨Nat.le_of_ble_eq_true rfl, Nat.le_of_ble_eq_true rfl⟩) (g5_preV hPc hK hDc hN hT hS hFc (ci := 6) (q0 := 0) rfl rfl) rfl rfl hl.1 rfl (lv_room (Nat.le_of_ble_eq_true rfl)) dX0_lacking_30 ⟨Nat.le_of_ble_eq_true rfl, Nat.le_of_ble_eq_true rfl⟩) hS (fun q _ h => hFc q h) hFc (fun r u t H1 locs ht hvm hw hB hz1 hk1 hS => ?_)
    obtain ⟨hP1, hD1⟩ := hB
    rw [ht] at hP1
    obtain ⟨z7, i_6, y8, rfl⟩ := hw
    have i_6 : z7 = tget f_w e_w.toInt 6 k_i.toInt (0 : Int32).toInt := i_6
    obtain ⟨hP, hD⟩ := va_join (wr := [(a_k, (oc5 a_h a_j a_pt k_ln k_se k_lh k_br k_we k_me k_ce k_wy k_ho k_ov)), (a_h, (oc1 e_wa e_le e_st e_fo e_lc a_l a_g a_b a_s a_p a_w e_gb a_bb)), (a_g, (oc6 6 5 a_gn e_g)), (a_gn, (arI G 30 f_g)), (a_b, (oc6 5 24 a_bn e_b)), (a_bn, (arI G 120 f_b)), (a_p, (oc6 8 5 a_pn e_p)), (a_pn, (arI G 40 f_p)), (a_bb, (arJ G 24 f_bb)), (a_j, (oc2 a_as a_sk)), (a_as, (arI G 8 k_as)), (a_sk, (arJ G 50 k_sk)), (a_l, (arW G 6 f_l)), (a_lo, (oc3 e_cl a_hd a_sr a_cd)), (a_sr, (arI G n_sr f_sr)), (a_cd, (arI G n_cd f_cd)), (a_hd, (arI G n_hd f_hd)), (a_pt, (arI G 200 k_pt)), (a_ha, (oc0 a_h a_k e_f1 e_f2 e_f3))]) hP hD [8, 9] [0, 1, 2, 3, 4, 5, 6, 7, 10, 11, 12, 13, 14, 15, 16, 17, 18, 19, 20] rfl rfl (by decide) (by decide) hk1 hFc hP1 hD1
    generalize H1 = H at hP hS ⊢
    refine g5_rs [(a_k, (oc5 a_h a_j a_pt k_ln k_se k_lh k_br k_we k_me k_ce k_wy k_ho k_ov)), (a_h, (oc1 e_wa e_le e_st e_fo e_lc a_l a_g a_b a_s a_p a_w e_gb a_bb)), (a_g, (oc6 6 5 a_gn e_g)), (a_gn, (arI G 30 f_g)), (a_b, (oc6 5 24 a_bn e_b)), (a_bn, (arI G 120 f_b)), (a_p, (oc6 8 5 a_pn e_p)), (a_pn, (arI G 40 f_p)), (a_bb, (arJ G 24 f_bb)), (a_j, (oc2 a_as a_sk)), (a_as, (arI G 8 k_as)), (a_sk, (arJ G 50 k_sk)), (a_l, (arW G 6 f_l)), (a_lo, (oc3 e_cl a_hd a_sr a_cd)), (a_sr, (arI G n_sr f_sr)), (a_cd, (arI G n_cd f_cd)), (a_hd, (arI G n_hd f_hd)), (a_pt, (arI G 200 k_pt)), (a_ha, (oc0 a_h a_k e_f1 e_f2 e_f3)), (a_w, (oc6 6 6 a_wn e_w)), (a_wn, (arI G 36 f_w))] hP hD (fun hP hD => ?_)
    refine g5_ti (v := z7) y8 ?_
    refine lv_aload_n hx hb dX0_lacking_33 rfl (lv_at hl 2 rfl) ?_
    refine lv_iload hx hb dX0_lacking_34 (lv_at hl 1 rfl) ?_
    refine lv_iconst (v := 1) hx hb dX0_lacking_36 (by decide) ?_
    obtain ⟨hPc, hDc, hFc⟩ := g5_sub3 (wc := [(a_w, (oc6 6 6 a_wn e_w)), (a_wn, (arI G 36 f_w))]) hP hD hS hA [19, 20] (by decide) rfl
    refine va_calli (va_runV (As := [.int k_i, .int 1]) (rest := [.int z7, .ref a_k]) ⟨hx, hb, hml, hown, hts⟩ (t_get_W l G a_w a_wn H.size e_w k_i 1 f_w h_e_w) (cwV 2 hts gV_X0_31 rfl rfl rfl hv_X6_get ⟨Nat.le_of_ble_eq_true rfl, Nat.le_of_ble_eq_true rfl⟩) (g5_preV hPc hK hDc hN hT hS hFc (ci := 6) (q0 := 0) rfl rfl) rfl rfl hl.1 rfl (lv_room (Nat.le_of_ble_eq_true rfl)) dX0_lacking_37 ⟨Nat.le_of_ble_eq_true rfl, Nat.le_of_ble_eq_true rfl⟩) hS (fun q _ h => hFc q h) hFc (fun r u t H1 locs ht hvm hw hB hz1 hk1 hS => ?_)
    obtain ⟨hP1, hD1⟩ := hB
    rw [ht] at hP1
    obtain ⟨z10, i_9, y11, rfl⟩ := hw
    have i_9 : z10 = tget f_w e_w.toInt 6 k_i.toInt (1 : Int32).toInt := i_9
    obtain ⟨hP, hD⟩ := va_join (wr := [(a_k, (oc5 a_h a_j a_pt k_ln k_se k_lh k_br k_we k_me k_ce k_wy k_ho k_ov)), (a_h, (oc1 e_wa e_le e_st e_fo e_lc a_l a_g a_b a_s a_p a_w e_gb a_bb)), (a_g, (oc6 6 5 a_gn e_g)), (a_gn, (arI G 30 f_g)), (a_b, (oc6 5 24 a_bn e_b)), (a_bn, (arI G 120 f_b)), (a_p, (oc6 8 5 a_pn e_p)), (a_pn, (arI G 40 f_p)), (a_bb, (arJ G 24 f_bb)), (a_j, (oc2 a_as a_sk)), (a_as, (arI G 8 k_as)), (a_sk, (arJ G 50 k_sk)), (a_l, (arW G 6 f_l)), (a_lo, (oc3 e_cl a_hd a_sr a_cd)), (a_sr, (arI G n_sr f_sr)), (a_cd, (arI G n_cd f_cd)), (a_hd, (arI G n_hd f_hd)), (a_pt, (arI G 200 k_pt)), (a_ha, (oc0 a_h a_k e_f1 e_f2 e_f3))]) hP hD [19, 20] [0, 1, 2, 3, 4, 5, 6, 7, 8, 9, 10, 11, 12, 13, 14, 15, 16, 17, 18] rfl rfl (by decide) (by decide) hk1 hFc hP1 hD1
    generalize H1 = H at hP hS ⊢
    refine g5_rs [(a_k, (oc5 a_h a_j a_pt k_ln k_se k_lh k_br k_we k_me k_ce k_wy k_ho k_ov)), (a_h, (oc1 e_wa e_le e_st e_fo e_lc a_l a_g a_b a_s a_p a_w e_gb a_bb)), (a_g, (oc6 6 5 a_gn e_g)), (a_gn, (arI G 30 f_g)), (a_b, (oc6 5 24 a_bn e_b)), (a_bn, (arI G 120 f_b)), (a_p, (oc6 8 5 a_pn e_p)), (a_pn, (arI G 40 f_p)), (a_bb, (arJ G 24 f_bb)), (a_j, (oc2 a_as a_sk)), (a_as, (arI G 8 k_as)), (a_sk, (arJ G 50 k_sk)), (a_l, (arW G 6 f_l)), (a_lo, (oc3 e_cl a_hd a_sr a_cd)), (a_sr, (arI G n_sr f_sr)), (a_cd, (arI G n_cd f_cd)), (a_hd, (arI G n_hd f_hd)), (a_pt, (arI G 200 k_pt)), (a_ha, (oc0 a_h a_k e_f1 e_f2 e_f3)), (a_w, (oc6 6 6 a_wn e_w)), (a_wn, (arI G 36 f_w))] hP hD (fun hP hD => ?_)
    refine g5_ti (v := z10) y11 ?_
    refine lv_aload_n hx hb dX0_lacking_40 rfl (lv_at hl 2 rfl) ?_
    refine lv_iload hx hb dX0_lacking_41 (lv_at hl 1 rfl) ?_
    refine lv_iconst (v := 2) hx hb dX0_lacking_43 (by decide) ?_
    obtain ⟨hPc, hDc, hFc⟩ := g5_sub3 (wc := [(a_w, (oc6 6 6 a_wn e_w)), (a_wn, (arI G 36 f_w))]) hP hD hS hA [19, 20] (by decide) rfl
    refine va_calli (va_runV (As := [.int k_i, .int 2]) (rest := [.int z10, .int z7, .ref a_k]) ⟨hx, hb, hml, hown, hts⟩ (t_get_W l G a_w a_wn H.size e_w k_i 2 f_w h_e_w) (cwV 2 hts gV_X0_31 rfl rfl rfl hv_X6_get ⟨Nat.le_of_ble_eq_true rfl, Nat.le_of_ble_eq_true rfl⟩) (g5_preV hPc hK hDc hN hT hS hFc (ci := 6) (q0 := 0) rfl rfl) rfl rfl hl.1 rfl (lv_room (Nat.le_of_ble_eq_true rfl)) dX0_lacking_44 ⟨Nat.le_of_ble_eq_true rfl, Nat.le_of_ble_eq_true rfl⟩) hS (fun q _ h => hFc q h) hFc (fun r u t H1 locs ht hvm hw hB hz1 hk1 hS => ?_)
    obtain ⟨hP1, hD1⟩ := hB
    rw [ht] at hP1
    obtain ⟨z13, i_12, y14, rfl⟩ := hw
    have i_12 : z13 = tget f_w e_w.toInt 6 k_i.toInt (2 : Int32).toInt := i_12
    obtain ⟨hP, hD⟩ := va_join (wr := [(a_k, (oc5 a_h a_j a_pt k_ln k_se k_lh k_br k_we k_me k_ce k_wy k_ho k_ov)), (a_h, (oc1 e_wa e_le e_st e_fo e_lc a_l a_g a_b a_s a_p a_w e_gb a_bb)), (a_g, (oc6 6 5 a_gn e_g)), (a_gn, (arI G 30 f_g)), (a_b, (oc6 5 24 a_bn e_b)), (a_bn, (arI G 120 f_b)), (a_p, (oc6 8 5 a_pn e_p)), (a_pn, (arI G 40 f_p)), (a_bb, (arJ G 24 f_bb)), (a_j, (oc2 a_as a_sk)), (a_as, (arI G 8 k_as)), (a_sk, (arJ G 50 k_sk)), (a_l, (arW G 6 f_l)), (a_lo, (oc3 e_cl a_hd a_sr a_cd)), (a_sr, (arI G n_sr f_sr)), (a_cd, (arI G n_cd f_cd)), (a_hd, (arI G n_hd f_hd)), (a_pt, (arI G 200 k_pt)), (a_ha, (oc0 a_h a_k e_f1 e_f2 e_f3))]) hP hD [19, 20] [0, 1, 2, 3, 4, 5, 6, 7, 8, 9, 10, 11, 12, 13, 14, 15, 16, 17, 18] rfl rfl (by decide) (by decide) hk1 hFc hP1 hD1
    generalize H1 = H at hP hS ⊢
    refine g5_rs [(a_k, (oc5 a_h a_j a_pt k_ln k_se k_lh k_br k_we k_me k_ce k_wy k_ho k_ov)), (a_h, (oc1 e_wa e_le e_st e_fo e_lc a_l a_g a_b a_s a_p a_w e_gb a_bb)), (a_g, (oc6 6 5 a_gn e_g)), (a_gn, (arI G 30 f_g)), (a_b, (oc6 5 24 a_bn e_b)), (a_bn, (arI G 120 f_b)), (a_p, (oc6 8 5 a_pn e_p)), (a_pn, (arI G 40 f_p)), (a_bb, (arJ G 24 f_bb)), (a_j, (oc2 a_as a_sk)), (a_as, (arI G 8 k_as)), (a_sk, (arJ G 50 k_sk)), (a_l, (arW G 6 f_l)), (a_lo, (oc3 e_cl a_hd a_sr a_cd)), (a_sr, (arI G n_sr f_sr)), (a_cd, (arI G n_cd f_cd)), (a_hd, (arI G n_hd f_hd)), (a_pt, (arI G 200 k_pt)), (a_ha, (oc0 a_h a_k e_f1 e_f2 e_f3)), (a_w, (oc6 6 6 a_wn e_w)), (a_wn, (arI G 36 f_w))] hP hD (fun hP hD => ?_)
    refine g5_ti (v := z13) y14 ?_
    refine lv_iload_n hx hb dX0_lacking_47 rfl (lv_at hl 4 rfl) ?_
    obtain ⟨hPc, hDc, hFc⟩ := g5_sub3 (wc := [(a_k, (oc5 a_h a_j a_pt k_ln k_se k_lh k_br k_we k_me k_ce k_wy k_ho k_ov)), (a_h, (oc1 e_wa e_le e_st e_fo e_lc a_l a_g a_b a_s a_p a_w e_gb a_bb)), (a_g, (oc6 6 5 a_gn e_g)), (a_gn, (arI G 30 f_g)), (a_b, (oc6 5 24 a_bn e_b)), (a_bn, (arI G 120 f_b)), (a_p, (oc6 8 5 a_pn e_p)), (a_pn, (arI G 40 f_p)), (a_bb, (arJ G 24 f_bb)), (a_j, (oc2 a_as a_sk)), (a_as, (arI G 8 k_as)), (a_sk, (arJ G 50 k_sk)), (a_l, (arW G 6 f_l)), (a_lo, (oc3 e_cl a_hd a_sr a_cd)), (a_sr, (arI G n_sr f_sr)), (a_cd, (arI G n_cd f_cd)), (a_hd, (arI G n_hd f_hd)), (a_pt, (arI G 200 k_pt))]) hP hD hS hA [0, 1, 2, 3, 4, 5, 6, 7, 8, 9, 10, 11, 12, 13, 14, 15, 16, 17] (by decide) rfl
    refine va_callv (va_runV (As := [.int z7, .int z10, .int z13, .int p_u]) (rest := []) ⟨hx, hb, hml, hown, hts⟩ (k_runL l G a_k a_h a_g a_gn a_b a_bn a_p a_pn a_bb a_j a_as a_sk a_l a_lo a_sr a_cd a_hd a_pt a_s a_w H.size e_le e_st e_fo e_lc e_g e_b e_p e_cl k_ln k_se k_lh k_br k_we k_me k_ce k_wy k_ho k_ov z7 z10 z13 p_u e_wa e_gb f_g f_b f_p f_bb k_as k_sk f_l f_sr f_cd f_hd k_pt n_sr n_cd n_hd h_e_g h_e_b h_e_p h_e_cl i_2 (e_gk) (e_pk) (e_gi) (e_f) (e_a) (e_hn) (e_hs) (e_hk) (e_c)) (cwV 4 hts gV_X0_35 rfl rfl rfl hv_X5_run ⟨Nat.le_of_ble_eq_true rfl, Nat.le_of_ble_eq_true rfl⟩) (g5_preV hPc hK hDc hN hT hS hFc (ci := 5) (q0 := 0) rfl rfl) rfl rfl hl.1 rfl (lv_room (Nat.le_of_ble_eq_true rfl)) dX0_lacking_48 ⟨Nat.le_of_ble_eq_true rfl, Nat.le_of_ble_eq_true rfl⟩) hS (fun q _ h => hFc q h) hFc (fun u t H1 locs ht hvm hw hB hz1 hk1 hS => ?_)
    obtain ⟨hP1, hD1⟩ := hB
    rw [ht] at hP1
    obtain ⟨z18, z19, z20, z21, z22, z23, z24, z25, z26, z27, z28, z29, z30, i_15, i_16, i_17, rfl⟩ := hw
    have i_15 : 0 ≤ z18.toInt ∧ z18.toInt ≤ 200 := i_15
    have i_16 : 0 ≤ z27.toInt ∧ z27.toInt ≤ 1 := i_16
    have i_17 : ∀ j : Nat, (j : Int) < z18.toInt → 0 ≤ (z28 j).toInt ∧ (z28 j).toInt ≤ 1535 := i_17
    obtain ⟨hP, hD⟩ := va_join (wr := [(a_ha, (oc0 a_h a_k e_f1 e_f2 e_f3)), (a_w, (oc6 6 6 a_wn e_w)), (a_wn, (arI G 36 f_w))]) hP hD [0, 1, 2, 3, 4, 5, 6, 7, 8, 9, 10, 11, 12, 13, 14, 15, 16, 17] [18, 19, 20] rfl rfl (by decide) (by decide) hk1 hFc hP1 hD1
    generalize H1 = H at hP hS ⊢
    refine g5_rs [(a_ha, (oc0 a_h a_k e_f1 e_f2 e_f3)), (a_w, (oc6 6 6 a_wn e_w)), (a_wn, (arI G 36 f_w)), (a_k, (oc5 a_h a_j a_pt z18 z19 z20 z21 z22 z23 z24 z25 z26 z27)), (a_h, (oc1 e_wa e_le e_st e_fo e_lc a_l a_g a_b a_s a_p a_w e_gb a_bb)), (a_g, (oc6 6 5 a_gn e_g)), (a_gn, (arI G 30 f_g)), (a_b, (oc6 5 24 a_bn e_b)), (a_bn, (arI G 120 f_b)), (a_p, (oc6 8 5 a_pn e_p)), (a_pn, (arI G 40 f_p)), (a_bb, (arJ G 24 f_bb)), (a_j, (oc2 a_as a_sk)), (a_as, (arI G 8 z29)), (a_sk, (arJ G 50 z30)), (a_l, (arW G 6 f_l)), (a_lo, (oc3 e_cl a_hd a_sr a_cd)), (a_sr, (arI G n_sr f_sr)), (a_cd, (arI G n_cd f_cd)), (a_hd, (arI G n_hd f_hd)), (a_pt, (arI G 200 z28))] hP hD (fun hP hD => ?_)
    refine lv_aload_n hx hb dX0_lacking_51 rfl (lv_at hl 3 rfl) ?_
    refine va_get (D := G.1) (ci := 0) (v := .ref a_k) (C := RX0) (T := TX0) (N := 5) hx hb hts inG_X0 hown hK hP 0 rfl rfl 1 (by decide) (hts _ fl_X0_15) (fun _ h9 => h9) rfl dX0_lacking_52 ?_
    refine lv_aload_n hx hb dX0_lacking_55 rfl (lv_at hl 2 rfl) ?_
    refine lv_iload hx hb dX0_lacking_56 (lv_at hl 1 rfl) ?_
    refine lv_iconst (v := 4) hx hb dX0_lacking_58 (by decide) ?_
    obtain ⟨hPc, hDc, hFc⟩ := g5_sub3 (wc := [(a_w, (oc6 6 6 a_wn e_w)), (a_wn, (arI G 36 f_w))]) hP hD hS hA [1, 2] (by decide) rfl
    refine va_calli (va_runV (As := [.int k_i, .int 4]) (rest := [.ref a_k]) ⟨hx, hb, hml, hown, hts⟩ (t_get_W l G a_w a_wn H.size e_w k_i 4 f_w h_e_w) (cwV 2 hts gV_X0_31 rfl rfl rfl hv_X6_get ⟨Nat.le_of_ble_eq_true rfl, Nat.le_of_ble_eq_true rfl⟩) (g5_preV hPc hK hDc hN hT hS hFc (ci := 6) (q0 := 0) rfl rfl) rfl rfl hl.1 rfl (lv_room (Nat.le_of_ble_eq_true rfl)) dX0_lacking_59 ⟨Nat.le_of_ble_eq_true rfl, Nat.le_of_ble_eq_true rfl⟩) hS (fun q _ h => hFc q h) hFc (fun r u t H1 locs ht hvm hw hB hz1 hk1 hS => ?_)
    obtain ⟨hP1, hD1⟩ := hB
    rw [ht] at hP1
    obtain ⟨z32, i_31, y33, rfl⟩ := hw
    have i_31 : z32 = tget f_w e_w.toInt 6 k_i.toInt (4 : Int32).toInt := i_31
    obtain ⟨hP, hD⟩ := va_join (wr := [(a_ha, (oc0 a_h a_k e_f1 e_f2 e_f3)), (a_k, (oc5 a_h a_j a_pt z18 z19 z20 z21 z22 z23 z24 z25 z26 z27)), (a_h, (oc1 e_wa e_le e_st e_fo e_lc a_l a_g a_b a_s a_p a_w e_gb a_bb)), (a_g, (oc6 6 5 a_gn e_g)), (a_gn, (arI G 30 f_g)), (a_b, (oc6 5 24 a_bn e_b)), (a_bn, (arI G 120 f_b)), (a_p, (oc6 8 5 a_pn e_p)), (a_pn, (arI G 40 f_p)), (a_bb, (arJ G 24 f_bb)), (a_j, (oc2 a_as a_sk)), (a_as, (arI G 8 z29)), (a_sk, (arJ G 50 z30)), (a_l, (arW G 6 f_l)), (a_lo, (oc3 e_cl a_hd a_sr a_cd)), (a_sr, (arI G n_sr f_sr)), (a_cd, (arI G n_cd f_cd)), (a_hd, (arI G n_hd f_hd)), (a_pt, (arI G 200 z28))]) hP hD [1, 2] [0, 3, 4, 5, 6, 7, 8, 9, 10, 11, 12, 13, 14, 15, 16, 17, 18, 19, 20] rfl rfl (by decide) (by decide) hk1 hFc hP1 hD1
    generalize H1 = H at hP hS ⊢
    refine g5_rs [(a_ha, (oc0 a_h a_k e_f1 e_f2 e_f3)), (a_k, (oc5 a_h a_j a_pt z18 z19 z20 z21 z22 z23 z24 z25 z26 z27)), (a_h, (oc1 e_wa e_le e_st e_fo e_lc a_l a_g a_b a_s a_p a_w e_gb a_bb)), (a_g, (oc6 6 5 a_gn e_g)), (a_gn, (arI G 30 f_g)), (a_b, (oc6 5 24 a_bn e_b)), (a_bn, (arI G 120 f_b)), (a_p, (oc6 8 5 a_pn e_p)), (a_pn, (arI G 40 f_p)), (a_bb, (arJ G 24 f_bb)), (a_j, (oc2 a_as a_sk)), (a_as, (arI G 8 z29)), (a_sk, (arJ G 50 z30)), (a_l, (arW G 6 f_l)), (a_lo, (oc3 e_cl a_hd a_sr a_cd)), (a_sr, (arI G n_sr f_sr)), (a_cd, (arI G n_cd f_cd)), (a_hd, (arI G n_hd f_hd)), (a_pt, (arI G 200 z28)), (a_w, (oc6 6 6 a_wn e_w)), (a_wn, (arI G 36 f_w))] hP hD (fun hP hD => ?_)
    refine g5_ti (v := z32) y33 ?_
    refine lv_bipush (v := 64) hx hb dX0_lacking_62 (by decide) ?_
    refine lv_imul hx hb dX0_lacking_64 ?_
    refine lv_aload_n hx hb dX0_lacking_65 rfl (lv_at hl 2 rfl) ?_
    refine lv_iload hx hb dX0_lacking_66 (lv_at hl 1 rfl) ?_
    refine lv_iconst (v := 3) hx hb dX0_lacking_68 (by decide) ?_
    obtain ⟨hPc, hDc, hFc⟩ := g5_sub3 (wc := [(a_w, (oc6 6 6 a_wn e_w)), (a_wn, (arI G 36 f_w))]) hP hD hS hA [19, 20] (by decide) rfl
    refine va_calli (va_runV (As := [.int k_i, .int 3]) (rest := [.int (z32 * 64), .ref a_k]) ⟨hx, hb, hml, hown, hts⟩ (t_get_W l G a_w a_wn H.size e_w k_i 3 f_w h_e_w) (cwV 2 hts gV_X0_31 rfl rfl rfl hv_X6_get ⟨Nat.le_of_ble_eq_true rfl, Nat.le_of_ble_eq_true rfl⟩) (g5_preV hPc hK hDc hN hT hS hFc (ci := 6) (q0 := 0) rfl rfl) rfl rfl hl.1 rfl (lv_room (Nat.le_of_ble_eq_true rfl)) dX0_lacking_69 ⟨Nat.le_of_ble_eq_true rfl, Nat.le_of_ble_eq_true rfl⟩) hS (fun q _ h => hFc q h) hFc (fun r u t H1 locs ht hvm hw hB hz1 hk1 hS => ?_)
    obtain ⟨hP1, hD1⟩ := hB
    rw [ht] at hP1
    obtain ⟨z35, i_34, y36, rfl⟩ := hw
    have i_34 : z35 = tget f_w e_w.toInt 6 k_i.toInt (3 : Int32).toInt := i_34
    obtain ⟨hP, hD⟩ := va_join (wr := [(a_ha, (oc0 a_h a_k e_f1 e_f2 e_f3)), (a_k, (oc5 a_h a_j a_pt z18 z19 z20 z21 z22 z23 z24 z25 z26 z27)), (a_h, (oc1 e_wa e_le e_st e_fo e_lc a_l a_g a_b a_s a_p a_w e_gb a_bb)), (a_g, (oc6 6 5 a_gn e_g)), (a_gn, (arI G 30 f_g)), (a_b, (oc6 5 24 a_bn e_b)), (a_bn, (arI G 120 f_b)), (a_p, (oc6 8 5 a_pn e_p)), (a_pn, (arI G 40 f_p)), (a_bb, (arJ G 24 f_bb)), (a_j, (oc2 a_as a_sk)), (a_as, (arI G 8 z29)), (a_sk, (arJ G 50 z30)), (a_l, (arW G 6 f_l)), (a_lo, (oc3 e_cl a_hd a_sr a_cd)), (a_sr, (arI G n_sr f_sr)), (a_cd, (arI G n_cd f_cd)), (a_hd, (arI G n_hd f_hd)), (a_pt, (arI G 200 z28))]) hP hD [19, 20] [0, 1, 2, 3, 4, 5, 6, 7, 8, 9, 10, 11, 12, 13, 14, 15, 16, 17, 18] rfl rfl (by decide) (by decide) hk1 hFc hP1 hD1
    generalize H1 = H at hP hS ⊢
    refine g5_rs [(a_ha, (oc0 a_h a_k e_f1 e_f2 e_f3)), (a_k, (oc5 a_h a_j a_pt z18 z19 z20 z21 z22 z23 z24 z25 z26 z27)), (a_h, (oc1 e_wa e_le e_st e_fo e_lc a_l a_g a_b a_s a_p a_w e_gb a_bb)), (a_g, (oc6 6 5 a_gn e_g)), (a_gn, (arI G 30 f_g)), (a_b, (oc6 5 24 a_bn e_b)), (a_bn, (arI G 120 f_b)), (a_p, (oc6 8 5 a_pn e_p)), (a_pn, (arI G 40 f_p)), (a_bb, (arJ G 24 f_bb)), (a_j, (oc2 a_as a_sk)), (a_as, (arI G 8 z29)), (a_sk, (arJ G 50 z30)), (a_l, (arW G 6 f_l)), (a_lo, (oc3 e_cl a_hd a_sr a_cd)), (a_sr, (arI G n_sr f_sr)), (a_cd, (arI G n_cd f_cd)), (a_hd, (arI G n_hd f_hd)), (a_pt, (arI G 200 z28)), (a_w, (oc6 6 6 a_wn e_w)), (a_wn, (arI G 36 f_w))] hP hD (fun hP hD => ?_)
    refine g5_ti (v := z35) y36 ?_
    refine lv_iadd hx hb dX0_lacking_72 ?_
    obtain ⟨hPc, hDc, hFc⟩ := g5_sub3 (wc := [(a_k, (oc5 a_h a_j a_pt z18 z19 z20 z21 z22 z23 z24 z25 z26 z27)), (a_pt, (arI G 200 z28))]) hP hD hS hA [1, 18] (by decide) rfl
    refine va_calli (va_runV (As := [.int ((z32 * 64) + z35)]) (rest := []) ⟨hx, hb, hml, hown, hts⟩ (s_hasPoint l G a_k a_pt a_h a_j H.size z18 z19 z20 z21 z22 z23 z24 z25 z26 z27 ((z32 * 64) + z35) z28 i_15 i_16) (cwV 1 hts gV_X0_41 rfl rfl rfl hv_X5_hasPoint ⟨Nat.le_of_ble_eq_true rfl, Nat.le_of_ble_eq_true rfl⟩) (g5_preV hPc hK hDc hN hT hS hFc (ci := 5) (q0 := 0) rfl rfl) rfl rfl hl.1 rfl (lv_room (Nat.le_of_ble_eq_true rfl)) dX0_lacking_73 ⟨Nat.le_of_ble_eq_true rfl, Nat.le_of_ble_eq_true rfl⟩) hS (fun q _ h => hFc q h) hFc (fun r u t H1 locs ht hvm hw hB hz1 hk1 hS => ?_)
    obtain ⟨hP1, hD1⟩ := hB
    rw [ht] at hP1
    obtain ⟨z38, i_37, y39, rfl⟩ := hw
    have i_37 : 0 ≤ z38.toInt ∧ z38.toInt ≤ 1 := i_37
    obtain ⟨hP, hD⟩ := va_join (wr := [(a_ha, (oc0 a_h a_k e_f1 e_f2 e_f3)), (a_h, (oc1 e_wa e_le e_st e_fo e_lc a_l a_g a_b a_s a_p a_w e_gb a_bb)), (a_g, (oc6 6 5 a_gn e_g)), (a_gn, (arI G 30 f_g)), (a_b, (oc6 5 24 a_bn e_b)), (a_bn, (arI G 120 f_b)), (a_p, (oc6 8 5 a_pn e_p)), (a_pn, (arI G 40 f_p)), (a_bb, (arJ G 24 f_bb)), (a_j, (oc2 a_as a_sk)), (a_as, (arI G 8 z29)), (a_sk, (arJ G 50 z30)), (a_l, (arW G 6 f_l)), (a_lo, (oc3 e_cl a_hd a_sr a_cd)), (a_sr, (arI G n_sr f_sr)), (a_cd, (arI G n_cd f_cd)), (a_hd, (arI G n_hd f_hd)), (a_w, (oc6 6 6 a_wn e_w)), (a_wn, (arI G 36 f_w))]) hP hD [1, 18] [0, 2, 3, 4, 5, 6, 7, 8, 9, 10, 11, 12, 13, 14, 15, 16, 17, 19, 20] rfl rfl (by decide) (by decide) hk1 hFc hP1 hD1
    generalize H1 = H at hP hS ⊢
    refine g5_rs [(a_ha, (oc0 a_h a_k e_f1 e_f2 e_f3)), (a_h, (oc1 e_wa e_le e_st e_fo e_lc a_l a_g a_b a_s a_p a_w e_gb a_bb)), (a_g, (oc6 6 5 a_gn e_g)), (a_gn, (arI G 30 f_g)), (a_b, (oc6 5 24 a_bn e_b)), (a_bn, (arI G 120 f_b)), (a_p, (oc6 8 5 a_pn e_p)), (a_pn, (arI G 40 f_p)), (a_bb, (arJ G 24 f_bb)), (a_j, (oc2 a_as a_sk)), (a_as, (arI G 8 z29)), (a_sk, (arJ G 50 z30)), (a_l, (arW G 6 f_l)), (a_lo, (oc3 e_cl a_hd a_sr a_cd)), (a_sr, (arI G n_sr f_sr)), (a_cd, (arI G n_cd f_cd)), (a_hd, (arI G n_hd f_hd)), (a_w, (oc6 6 6 a_wn e_w)), (a_wn, (arI G 36 f_w)), (a_k, (oc5 a_h a_j a_pt z18 z19 z20 z21 z22 z23 z24 z25 z26 z27)), (a_pt, (arI G 200 z28))] hP hD (fun hP hD => ?_)
    refine g5_ti (v := z38) y39 ?_
    refine lv_istore (lv' := [(5, .int z38), (2, .int k_b), (4, .int k_i), (3, .ref a_w), (0, .ref a_ha), (1, .int p_u)]) hx hb dX0_lacking_76 hl (by decide) rfl (fun ls hl => ?_)
    refine lv_iload hx hb dX0_lacking_78 (lv_at hl 0 rfl) ?_
    refine lv_aload_n hx hb dX0_lacking_80 rfl (lv_at hl 3 rfl) ?_
    refine lv_iload hx hb dX0_lacking_81 (lv_at hl 2 rfl) ?_
    refine lv_iconst (v := 5) hx hb dX0_lacking_83 (by decide) ?_
    obtain ⟨hPc, hDc, hFc⟩ := g5_sub3 (wc := [(a_w, (oc6 6 6 a_wn e_w)), (a_wn, (arI G 36 f_w))]) hP hD hS hA [17, 18] (by decide) rfl
    refine va_calli (va_runV (As := [.int k_i, .int 5]) (rest := [.int z38]) ⟨hx, hb, hml, hown, hts⟩ (t_get_W l G a_w a_wn H.size e_w k_i 5 f_w h_e_w) (cwV 2 hts gV_X0_31 rfl rfl rfl hv_X6_get ⟨Nat.le_of_ble_eq_true rfl, Nat.le_of_ble_eq_true rfl⟩) (g5_preV hPc hK hDc hN hT hS hFc (ci := 6) (q0 := 0) rfl rfl) rfl rfl hl.1 rfl (lv_room (Nat.le_of_ble_eq_true rfl)) dX0_lacking_84 ⟨Nat.le_of_ble_eq_true rfl, Nat.le_of_ble_eq_true rfl⟩) hS (fun q _ h => hFc q h) hFc (fun r u t H1 locs ht hvm hw hB hz1 hk1 hS => ?_)
    obtain ⟨hP1, hD1⟩ := hB
    rw [ht] at hP1
    obtain ⟨z41, i_40, y42, rfl⟩ := hw
    have i_40 : z41 = tget f_w e_w.toInt 6 k_i.toInt (5 : Int32).toInt := i_40
    obtain ⟨hP, hD⟩ := va_join (wr := [(a_ha, (oc0 a_h a_k e_f1 e_f2 e_f3)), (a_h, (oc1 e_wa e_le e_st e_fo e_lc a_l a_g a_b a_s a_p a_w e_gb a_bb)), (a_g, (oc6 6 5 a_gn e_g)), (a_gn, (arI G 30 f_g)), (a_b, (oc6 5 24 a_bn e_b)), (a_bn, (arI G 120 f_b)), (a_p, (oc6 8 5 a_pn e_p)), (a_pn, (arI G 40 f_p)), (a_bb, (arJ G 24 f_bb)), (a_j, (oc2 a_as a_sk)), (a_as, (arI G 8 z29)), (a_sk, (arJ G 50 z30)), (a_l, (arW G 6 f_l)), (a_lo, (oc3 e_cl a_hd a_sr a_cd)), (a_sr, (arI G n_sr f_sr)), (a_cd, (arI G n_cd f_cd)), (a_hd, (arI G n_hd f_hd)), (a_k, (oc5 a_h a_j a_pt z18 z19 z20 z21 z22 z23 z24 z25 z26 z27)), (a_pt, (arI G 200 z28))]) hP hD [17, 18] [0, 1, 2, 3, 4, 5, 6, 7, 8, 9, 10, 11, 12, 13, 14, 15, 16, 19, 20] rfl rfl (by decide) (by decide) hk1 hFc hP1 hD1
    generalize H1 = H at hP hS ⊢
    refine g5_rs [(a_ha, (oc0 a_h a_k e_f1 e_f2 e_f3)), (a_h, (oc1 e_wa e_le e_st e_fo e_lc a_l a_g a_b a_s a_p a_w e_gb a_bb)), (a_g, (oc6 6 5 a_gn e_g)), (a_gn, (arI G 30 f_g)), (a_b, (oc6 5 24 a_bn e_b)), (a_bn, (arI G 120 f_b)), (a_p, (oc6 8 5 a_pn e_p)), (a_pn, (arI G 40 f_p)), (a_bb, (arJ G 24 f_bb)), (a_j, (oc2 a_as a_sk)), (a_as, (arI G 8 z29)), (a_sk, (arJ G 50 z30)), (a_l, (arW G 6 f_l)), (a_lo, (oc3 e_cl a_hd a_sr a_cd)), (a_sr, (arI G n_sr f_sr)), (a_cd, (arI G n_cd f_cd)), (a_hd, (arI G n_hd f_hd)), (a_k, (oc5 a_h a_j a_pt z18 z19 z20 z21 z22 z23 z24 z25 z26 z27)), (a_pt, (arI G 200 z28)), (a_w, (oc6 6 6 a_wn e_w)), (a_wn, (arI G 36 f_w))] hP hD (fun hP hD => ?_)
    refine g5_ti (v := z41) y42 ?_
    refine lv_iconst (v := 1) hx hb dX0_lacking_87 (by decide) ?_
    refine lv_icmp_ne (tgt := 95) hx hb dX0_lacking_88 (by decide) (fun c_43 => ?_) (fun c_43 => ?_)
    ·
      have n_43 : gNe (z41.toInt) (1) := by have z := g5_ne (a := z41.toInt) (b := 1) (by rfl) (by decide) c_43; unfold gNe; omega
      refine lv_iconst (v := 0) hx hb dX0_lacking_95 (by decide) ?_
      refine lv_icmp_eq (tgt := 106) hx hb dX0_lacking_96 (by decide) (fun c_44 => ?_) (fun c_44 => ?_)
      ·
        have i_44 : z38.toInt = 0 := by have z := g5_eq (a := z38.toInt) (b := 0) (by rfl) (by decide) c_44; omega
        refine lv_iinc (v := (k_i + 1)) (lv' := [(4, .int (k_i + 1)), (5, .int z38), (2, .int k_b), (3, .ref a_w), (0, .ref a_ha), (1, .int p_u)]) hx hb dX0_lacking_106 hl (k := 2) rfl rfl (by decide) rfl (fun ls hl => ?_)
        have t_45 : (k_i + 1).toInt = k_i.toInt + 1 := g5_iadd (a := k_i.toInt) (b := 1) rfl (by decide) (by omega) (by omega)
        refine lv_goto (tgt := 13) hx hb dX0_lacking_109 (by decide) ?_
        exact ih_13_4 ((k_i + 1), k_b, z19, z20, z21, z22, z23, z24, z25, z26, z27, z28, z29, z30, z18) ls H locs (show Int.toNat (6 - (k_i + 1).toInt) < Int.toNat (6 - k_i.toInt) from g_up (show k_i.toInt < (k_i + 1).toInt by omega) (show k_i.toInt < 6 by omega)) ⟨lv_sub hl [2, 0, 3, 4, 5] rfl, hP.sub [17, 1, 2, 3, 4, 5, 6, 7, 19, 20, 8, 9, 10, 11, 12, 13, 14, 15, 16, 18, 0] rfl, hD.sub [17, 1, 2, 3, 4, 5, 6, 7, 19, 20, 8, 9, 10, 11, 12, 13, 14, 15, 16, 18, 0] (by decide) rfl, hS, ⟨by omega, by omega⟩, i_16, by omega⟩
      ·
        have n_44 : gNe (z38.toInt) (0) := by have z := g5_eqN (a := z38.toInt) (b := 0) (by rfl) (by decide) c_44; unfold gNe; omega
        have i_44 : z38.toInt ≥ 1 := by have z := g5_eqN (a := z38.toInt) (b := 0) (by rfl) (by decide) c_44; omega
        refine lv_iload_n hx hb dX0_lacking_99 rfl (lv_at hl 1 rfl) ?_
        refine lv_iconst (v := 1) hx hb dX0_lacking_100 (by decide) ?_
        refine lv_iload hx hb dX0_lacking_101 (lv_at hl 2 rfl) ?_
        refine lv_ishl hx hb dX0_lacking_103 ?_
        refine lv_ior hx hb dX0_lacking_104 ?_
        refine lv_istore_n (lv' := [(2, .int (k_b ||| (1 <<< (k_i &&& 31)))), (5, .int z38), (4, .int k_i), (3, .ref a_w), (0, .ref a_ha), (1, .int p_u)]) hx hb dX0_lacking_105 rfl hl (by decide) rfl (fun ls hl => ?_)
        refine lv_iinc (v := (k_i + 1)) (lv' := [(4, .int (k_i + 1)), (2, .int (k_b ||| (1 <<< (k_i &&& 31)))), (5, .int z38), (3, .ref a_w), (0, .ref a_ha), (1, .int p_u)]) hx hb dX0_lacking_106 hl (k := 2) rfl rfl (by decide) rfl (fun ls hl => ?_)
        have t_46 : (k_i + 1).toInt = k_i.toInt + 1 := g5_iadd (a := k_i.toInt) (b := 1) rfl (by decide) (by omega) (by omega)
        refine lv_goto (tgt := 13) hx hb dX0_lacking_109 (by decide) ?_
        exact ih_13_4 ((k_i + 1), (k_b ||| (1 <<< (k_i &&& 31))), z19, z20, z21, z22, z23, z24, z25, z26, z27, z28, z29, z30, z18) ls H locs (show Int.toNat (6 - (k_i + 1).toInt) < Int.toNat (6 - k_i.toInt) from g_up (show k_i.toInt < (k_i + 1).toInt by omega) (show k_i.toInt < 6 by omega)) ⟨lv_sub hl [1, 0, 3, 4, 5] rfl, hP.sub [17, 1, 2, 3, 4, 5, 6, 7, 19, 20, 8, 9, 10, 11, 12, 13, 14, 15, 16, 18, 0] rfl, hD.sub [17, 1, 2, 3, 4, 5, 6, 7, 19, 20, 8, 9, 10, 11, 12, 13, 14, 15, 16, 18, 0] (by decide) rfl, hS, ⟨by omega, by omega⟩, i_16, by omega⟩
    ·
      have i_43 : z41.toInt = 1 := by have z := g5_neN (a := z41.toInt) (b := 1) (by rfl) (by decide) c_43; omega
      refine lv_iconst (v := 1) hx hb dX0_lacking_91 (by decide) ?_
      refine lv_goto (tgt := 96) hx hb dX0_lacking_92 (by decide) ?_
      refine lv_icmp_eq (tgt := 106) hx hb dX0_lacking_96 (by decide) (fun c_47 => ?_) (fun c_47 => ?_)
      ·
        have i_47 : z38.toInt = 1 := by have z := g5_eq (a := z38.toInt) (b := 1) (by rfl) (by decide) c_47; omega
        refine lv_iinc (v := (k_i + 1)) (lv' := [(4, .int (k_i + 1)), (5, .int z38), (2, .int k_b), (3, .ref a_w), (0, .ref a_ha), (1, .int p_u)]) hx hb dX0_lacking_106 hl (k := 2) rfl rfl (by decide) rfl (fun ls hl => ?_)
        have t_48 : (k_i + 1).toInt = k_i.toInt + 1 := g5_iadd (a := k_i.toInt) (b := 1) rfl (by decide) (by omega) (by omega)
        refine lv_goto (tgt := 13) hx hb dX0_lacking_109 (by decide) ?_
        exact ih_13_4 ((k_i + 1), k_b, z19, z20, z21, z22, z23, z24, z25, z26, z27, z28, z29, z30, z18) ls H locs (show Int.toNat (6 - (k_i + 1).toInt) < Int.toNat (6 - k_i.toInt) from g_up (show k_i.toInt < (k_i + 1).toInt by omega) (show k_i.toInt < 6 by omega)) ⟨lv_sub hl [2, 0, 3, 4, 5] rfl, hP.sub [17, 1, 2, 3, 4, 5, 6, 7, 19, 20, 8, 9, 10, 11, 12, 13, 14, 15, 16, 18, 0] rfl, hD.sub [17, 1, 2, 3, 4, 5, 6, 7, 19, 20, 8, 9, 10, 11, 12, 13, 14, 15, 16, 18, 0] (by decide) rfl, hS, ⟨by omega, by omega⟩, i_16, by omega⟩
      ·
        have n_47 : gNe (z38.toInt) (1) := by have z := g5_eqN (a := z38.toInt) (b := 1) (by rfl) (by decide) c_47; unfold gNe; omega
        have i_47 : z38.toInt ≤ 0 := by have z := g5_eqN (a := z38.toInt) (b := 1) (by rfl) (by decide) c_47; omega
        refine lv_iload_n hx hb dX0_lacking_99 rfl (lv_at hl 1 rfl) ?_
        refine lv_iconst (v := 1) hx hb dX0_lacking_100 (by decide) ?_
        refine lv_iload hx hb dX0_lacking_101 (lv_at hl 2 rfl) ?_
        refine lv_ishl hx hb dX0_lacking_103 ?_
        refine lv_ior hx hb dX0_lacking_104 ?_
        refine lv_istore_n (lv' := [(2, .int (k_b ||| (1 <<< (k_i &&& 31)))), (5, .int z38), (4, .int k_i), (3, .ref a_w), (0, .ref a_ha), (1, .int p_u)]) hx hb dX0_lacking_105 rfl hl (by decide) rfl (fun ls hl => ?_)
        refine lv_iinc (v := (k_i + 1)) (lv' := [(4, .int (k_i + 1)), (2, .int (k_b ||| (1 <<< (k_i &&& 31)))), (5, .int z38), (3, .ref a_w), (0, .ref a_ha), (1, .int p_u)]) hx hb dX0_lacking_106 hl (k := 2) rfl rfl (by decide) rfl (fun ls hl => ?_)
        have t_49 : (k_i + 1).toInt = k_i.toInt + 1 := g5_iadd (a := k_i.toInt) (b := 1) rfl (by decide) (by omega) (by omega)
        refine lv_goto (tgt := 13) hx hb dX0_lacking_109 (by decide) ?_
        exact ih_13_4 ((k_i + 1), (k_b ||| (1 <<< (k_i &&& 31))), z19, z20, z21, z22, z23, z24, z25, z26, z27, z28, z29, z30, z18) ls H locs (show Int.toNat (6 - (k_i + 1).toInt) < Int.toNat (6 - k_i.toInt) from g_up (show k_i.toInt < (k_i + 1).toInt by omega) (show k_i.toInt < 6 by omega)) ⟨lv_sub hl [1, 0, 3, 4, 5] rfl, hP.sub [17, 1, 2, 3, 4, 5, 6, 7, 19, 20, 8, 9, 10, 11, 12, 13, 14, 15, 16, 18, 0] rfl, hD.sub [17, 1, 2, 3, 4, 5, 6, 7, 19, 20, 8, 9, 10, 11, 12, 13, 14, 15, 16, 18, 0] (by decide) rfl, hS, ⟨by omega, by omega⟩, i_16, by omega⟩
theorem dgJ6_bitCount_0f7a4_0 : ∀ r ∈ ([(0, (.iload_n 0, 1)), (1, (.iload_n 0, 1)), (2, (.iconst 1, 1)), (3, (.iushr, 1)), (4, (.ldc_w 265, 3)), (7, (.iand, 1)), (8, (.isub, 1)), (9, (.istore_n 0, 1)), (10, (.iload_n 0, 1)), (11, (.ldc_w 266, 3)), (14, (.iand, 1)), (15, (.iload_n 0, 1)), (16, (.iconst 2, 1)), (17, (.iushr, 1)), (18, (.ldc_w 266, 3)), (21, (.iand, 1)), (22, (.iadd, 1)), (23, (.istore_n 0, 1)), (24, (.iload_n 0, 1)), (25, (.iload_n 0, 1)), (26, (.iconst 4, 1)), (27, (.iushr, 1)), (28, (.iadd, 1)), (29, (.ldc_w 267, 3)), (32, (.iand, 1)), (33, (.istore_n 0, 1)), (34, (.iload_n 0, 1)), (35, (.iload_n 0, 1)), (36, (.bipush 8, 2)), (38, (.iushr, 1)), (39, (.iadd, 1)), (40, (.istore_n 0, 1)), (41, (.iload_n 0, 1)), (42, (.iload_n 0, 1)), (43, (.bipush 16, 2)), (45, (.iushr, 1)), (46, (.iadd, 1)), (47, (.istore_n 0, 1)), (48, (.iload_n 0, 1)), (49, (.bipush 63, 2))] : List (Nat × (Instr × Nat))), decode cJ6_bitCount_0f7a4 r.1 = .ok r.2 := by decide +kernel
theorem dJ6_bitCount_0f7a4_0 : decode cJ6_bitCount_0f7a4 0 = .ok (.iload_n 0, 1) := dgJ6_bitCount_0f7a4_0 (0, (.iload_n 0, 1)) (List.mem_of_getElem? (i := 0) rfl)
theorem dJ6_bitCount_0f7a4_1 : decode cJ6_bitCount_0f7a4 1 = .ok (.iload_n 0, 1) := dgJ6_bitCount_0f7a4_0 (1, (.iload_n 0, 1)) (List.mem_of_getElem? (i := 1) rfl)
theorem dJ6_bitCount_0f7a4_2 : decode cJ6_bitCount_0f7a4 2 = .ok (.iconst 1, 1) := dgJ6_bitCount_0f7a4_0 (2, (.iconst 1, 1)) (List.mem_of_getElem? (i := 2) rfl)
theorem dJ6_bitCount_0f7a4_3 : decode cJ6_bitCount_0f7a4 3 = .ok (.iushr, 1) := dgJ6_bitCount_0f7a4_0 (3, (.iushr, 1)) (List.mem_of_getElem? (i := 3) rfl)
theorem dJ6_bitCount_0f7a4_4 : decode cJ6_bitCount_0f7a4 4 = .ok (.ldc_w 265, 3) := dgJ6_bitCount_0f7a4_0 (4, (.ldc_w 265, 3)) (List.mem_of_getElem? (i := 4) rfl)
theorem dJ6_bitCount_0f7a4_7 : decode cJ6_bitCount_0f7a4 7 = .ok (.iand, 1) := dgJ6_bitCount_0f7a4_0 (7, (.iand, 1)) (List.mem_of_getElem? (i := 5) rfl)
theorem dJ6_bitCount_0f7a4_8 : decode cJ6_bitCount_0f7a4 8 = .ok (.isub, 1) := dgJ6_bitCount_0f7a4_0 (8, (.isub, 1)) (List.mem_of_getElem? (i := 6) rfl)
theorem dJ6_bitCount_0f7a4_9 : decode cJ6_bitCount_0f7a4 9 = .ok (.istore_n 0, 1) := dgJ6_bitCount_0f7a4_0 (9, (.istore_n 0, 1)) (List.mem_of_getElem? (i := 7) rfl)
theorem dJ6_bitCount_0f7a4_10 : decode cJ6_bitCount_0f7a4 10 = .ok (.iload_n 0, 1) := dgJ6_bitCount_0f7a4_0 (10, (.iload_n 0, 1)) (List.mem_of_getElem? (i := 8) rfl)
theorem dJ6_bitCount_0f7a4_11 : decode cJ6_bitCount_0f7a4 11 = .ok (.ldc_w 266, 3) := dgJ6_bitCount_0f7a4_0 (11, (.ldc_w 266, 3)) (List.mem_of_getElem? (i := 9) rfl)
theorem dJ6_bitCount_0f7a4_14 : decode cJ6_bitCount_0f7a4 14 = .ok (.iand, 1) := dgJ6_bitCount_0f7a4_0 (14, (.iand, 1)) (List.mem_of_getElem? (i := 10) rfl)
theorem dJ6_bitCount_0f7a4_15 : decode cJ6_bitCount_0f7a4 15 = .ok (.iload_n 0, 1) := dgJ6_bitCount_0f7a4_0 (15, (.iload_n 0, 1)) (List.mem_of_getElem? (i := 11) rfl)
theorem dJ6_bitCount_0f7a4_16 : decode cJ6_bitCount_0f7a4 16 = .ok (.iconst 2, 1) := dgJ6_bitCount_0f7a4_0 (16, (.iconst 2, 1)) (List.mem_of_getElem? (i := 12) rfl)
theorem dJ6_bitCount_0f7a4_17 : decode cJ6_bitCount_0f7a4 17 = .ok (.iushr, 1) := dgJ6_bitCount_0f7a4_0 (17, (.iushr, 1)) (List.mem_of_getElem? (i := 13) rfl)
theorem dJ6_bitCount_0f7a4_18 : decode cJ6_bitCount_0f7a4 18 = .ok (.ldc_w 266, 3) := dgJ6_bitCount_0f7a4_0 (18, (.ldc_w 266, 3)) (List.mem_of_getElem? (i := 14) rfl)
theorem dJ6_bitCount_0f7a4_21 : decode cJ6_bitCount_0f7a4 21 = .ok (.iand, 1) := dgJ6_bitCount_0f7a4_0 (21, (.iand, 1)) (List.mem_of_getElem? (i := 15) rfl)
theorem dJ6_bitCount_0f7a4_22 : decode cJ6_bitCount_0f7a4 22 = .ok (.iadd, 1) := dgJ6_bitCount_0f7a4_0 (22, (.iadd, 1)) (List.mem_of_getElem? (i := 16) rfl)
theorem dJ6_bitCount_0f7a4_23 : decode cJ6_bitCount_0f7a4 23 = .ok (.istore_n 0, 1) := dgJ6_bitCount_0f7a4_0 (23, (.istore_n 0, 1)) (List.mem_of_getElem? (i := 17) rfl)
theorem dJ6_bitCount_0f7a4_24 : decode cJ6_bitCount_0f7a4 24 = .ok (.iload_n 0, 1) := dgJ6_bitCount_0f7a4_0 (24, (.iload_n 0, 1)) (List.mem_of_getElem? (i := 18) rfl)
theorem dJ6_bitCount_0f7a4_25 : decode cJ6_bitCount_0f7a4 25 = .ok (.iload_n 0, 1) := dgJ6_bitCount_0f7a4_0 (25, (.iload_n 0, 1)) (List.mem_of_getElem? (i := 19) rfl)
theorem dJ6_bitCount_0f7a4_26 : decode cJ6_bitCount_0f7a4 26 = .ok (.iconst 4, 1) := dgJ6_bitCount_0f7a4_0 (26, (.iconst 4, 1)) (List.mem_of_getElem? (i := 20) rfl)
theorem dJ6_bitCount_0f7a4_27 : decode cJ6_bitCount_0f7a4 27 = .ok (.iushr, 1) := dgJ6_bitCount_0f7a4_0 (27, (.iushr, 1)) (List.mem_of_getElem? (i := 21) rfl)
theorem dJ6_bitCount_0f7a4_28 : decode cJ6_bitCount_0f7a4 28 = .ok (.iadd, 1) := dgJ6_bitCount_0f7a4_0 (28, (.iadd, 1)) (List.mem_of_getElem? (i := 22) rfl)
theorem dJ6_bitCount_0f7a4_29 : decode cJ6_bitCount_0f7a4 29 = .ok (.ldc_w 267, 3) := dgJ6_bitCount_0f7a4_0 (29, (.ldc_w 267, 3)) (List.mem_of_getElem? (i := 23) rfl)
theorem dJ6_bitCount_0f7a4_32 : decode cJ6_bitCount_0f7a4 32 = .ok (.iand, 1) := dgJ6_bitCount_0f7a4_0 (32, (.iand, 1)) (List.mem_of_getElem? (i := 24) rfl)
theorem dJ6_bitCount_0f7a4_33 : decode cJ6_bitCount_0f7a4 33 = .ok (.istore_n 0, 1) := dgJ6_bitCount_0f7a4_0 (33, (.istore_n 0, 1)) (List.mem_of_getElem? (i := 25) rfl)
theorem dJ6_bitCount_0f7a4_34 : decode cJ6_bitCount_0f7a4 34 = .ok (.iload_n 0, 1) := dgJ6_bitCount_0f7a4_0 (34, (.iload_n 0, 1)) (List.mem_of_getElem? (i := 26) rfl)
theorem dJ6_bitCount_0f7a4_35 : decode cJ6_bitCount_0f7a4 35 = .ok (.iload_n 0, 1) := dgJ6_bitCount_0f7a4_0 (35, (.iload_n 0, 1)) (List.mem_of_getElem? (i := 27) rfl)
theorem dJ6_bitCount_0f7a4_36 : decode cJ6_bitCount_0f7a4 36 = .ok (.bipush 8, 2) := dgJ6_bitCount_0f7a4_0 (36, (.bipush 8, 2)) (List.mem_of_getElem? (i := 28) rfl)
theorem dJ6_bitCount_0f7a4_38 : decode cJ6_bitCount_0f7a4 38 = .ok (.iushr, 1) := dgJ6_bitCount_0f7a4_0 (38, (.iushr, 1)) (List.mem_of_getElem? (i := 29) rfl)
theorem dJ6_bitCount_0f7a4_39 : decode cJ6_bitCount_0f7a4 39 = .ok (.iadd, 1) := dgJ6_bitCount_0f7a4_0 (39, (.iadd, 1)) (List.mem_of_getElem? (i := 30) rfl)
theorem dJ6_bitCount_0f7a4_40 : decode cJ6_bitCount_0f7a4 40 = .ok (.istore_n 0, 1) := dgJ6_bitCount_0f7a4_0 (40, (.istore_n 0, 1)) (List.mem_of_getElem? (i := 31) rfl)
theorem dJ6_bitCount_0f7a4_41 : decode cJ6_bitCount_0f7a4 41 = .ok (.iload_n 0, 1) := dgJ6_bitCount_0f7a4_0 (41, (.iload_n 0, 1)) (List.mem_of_getElem? (i := 32) rfl)
theorem dJ6_bitCount_0f7a4_42 : decode cJ6_bitCount_0f7a4 42 = .ok (.iload_n 0, 1) := dgJ6_bitCount_0f7a4_0 (42, (.iload_n 0, 1)) (List.mem_of_getElem? (i := 33) rfl)
theorem dJ6_bitCount_0f7a4_43 : decode cJ6_bitCount_0f7a4 43 = .ok (.bipush 16, 2) := dgJ6_bitCount_0f7a4_0 (43, (.bipush 16, 2)) (List.mem_of_getElem? (i := 34) rfl)
theorem dJ6_bitCount_0f7a4_45 : decode cJ6_bitCount_0f7a4 45 = .ok (.iushr, 1) := dgJ6_bitCount_0f7a4_0 (45, (.iushr, 1)) (List.mem_of_getElem? (i := 35) rfl)
theorem dJ6_bitCount_0f7a4_46 : decode cJ6_bitCount_0f7a4 46 = .ok (.iadd, 1) := dgJ6_bitCount_0f7a4_0 (46, (.iadd, 1)) (List.mem_of_getElem? (i := 36) rfl)
theorem dJ6_bitCount_0f7a4_47 : decode cJ6_bitCount_0f7a4 47 = .ok (.istore_n 0, 1) := dgJ6_bitCount_0f7a4_0 (47, (.istore_n 0, 1)) (List.mem_of_getElem? (i := 37) rfl)
theorem dJ6_bitCount_0f7a4_48 : decode cJ6_bitCount_0f7a4 48 = .ok (.iload_n 0, 1) := dgJ6_bitCount_0f7a4_0 (48, (.iload_n 0, 1)) (List.mem_of_getElem? (i := 38) rfl)
theorem dJ6_bitCount_0f7a4_49 : decode cJ6_bitCount_0f7a4 49 = .ok (.bipush 63, 2) := dgJ6_bitCount_0f7a4_0 (49, (.bipush 63, 2)) (List.mem_of_getElem? (i := 39) rfl)
theorem dgJ6_bitCount_0f7a4_1 : ∀ r ∈ ([(51, (.iand, 1)), (52, (.ireturn, 1))] : List (Nat × (Instr × Nat))), decode cJ6_bitCount_0f7a4 r.1 = .ok r.2 := by decide +kernel
theorem dJ6_bitCount_0f7a4_51 : decode cJ6_bitCount_0f7a4 51 = .ok (.iand, 1) := dgJ6_bitCount_0f7a4_1 (51, (.iand, 1)) (List.mem_of_getElem? (i := 0) rfl)
theorem dJ6_bitCount_0f7a4_52 : decode cJ6_bitCount_0f7a4 52 = .ok (.ireturn, 1) := dgJ6_bitCount_0f7a4_1 (52, (.ireturn, 1)) (List.mem_of_getElem? (i := 1) rfl)
theorem ki_J6_265 : Cond.constant RJ6 265 1431655765 ∈ tblG := tg 1089 (by decide +kernel) (by decide +kernel)
theorem ki_J6_266 : Cond.constant RJ6 266 858993459 ∈ tblG := tg 1090 (by decide +kernel) (by decide +kernel)
theorem ki_J6_267 : Cond.constant RJ6 267 252645135 ∈ tblG := tg 1091 (by decide +kernel) (by decide +kernel)
