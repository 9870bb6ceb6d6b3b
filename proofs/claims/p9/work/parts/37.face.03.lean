theorem dgX11_wander_1 : ∀ r ∈ ([(75, (.iload 7, 2)), (77, (.ifCond .le 60, 3)), (80, (.lload_n 3, 1)), (81, (.ldc2_w 340, 3)), (84, (.lmul, 1)), (85, (.ldc2_w 342, 3)), (88, (.ladd, 1)), (89, (.ldc2_w 344, 3)), (92, (.lrem, 1)), (93, (.lstore_n 3, 1)), (94, (.iload 5, 2)), (96, (.lload_n 3, 1)), (97, (.ldc2_w 346, 3)), (100, (.lrem, 1)), (101, (.l2i, 1)), (102, (.invokestatic 348, 3)), (105, (.istore 8, 2)), (107, (.iload 8, 2)), (109, (.iconst (-1), 1)), (110, (.if_icmp .eq 18, 3)), (113, (.aload_n 0, 1)), (114, (.getfield 12, 3)), (117, (.getfield 111, 3)), (120, (.iload 8, 2)), (122, (.invokestatic 115, 3)), (125, (.ifCond .eq 8, 3)), (128, (.iload 5, 2)), (130, (.goto 5, 3)), (133, (.iload 8, 2)), (135, (.istore 5, 2)), (137, (.aload_n 0, 1)), (138, (.getfield 84, 3)), (141, (.iload 7, 2)), (143, (.iload 5, 2)), (145, (.iastore, 1)), (146, (.aload_n 0, 1)), (147, (.getfield 38, 3)), (150, (.getfield 257, 3)), (153, (.iload 7, 2)), (155, (.laload, 1))] : List (Nat × (Instr × Nat))), decode cX11_wander r.1 = .ok r.2 := by decide +kernel
theorem dX11_wander_75 : decode cX11_wander 75 = .ok (.iload 7, 2) := dgX11_wander_1 (75, (.iload 7, 2)) (List.mem_of_getElem? (i := 0) rfl)
theorem dX11_wander_77 : decode cX11_wander 77 = .ok (.ifCond .le 60, 3) := dgX11_wander_1 (77, (.ifCond .le 60, 3)) (List.mem_of_getElem? (i := 1) rfl)
theorem dX11_wander_80 : decode cX11_wander 80 = .ok (.lload_n 3, 1) := dgX11_wander_1 (80, (.lload_n 3, 1)) (List.mem_of_getElem? (i := 2) rfl)
theorem dX11_wander_81 : decode cX11_wander 81 = .ok (.ldc2_w 340, 3) := dgX11_wander_1 (81, (.ldc2_w 340, 3)) (List.mem_of_getElem? (i := 3) rfl)
theorem dX11_wander_84 : decode cX11_wander 84 = .ok (.lmul, 1) := dgX11_wander_1 (84, (.lmul, 1)) (List.mem_of_getElem? (i := 4) rfl)
theorem dX11_wander_85 : decode cX11_wander 85 = .ok (.ldc2_w 342, 3) := dgX11_wander_1 (85, (.ldc2_w 342, 3)) (List.mem_of_getElem? (i := 5) rfl)
theorem dX11_wander_88 : decode cX11_wander 88 = .ok (.ladd, 1) := dgX11_wander_1 (88, (.ladd, 1)) (List.mem_of_getElem? (i := 6) rfl)
theorem dX11_wander_89 : decode cX11_wander 89 = .ok (.ldc2_w 344, 3) := dgX11_wander_1 (89, (.ldc2_w 344, 3)) (List.mem_of_getElem? (i := 7) rfl)
theorem dX11_wander_92 : decode cX11_wander 92 = .ok (.lrem, 1) := dgX11_wander_1 (92, (.lrem, 1)) (List.mem_of_getElem? (i := 8) rfl)
theorem dX11_wander_93 : decode cX11_wander 93 = .ok (.lstore_n 3, 1) := dgX11_wander_1 (93, (.lstore_n 3, 1)) (List.mem_of_getElem? (i := 9) rfl)
theorem dX11_wander_94 : decode cX11_wander 94 = .ok (.iload 5, 2) := dgX11_wander_1 (94, (.iload 5, 2)) (List.mem_of_getElem? (i := 10) rfl)
theorem dX11_wander_96 : decode cX11_wander 96 = .ok (.lload_n 3, 1) := dgX11_wander_1 (96, (.lload_n 3, 1)) (List.mem_of_getElem? (i := 11) rfl)
theorem dX11_wander_97 : decode cX11_wander 97 = .ok (.ldc2_w 346, 3) := dgX11_wander_1 (97, (.ldc2_w 346, 3)) (List.mem_of_getElem? (i := 12) rfl)
theorem dX11_wander_100 : decode cX11_wander 100 = .ok (.lrem, 1) := dgX11_wander_1 (100, (.lrem, 1)) (List.mem_of_getElem? (i := 13) rfl)
theorem dX11_wander_101 : decode cX11_wander 101 = .ok (.l2i, 1) := dgX11_wander_1 (101, (.l2i, 1)) (List.mem_of_getElem? (i := 14) rfl)
theorem dX11_wander_102 : decode cX11_wander 102 = .ok (.invokestatic 348, 3) := dgX11_wander_1 (102, (.invokestatic 348, 3)) (List.mem_of_getElem? (i := 15) rfl)
theorem dX11_wander_105 : decode cX11_wander 105 = .ok (.istore 8, 2) := dgX11_wander_1 (105, (.istore 8, 2)) (List.mem_of_getElem? (i := 16) rfl)
theorem dX11_wander_107 : decode cX11_wander 107 = .ok (.iload 8, 2) := dgX11_wander_1 (107, (.iload 8, 2)) (List.mem_of_getElem? (i := 17) rfl)
theorem dX11_wander_109 : decode cX11_wander 109 = .ok (.iconst (-1), 1) := dgX11_wander_1 (109, (.iconst (-1), 1)) (List.mem_of_getElem? (i := 18) rfl)
theorem dX11_wander_110 : decode cX11_wander 110 = .ok (.if_icmp .eq 18, 3) := dgX11_wander_1 (110, (.if_icmp .eq 18, 3)) (List.mem_of_getElem? (i := 19) rfl)
theorem dX11_wander_113 : decode cX11_wander 113 = .ok (.aload_n 0, 1) := dgX11_wander_1 (113, (.aload_n 0, 1)) (List.mem_of_getElem? (i := 20) rfl)
theorem dX11_wander_114 : decode cX11_wander 114 = .ok (.getfield 12, 3) := dgX11_wander_1 (114, (.getfield 12, 3)) (List.mem_of_getElem? (i := 21) rfl)
theorem dX11_wander_117 : decode cX11_wander 117 = .ok (.getfield 111, 3) := dgX11_wander_1 (117, (.getfield 111, 3)) (List.mem_of_getElem? (i := 22) rfl)
theorem dX11_wander_120 : decode cX11_wander 120 = .ok (.iload 8, 2) := dgX11_wander_1 (120, (.iload 8, 2)) (List.mem_of_getElem? (i := 23) rfl)
theorem dX11_wander_122 : decode cX11_wander 122 = .ok (.invokestatic 115, 3) := dgX11_wander_1 (122, (.invokestatic 115, 3)) (List.mem_of_getElem? (i := 24) rfl)
theorem dX11_wander_125 : decode cX11_wander 125 = .ok (.ifCond .eq 8, 3) := dgX11_wander_1 (125, (.ifCond .eq 8, 3)) (List.mem_of_getElem? (i := 25) rfl)
theorem dX11_wander_128 : decode cX11_wander 128 = .ok (.iload 5, 2) := dgX11_wander_1 (128, (.iload 5, 2)) (List.mem_of_getElem? (i := 26) rfl)
theorem dX11_wander_130 : decode cX11_wander 130 = .ok (.goto 5, 3) := dgX11_wander_1 (130, (.goto 5, 3)) (List.mem_of_getElem? (i := 27) rfl)
theorem dX11_wander_133 : decode cX11_wander 133 = .ok (.iload 8, 2) := dgX11_wander_1 (133, (.iload 8, 2)) (List.mem_of_getElem? (i := 28) rfl)
theorem dX11_wander_135 : decode cX11_wander 135 = .ok (.istore 5, 2) := dgX11_wander_1 (135, (.istore 5, 2)) (List.mem_of_getElem? (i := 29) rfl)
theorem dX11_wander_137 : decode cX11_wander 137 = .ok (.aload_n 0, 1) := dgX11_wander_1 (137, (.aload_n 0, 1)) (List.mem_of_getElem? (i := 30) rfl)
theorem dX11_wander_138 : decode cX11_wander 138 = .ok (.getfield 84, 3) := dgX11_wander_1 (138, (.getfield 84, 3)) (List.mem_of_getElem? (i := 31) rfl)
theorem dX11_wander_141 : decode cX11_wander 141 = .ok (.iload 7, 2) := dgX11_wander_1 (141, (.iload 7, 2)) (List.mem_of_getElem? (i := 32) rfl)
theorem dX11_wander_143 : decode cX11_wander 143 = .ok (.iload 5, 2) := dgX11_wander_1 (143, (.iload 5, 2)) (List.mem_of_getElem? (i := 33) rfl)
theorem dX11_wander_145 : decode cX11_wander 145 = .ok (.iastore, 1) := dgX11_wander_1 (145, (.iastore, 1)) (List.mem_of_getElem? (i := 34) rfl)
theorem dX11_wander_146 : decode cX11_wander 146 = .ok (.aload_n 0, 1) := dgX11_wander_1 (146, (.aload_n 0, 1)) (List.mem_of_getElem? (i := 35) rfl)
theorem dX11_wander_147 : decode cX11_wander 147 = .ok (.getfield 38, 3) := dgX11_wander_1 (147, (.getfield 38, 3)) (List.mem_of_getElem? (i := 36) rfl)
theorem dX11_wander_150 : decode cX11_wander 150 = .ok (.getfield 257, 3) := dgX11_wander_1 (150, (.getfield 257, 3)) (List.mem_of_getElem? (i := 37) rfl)
theorem dX11_wander_153 : decode cX11_wander 153 = .ok (.iload 7, 2) := dgX11_wander_1 (153, (.iload 7, 2)) (List.mem_of_getElem? (i := 38) rfl)
theorem dX11_wander_155 : decode cX11_wander 155 = .ok (.laload, 1) := dgX11_wander_1 (155, (.laload, 1)) (List.mem_of_getElem? (i := 39) rfl)
theorem dgX11_wander_2 : ∀ r ∈ ([(156, (.iload 5, 2)), (158, (.invokestatic 115, 3)), (161, (.ifCond .eq 6, 3)), (164, (.iinc 6 1, 3)), (167, (.iinc 7 1, 3)), (170, (.goto (-102), 3)), (173, (.aload_n 0, 1)), (174, (.iload 6, 2)), (176, (.invokevirtual 121, 3)), (179, (.ireturn, 1))] : List (Nat × (Instr × Nat))), decode cX11_wander r.1 = .ok r.2 := by decide +kernel
theorem dX11_wander_156 : decode cX11_wander 156 = .ok (.iload 5, 2) := dgX11_wander_2 (156, (.iload 5, 2)) (List.mem_of_getElem? (i := 0) rfl)
theorem dX11_wander_158 : decode cX11_wander 158 = .ok (.invokestatic 115, 3) := dgX11_wander_2 (158, (.invokestatic 115, 3)) (List.mem_of_getElem? (i := 1) rfl)
theorem dX11_wander_161 : decode cX11_wander 161 = .ok (.ifCond .eq 6, 3) := dgX11_wander_2 (161, (.ifCond .eq 6, 3)) (List.mem_of_getElem? (i := 2) rfl)
theorem dX11_wander_164 : decode cX11_wander 164 = .ok (.iinc 6 1, 3) := dgX11_wander_2 (164, (.iinc 6 1, 3)) (List.mem_of_getElem? (i := 3) rfl)
theorem dX11_wander_167 : decode cX11_wander 167 = .ok (.iinc 7 1, 3) := dgX11_wander_2 (167, (.iinc 7 1, 3)) (List.mem_of_getElem? (i := 4) rfl)
theorem dX11_wander_170 : decode cX11_wander 170 = .ok (.goto (-102), 3) := dgX11_wander_2 (170, (.goto (-102), 3)) (List.mem_of_getElem? (i := 5) rfl)
theorem dX11_wander_173 : decode cX11_wander 173 = .ok (.aload_n 0, 1) := dgX11_wander_2 (173, (.aload_n 0, 1)) (List.mem_of_getElem? (i := 6) rfl)
theorem dX11_wander_174 : decode cX11_wander 174 = .ok (.iload 6, 2) := dgX11_wander_2 (174, (.iload 6, 2)) (List.mem_of_getElem? (i := 7) rfl)
theorem dX11_wander_176 : decode cX11_wander 176 = .ok (.invokevirtual 121, 3) := dgX11_wander_2 (176, (.invokevirtual 121, 3)) (List.mem_of_getElem? (i := 8) rfl)
theorem dX11_wander_179 : decode cX11_wander 179 = .ok (.ireturn, 1) := dgX11_wander_2 (179, (.ireturn, 1)) (List.mem_of_getElem? (i := 9) rfl)
theorem kl_X11_340 : Cond.constantLong RX11 340 1103 ∈ tblG := tg 1147 (by decide +kernel) (by decide +kernel)
theorem kl_X11_342 : Cond.constantLong RX11 342 12345 ∈ tblG := tg 1148 (by decide +kernel) (by decide +kernel)
theorem kl_X11_344 : Cond.constantLong RX11 344 1000003 ∈ tblG := tg 1149 (by decide +kernel) (by decide +kernel)
theorem kl_X11_346 : Cond.constantLong RX11 346 5 ∈ tblG := tg 1150 (by decide +kernel) (by decide +kernel)
theorem ml_X11_348 : Cond.methodLink RX11 348 yX11_beside ∈ tblG := tg 1151 (by decide +kernel) (by decide +kernel)
theorem gS_X11_348 : GoodIn tblG (va_wsS RX11 348 yX11_beside (wsG yX11_beside cX11_beside 2 (some .int))) := tgS ml_X11_348 st_X11_beside ini_X11 gW_X11_beside
theorem dgX11_lacks_0 : ∀ r ∈ ([(0, (.iload_n 1, 1)), (1, (.ifCond .lt 19, 3)), (4, (.iload_n 1, 1)), (5, (.iconst 1, 1)), (6, (.aload_n 0, 1)), (7, (.getfield 12, 3)), (10, (.getfield 306, 3)), (13, (.getfield 238, 3)), (16, (.ishl, 1)), (17, (.if_icmp .lt 5, 3)), (20, (.iconst (-1), 1)), (21, (.ireturn, 1)), (22, (.aload_n 0, 1)), (23, (.getfield 52, 3)), (26, (.iload_n 1, 1)), (27, (.invokevirtual 312, 3)), (30, (.ireturn, 1))] : List (Nat × (Instr × Nat))), decode cX11_lacks r.1 = .ok r.2 := by decide +kernel
theorem dX11_lacks_0 : decode cX11_lacks 0 = .ok (.iload_n 1, 1) := dgX11_lacks_0 (0, (.iload_n 1, 1)) (List.mem_of_getElem? (i := 0) rfl)
theorem dX11_lacks_1 : decode cX11_lacks 1 = .ok (.ifCond .lt 19, 3) := dgX11_lacks_0 (1, (.ifCond .lt 19, 3)) (List.mem_of_getElem? (i := 1) rfl)
theorem dX11_lacks_4 : decode cX11_lacks 4 = .ok (.iload_n 1, 1) := dgX11_lacks_0 (4, (.iload_n 1, 1)) (List.mem_of_getElem? (i := 2) rfl)
theorem dX11_lacks_5 : decode cX11_lacks 5 = .ok (.iconst 1, 1) := dgX11_lacks_0 (5, (.iconst 1, 1)) (List.mem_of_getElem? (i := 3) rfl)
theorem dX11_lacks_6 : decode cX11_lacks 6 = .ok (.aload_n 0, 1) := dgX11_lacks_0 (6, (.aload_n 0, 1)) (List.mem_of_getElem? (i := 4) rfl)
theorem dX11_lacks_7 : decode cX11_lacks 7 = .ok (.getfield 12, 3) := dgX11_lacks_0 (7, (.getfield 12, 3)) (List.mem_of_getElem? (i := 5) rfl)
theorem dX11_lacks_10 : decode cX11_lacks 10 = .ok (.getfield 306, 3) := dgX11_lacks_0 (10, (.getfield 306, 3)) (List.mem_of_getElem? (i := 6) rfl)
theorem dX11_lacks_13 : decode cX11_lacks 13 = .ok (.getfield 238, 3) := dgX11_lacks_0 (13, (.getfield 238, 3)) (List.mem_of_getElem? (i := 7) rfl)
theorem dX11_lacks_16 : decode cX11_lacks 16 = .ok (.ishl, 1) := dgX11_lacks_0 (16, (.ishl, 1)) (List.mem_of_getElem? (i := 8) rfl)
theorem dX11_lacks_17 : decode cX11_lacks 17 = .ok (.if_icmp .lt 5, 3) := dgX11_lacks_0 (17, (.if_icmp .lt 5, 3)) (List.mem_of_getElem? (i := 9) rfl)
theorem dX11_lacks_20 : decode cX11_lacks 20 = .ok (.iconst (-1), 1) := dgX11_lacks_0 (20, (.iconst (-1), 1)) (List.mem_of_getElem? (i := 10) rfl)
theorem dX11_lacks_21 : decode cX11_lacks 21 = .ok (.ireturn, 1) := dgX11_lacks_0 (21, (.ireturn, 1)) (List.mem_of_getElem? (i := 11) rfl)
theorem dX11_lacks_22 : decode cX11_lacks 22 = .ok (.aload_n 0, 1) := dgX11_lacks_0 (22, (.aload_n 0, 1)) (List.mem_of_getElem? (i := 12) rfl)
theorem dX11_lacks_23 : decode cX11_lacks 23 = .ok (.getfield 52, 3) := dgX11_lacks_0 (23, (.getfield 52, 3)) (List.mem_of_getElem? (i := 13) rfl)
theorem dX11_lacks_26 : decode cX11_lacks 26 = .ok (.iload_n 1, 1) := dgX11_lacks_0 (26, (.iload_n 1, 1)) (List.mem_of_getElem? (i := 14) rfl)
theorem dX11_lacks_27 : decode cX11_lacks 27 = .ok (.invokevirtual 312, 3) := dgX11_lacks_0 (27, (.invokevirtual 312, 3)) (List.mem_of_getElem? (i := 15) rfl)
theorem dX11_lacks_30 : decode cX11_lacks 30 = .ok (.ireturn, 1) := dgX11_lacks_0 (30, (.ireturn, 1)) (List.mem_of_getElem? (i := 16) rfl)
theorem fl_X11_52 : Cond.fieldLink RX11 52 "LateGlass" "hanger" "LLateGlass$Hanger;" ∈ tblG := tg 450 (by decide +kernel) (by decide +kernel)
theorem ml_X11_312 : Cond.methodLink RX11 312 yX0_lacking ∈ tblG := tg 1068 (by decide +kernel) (by decide +kernel)
theorem gV_X11_312 : GoodIn tblG (wsV RX11 312 RX0 yX0_lacking (wsG yX0_lacking cX0_lacking 6 (some .int))) := tgV ml_X11_312 im_X0_lacking se_X0_lacking ini_X0 gW_X0_lacking
set_option maxHeartbeats 4000000 in
set_option maxRecDepth 100000 in
theorem x_lacksN (l : Launch) (G : g5_G) (a_o a_k a_h a_g a_gn a_b a_bn a_p a_pn a_w a_wn a_bb a_j a_as a_sk a_l a_pt a_ha a_im a_ke a_wa a_th a_wk a_r a_x a_wd a_rf a_s : Nat) (sz : Nat) (e_tl : Int32) (e_fd : Int32) (e_fpl : Int32) (e_wn : Int32) (e_lr : Int32) (e_le : Int32) (e_st : Int32) (e_fo : Int32) (e_lc : Int32) (e_g : Int32) (e_b : Int32) (e_p : Int32) (e_w : Int32) (e_ln : Int32) (e_se : Int32) (e_lh : Int32) (e_br : Int32) (e_we : Int32) (e_me : Int32) (e_ce : Int32) (e_wy : Int32) (e_ho : Int32) (e_ov : Int32) (e_f1 : Int32) (e_f2 : Int32) (e_f3 : Int32) (p_s : Int32) (e_wa : Int64) (e_gb : Int64) (f_g : Nat → Int32) (f_b : Nat → Int32) (f_p : Nat → Int32) (f_w : Nat → Int32) (f_bb : Nat → Int64) (f_as : Nat → Int32) (f_sk : Nat → Int64) (f_l : Nat → Option Nat) (f_pt : Nat → Int32) (h_e_tl : 0 ≤ e_tl.toInt ∧ e_tl.toInt ≤ 400) (h_e_wn : 0 ≤ e_wn.toInt ∧ e_wn.toInt ≤ 1) (h_e_g : 0 ≤ e_g.toInt ∧ e_g.toInt ≤ 6) (h_e_b : 0 ≤ e_b.toInt ∧ e_b.toInt ≤ 5) (h_e_p : 0 ≤ e_p.toInt ∧ e_p.toInt ≤ 8) (h_e_w : 0 ≤ e_w.toInt ∧ e_w.toInt ≤ 6) (h_e_ov : 0 ≤ e_ov.toInt ∧ e_ov.toInt ≤ 1) (e_gk : gOK f_g e_g.toInt) (e_pk : gOK f_p e_p.toInt) (e_gi : inT e_gb f_g e_g.toInt) (e_f : e_fo.toInt < 0 ∨ e_lc.toInt ≤ e_fo.toInt) : Met l yX11_lacks (wsG yX11_lacks cX11_lacks 2 (some .int)) ({ frames := 15, cells := 0, slots := 0, locals := 581 }) (va_Pc [.ref a_o, .int p_s] (g5_P G [(a_o, (oc11 a_h a_im a_ke a_k a_wa a_th a_ha a_wk a_r a_x e_tl e_fd e_fpl a_wd e_wn a_rf e_lr)), (a_k, (oc5 a_h a_j a_pt e_ln e_se e_lh e_br e_we e_me e_ce e_wy e_ho e_ov)), (a_h, (oc1 e_wa e_le e_st e_fo e_lc a_l a_g a_b a_s a_p a_w e_gb a_bb)), (a_g, (oc6 6 5 a_gn e_g)), (a_gn, (arI G 30 f_g)), (a_b, (oc6 5 24 a_bn e_b)), (a_bn, (arI G 120 f_b)), (a_p, (oc6 8 5 a_pn e_p)), (a_pn, (arI G 40 f_p)), (a_w, (oc6 6 6 a_wn e_w)), (a_wn, (arI G 36 f_w)), (a_bb, (arJ G 24 f_bb)), (a_j, (oc2 a_as a_sk)), (a_as, (arI G 8 f_as)), (a_sk, (arJ G 50 f_sk)), (a_l, (arW G 6 f_l)), (a_pt, (arI G 200 f_pt)), (a_ha, (oc0 a_h a_k e_f1 e_f2 e_f3))] sz)) (va_Qi (fun (r : Int32) (u : va_W) => (∃ (o_r : Int32) (o_ln : Int32) (o_se : Int32) (o_lh : Int32) (o_br : Int32) (o_we : Int32) (o_me : Int32) (o_ce : Int32) (o_wy : Int32) (o_ho : Int32) (o_ov : Int32) (o_pt : Nat → Int32) (o_as : Nat → Int32) (o_sk : Nat → Int64), (0 ≤ o_ov.toInt ∧ o_ov.toInt ≤ 1) ∧ (r = o_r) ∧ (u = [(a_o, (oc11 a_h a_im a_ke a_k a_wa a_th a_ha a_wk a_r a_x e_tl e_fd e_fpl a_wd e_wn a_rf e_lr)), (a_k, (oc5 a_h a_j a_pt o_ln o_se o_lh o_br o_we o_me o_ce o_wy o_ho o_ov)), (a_h, (oc1 e_wa e_le e_st e_fo e_lc a_l a_g a_b a_s a_p a_w e_gb a_bb)), (a_g, (oc6 6 5 a_gn e_g)), (a_gn, (arI G 30 f_g)), (a_b, (oc6 5 24 a_bn e_b)), (a_bn, (arI G 120 f_b)), (a_p, (oc6 8 5 a_pn e_p)), (a_pn, (arI G 40 f_p)), (a_w, (oc6 6 6 a_wn e_w)), (a_wn, (arI G 36 f_w)), (a_bb, (arJ G 24 f_bb)), (a_j, (oc2 a_as a_sk)), (a_as, (arI G 8 o_as)), (a_sk, (arJ G 50 o_sk)), (a_l, (arW G 6 f_l)), (a_pt, (arI G 200 o_pt)), (a_ha, (oc0 a_h a_k e_f1 e_f2 e_f3))]))) (g5_B G (va_A [(a_o, (oc11 a_h a_im a_ke a_k a_wa a_th a_ha a_wk a_r a_x e_tl e_fd e_fpl a_wd e_wn a_rf e_lr)), (a_k, (oc5 a_h a_j a_pt e_ln e_se e_lh e_br e_we e_me e_ce e_wy e_ho e_ov)), (a_h, (oc1 e_wa e_le e_st e_fo e_lc a_l a_g a_b a_s a_p a_w e_gb a_bb)), (a_g, (oc6 6 5 a_gn e_g)), (a_gn, (arI G 30 f_g)), (a_b, (oc6 5 24 a_bn e_b)), (a_bn, (arI G 120 f_b)), (a_p, (oc6 8 5 a_pn e_p)), (a_pn, (arI G 40 f_p)), (a_w, (oc6 6 6 a_wn e_w)), (a_wn, (arI G 36 f_w)), (a_bb, (arJ G 24 f_bb)), (a_j, (oc2 a_as a_sk)), (a_as, (arI G 8 f_as)), (a_sk, (arJ G 50 f_sk)), (a_l, (arW G 6 f_l)), (a_pt, (arI G 200 f_pt)), (a_ha, (oc0 a_h a_k e_f1 e_f2 e_f3))] sz)) (va_A [(a_o, (oc11 a_h a_im a_ke a_k a_wa a_th a_ha a_wk a_r a_x e_tl e_fd e_fpl a_wd e_wn a_rf e_lr)), (a_k, (oc5 a_h a_j a_pt e_ln e_se e_lh e_br e_we e_me e_ce e_wy e_ho e_ov)), (a_h, (oc1 e_wa e_le e_st e_fo e_lc a_l a_g a_b a_s a_p a_w e_gb a_bb)), (a_g, (oc6 6 5 a_gn e_g)), (a_gn, (arI G 30 f_g)), (a_b, (oc6 5 24 a_bn e_b)), (a_bn, (arI G 120 f_b)), (a_p, (oc6 8 5 a_pn e_p)), (a_pn, (arI G 40 f_p)), (a_w, (oc6 6 6 a_wn e_w)), (a_wn, (arI G 36 f_w)), (a_bb, (arJ G 24 f_bb)), (a_j, (oc2 a_as a_sk)), (a_as, (arI G 8 f_as)), (a_sk, (arJ G 50 f_sk)), (a_l, (arW G 6 f_l)), (a_pt, (arI G 200 f_pt)), (a_ha, (oc0 a_h a_k e_f1 e_f2 e_f3))] sz)) 0 0 (va_A [(a_o, (oc11 a_h a_im a_ke a_k a_wa a_th a_ha a_wk a_r a_x e_tl e_fd e_fpl a_wd e_wn a_rf e_lr)), (a_k, (oc5 a_h a_j a_pt e_ln e_se e_lh e_br e_we e_me e_ce e_wy e_ho e_ov)), (a_h, (oc1 e_wa e_le e_st e_fo e_lc a_l a_g a_b a_s a_p a_w e_gb a_bb)), (a_g, (oc6 6 5 a_gn e_g)), (a_gn, (arI G 30 f_g)), (a_b, (oc6 5 24 a_bn e_b)), (a_bn, (arI G 120 f_b)), (a_p, (oc6 8 5 a_pn e_p)), (a_pn, (arI G 40 f_p)), (a_w, (oc6 6 6 a_wn e_w)), (a_wn, (arI G 36 f_w)), (a_bb, (arJ G 24 f_bb)), (a_j, (oc2 a_as a_sk)), (a_as, (arI G 8 f_as)), (a_sk, (arJ G 50 f_sk)), (a_l, (arW G 6 f_l)), (a_pt, (arI G 200 f_pt)), (a_ha, (oc0 a_h a_k e_f1 e_f2 e_f3))] sz) := by
  refine Met.ofW (cc := cX11_lacks) (maxL := 2) (ret := (some .int)) (by decide) rfl ?_
  intro p e s m args below meth c s₁ B hml hv
  obtain ⟨rfl, hsz, hP, hK, hD0, hN, hT⟩ := hv
  have hx := B.exec
  have hb := B.bytes
  have hr := B.returns
  have hts : ∀ w ∈ tblG, w.before _ s = true := fun w h => atoms_spec (ws := (wsG yX11_lacks cX11_lacks 2 (some .int))) B.pre w (List.mem_cons_of_mem _ h)
  have hown : s.vm.findClass RX11 = some m.cls := findClass_of_methodNamed B.named
  have hlocks := B.notSynchronized
  subst hsz
  have hD := hD0.self (sz := s.heap.size)
  generalize hAe : va_A [(a_o, (oc11 a_h a_im a_ke a_k a_wa a_th a_ha a_wk a_r a_x e_tl e_fd e_fpl a_wd e_wn a_rf e_lr)), (a_k, (oc5 a_h a_j a_pt e_ln e_se e_lh e_br e_we e_me e_ce e_wy e_ho e_ov)), (a_h, (oc1 e_wa e_le e_st e_fo e_lc a_l a_g a_b a_s a_p a_w e_gb a_bb)), (a_g, (oc6 6 5 a_gn e_g)), (a_gn, (arI G 30 f_g)), (a_b, (oc6 5 24 a_bn e_b)), (a_bn, (arI G 120 f_b)), (a_p, (oc6 8 5 a_pn e_p)), (a_pn, (arI G 40 f_p)), (a_w, (oc6 6 6 a_wn e_w)), (a_wn, (arI G 36 f_w)), (a_bb, (arJ G 24 f_bb)), (a_j, (oc2 a_as a_sk)), (a_as, (arI G 8 f_as)), (a_sk, (arJ G 50 f_sk)), (a_l, (arW G 6 f_l)), (a_pt, (arI G 200 f_pt)), (a_ha, (oc0 a_h a_k e_f1 e_f2 e_f3))] s.heap.size = A at hD hT ⊢
  have hA : ∀ q : Nat, s.heap.size ≤ q → A q := fun q h => by rw [← hAe]; exact Or.inr h
  have hS : va_S A s.heap s.heap [] := va_S.rf
  have hP : va_P G.1 vwCl [(a_o, (oc11 a_h a_im a_ke a_k a_wa a_th a_ha a_wk a_r a_x e_tl e_fd e_fpl a_wd e_wn a_rf e_lr)), (a_k, (oc5 a_h a_j a_pt e_ln e_se e_lh e_br e_we e_me e_ce e_wy e_ho e_ov)), (a_h, (oc1 e_wa e_le e_st e_fo e_lc a_l a_g a_b a_s a_p a_w e_gb a_bb)), (a_g, (oc6 6 5 a_gn e_g)), (a_gn, (arI G 30 f_g)), (a_b, (oc6 5 24 a_bn e_b)), (a_bn, (arI G 120 f_b)), (a_p, (oc6 8 5 a_pn e_p)), (a_pn, (arI G 40 f_p)), (a_w, (oc6 6 6 a_wn e_w)), (a_wn, (arI G 36 f_w)), (a_bb, (arJ G 24 f_bb)), (a_j, (oc2 a_as a_sk)), (a_as, (arI G 8 f_as)), (a_sk, (arJ G 50 f_sk)), (a_l, (arW G 6 f_l)), (a_pt, (arI G 200 f_pt)), (a_ha, (oc0 a_h a_k e_f1 e_f2 e_f3))] s.heap := hP
  have hl := lv_entry ([.ref a_o, .int p_s]) (n := 2) (Nat.le_of_ble_eq_true rfl)
  rw [lg_entry_eq]
  generalize (lg_sl ([.ref a_o, .int p_s]) ++ List.replicate (2 - (lg_sl ([.ref a_o, .int p_s])).length) Slot.unset).toArray = ls at hl ⊢
  have hl : lv_has ls 2 [(0, .ref a_o), (1, .int p_s)] := hl
  refine lv_iload_n hx hb dX11_lacks_0 rfl (lv_at hl 1 rfl) ?_
  refine lv_if_lt (tgt := 20) hx hb dX11_lacks_1 (by decide) (fun c_1 => ?_) (fun c_1 => ?_)
  ·
    have i_1 : p_s.toInt < 0 := by have z := g5_lt (a := p_s.toInt) (b := 0) (by rfl) (by decide) c_1; omega
    refine lv_iconst (v := (-1)) hx hb dX11_lacks_20 (by decide) ?_
    exact W.iret (v := (-1)) hx hb hr (fun t ht hW => ⟨⟨(-1), [(a_o, (oc11 a_h a_im a_ke a_k a_wa a_th a_ha a_wk a_r a_x e_tl e_fd e_fpl a_wd e_wn a_rf e_lr)), (a_k, (oc5 a_h a_j a_pt e_ln e_se e_lh e_br e_we e_me e_ce e_wy e_ho e_ov)), (a_h, (oc1 e_wa e_le e_st e_fo e_lc a_l a_g a_b a_s a_p a_w e_gb a_bb)), (a_g, (oc6 6 5 a_gn e_g)), (a_gn, (arI G 30 f_g)), (a_b, (oc6 5 24 a_bn e_b)), (a_bn, (arI G 120 f_b)), (a_p, (oc6 8 5 a_pn e_p)), (a_pn, (arI G 40 f_p)), (a_w, (oc6 6 6 a_wn e_w)), (a_wn, (arI G 36 f_w)), (a_bb, (arJ G 24 f_bb)), (a_j, (oc2 a_as a_sk)), (a_as, (arI G 8 f_as)), (a_sk, (arJ G 50 f_sk)), (a_l, (arW G 6 f_l)), (a_pt, (arI G 200 f_pt)), (a_ha, (oc0 a_h a_k e_f1 e_f2 e_f3))], rfl, ⟨(-1), e_ln, e_se, e_lh, e_br, e_we, e_me, e_ce, e_wy, e_ho, e_ov, f_pt, f_as, f_sk, h_e_ov, rfl, rfl⟩, by rw [ht]; exact hP.sub [0, 1, 2, 3, 4, 5, 6, 7, 8, 9, 10, 11, 12, 13, 14, 15, 16, 17] rfl, hD.sub [0, 1, 2, 3, 4, 5, 6, 7, 8, 9, 10, 11, 12, 13, 14, 15, 16, 17] (by decide) rfl⟩, hS.F ht⟩) hS.2.2 dX11_lacks_21
  ·
    have i_1 : p_s.toInt ≥ 0 := by have z := g5_ltN (a := p_s.toInt) (b := 0) (by rfl) (by decide) c_1; omega
    refine lv_iload_n hx hb dX11_lacks_4 rfl (lv_at hl 1 rfl) ?_
    refine lv_iconst (v := 1) hx hb dX11_lacks_5 (by decide) ?_
    refine lv_aload_n hx hb dX11_lacks_6 rfl (lv_at hl 0 rfl) ?_
    refine va_get (D := G.1) (ci := 11) (v := .ref a_h) (C := RX11) (T := TX11) (N := 17) hx hb hts inG_X11 hown hK hP 0 rfl rfl 0 (by decide) (hts _ fl_X11_12) (fun _ h9 => h9) rfl dX11_lacks_7 ?_
    refine va_get (D := G.1) (ci := 1) (v := .ref a_p) (C := RX1) (T := TX1) (N := 13) hx hb hts inG_X1 hown hK hP 2 rfl rfl 9 (by decide) (hts _ fl_X11_306) (fun _ h9 => h9) rfl dX11_lacks_10 ?_
    refine va_get (D := G.1) (ci := 6) (v := .int e_p) (C := RX6) (T := TX6) (N := 4) hx hb hts inG_X6 hown hK hP 7 rfl rfl 3 (by decide) (hts _ fl_X11_238) (fun _ h9 => h9) rfl dX11_lacks_13 ?_
    refine lv_ishl hx hb dX11_lacks_16 ?_
    refine lv_icmp_lt (tgt := 22) hx hb dX11_lacks_17 (by decide) (fun c_2 => ?_) (fun c_2 => ?_)
    ·
      have i_2 : p_s.toInt < (1 <<< (e_p &&& 31)).toInt := by have z := g5_lt (a := p_s.toInt) (b := (1 <<< (e_p &&& 31)).toInt) (by rfl) (by rfl) c_2; omega
      refine lv_aload_n hx hb dX11_lacks_22 rfl (lv_at hl 0 rfl) ?_
      refine va_get (D := G.1) (ci := 11) (v := .ref a_ha) (C := RX11) (T := TX11) (N := 17) hx hb hts inG_X11 hown hK hP 0 rfl rfl 6 (by decide) (hts _ fl_X11_52) (fun _ h9 => h9) rfl dX11_lacks_23 ?_
      refine lv_iload_n hx hb dX11_lacks_26 rfl (lv_at hl 1 rfl) ?_
      obtain ⟨hPc, hDc, hFc⟩ := g5_sub3 (wc := [(a_k, (oc5 a_h a_j a_pt e_ln e_se e_lh e_br e_we e_me e_ce e_wy e_ho e_ov)), (a_h, (oc1 e_wa e_le e_st e_fo e_lc a_l a_g a_b a_s a_p a_w e_gb a_bb)), (a_g, (oc6 6 5 a_gn e_g)), (a_gn, (arI G 30 f_g)), (a_b, (oc6 5 24 a_bn e_b)), (a_bn, (arI G 120 f_b)), (a_p, (oc6 8 5 a_pn e_p)), (a_pn, (arI G 40 f_p)), (a_w, (oc6 6 6 a_wn e_w)), (a_wn, (arI G 36 f_w)), (a_bb, (arJ G 24 f_bb)), (a_j, (oc2 a_as a_sk)), (a_as, (arI G 8 f_as)), (a_sk, (arJ G 50 f_sk)), (a_l, (arW G 6 f_l)), (a_pt, (arI G 200 f_pt)), (a_ha, (oc0 a_h a_k e_f1 e_f2 e_f3))]) hP hD hS hA [1, 2, 3, 4, 5, 6, 7, 8, 9, 10, 11, 12, 13, 14, 15, 16, 17] (by decide) rfl
      refine va_calli (va_runV (As := [.int p_s]) (rest := []) ⟨hx, hb, hml, hown, hts⟩ (g_lackingN l G a_k a_h a_g a_gn a_b a_bn a_p a_pn a_w a_wn a_bb a_j a_as a_sk a_l a_pt a_ha a_s s.heap.size e_le e_st e_fo e_lc e_g e_b e_p e_w e_ln e_se e_lh e_br e_we e_me e_ce e_wy e_ho e_ov e_f1 e_f2 e_f3 p_s e_wa e_gb f_g f_b f_p f_w f_bb f_as f_sk f_l f_pt h_e_g h_e_b h_e_p h_e_w h_e_ov (e_gk) (e_pk) (e_gi) (e_f)) (cwV 1 hts gV_X11_312 rfl rfl rfl hv_X0_lacking ⟨Nat.le_of_ble_eq_true rfl, Nat.le_of_ble_eq_true rfl⟩) (g5_preV hPc hK hDc hN hT hS hFc (ci := 0) (q0 := 16) rfl rfl) rfl rfl hl.1 rfl (lv_room (Nat.le_of_ble_eq_true rfl)) dX11_lacks_27 ⟨Nat.le_of_ble_eq_true rfl, Nat.le_of_ble_eq_true rfl⟩) hS (fun q _ h => hFc q h) hFc (fun r u t H1 locs ht hvm hw hB hz1 hk1 hS => ?_)
      obtain ⟨hP1, hD1⟩ := hB
      rw [ht] at hP1
      obtain ⟨z4, z5, z6, z7, z8, z9, z10, z11, z12, z13, z14, z15, z16, z17, i_3, y18, rfl⟩ := hw
      have i_3 : 0 ≤ z14.toInt ∧ z14.toInt ≤ 1 := i_3
      obtain ⟨hP, hD⟩ := va_join (wr := [(a_o, (oc11 a_h a_im a_ke a_k a_wa a_th a_ha a_wk a_r a_x e_tl e_fd e_fpl a_wd e_wn a_rf e_lr))]) hP hD [1, 2, 3, 4, 5, 6, 7, 8, 9, 10, 11, 12, 13, 14, 15, 16, 17] [0] rfl rfl (by decide) (by decide) hk1 hFc hP1 hD1
      generalize H1 = H at hP hS ⊢
      refine g5_rs [(a_o, (oc11 a_h a_im a_ke a_k a_wa a_th a_ha a_wk a_r a_x e_tl e_fd e_fpl a_wd e_wn a_rf e_lr)), (a_k, (oc5 a_h a_j a_pt z5 z6 z7 z8 z9 z10 z11 z12 z13 z14)), (a_h, (oc1 e_wa e_le e_st e_fo e_lc a_l a_g a_b a_s a_p a_w e_gb a_bb)), (a_g, (oc6 6 5 a_gn e_g)), (a_gn, (arI G 30 f_g)), (a_b, (oc6 5 24 a_bn e_b)), (a_bn, (arI G 120 f_b)), (a_p, (oc6 8 5 a_pn e_p)), (a_pn, (arI G 40 f_p)), (a_w, (oc6 6 6 a_wn e_w)), (a_wn, (arI G 36 f_w)), (a_bb, (arJ G 24 f_bb)), (a_j, (oc2 a_as a_sk)), (a_as, (arI G 8 z16)), (a_sk, (arJ G 50 z17)), (a_l, (arW G 6 f_l)), (a_pt, (arI G 200 z15)), (a_ha, (oc0 a_h a_k e_f1 e_f2 e_f3))] hP hD (fun hP hD => ?_)
      refine g5_ti (v := z4) y18 ?_
      exact W.iret (v := z4) hx hb hr (fun t ht hW => ⟨⟨z4, [(a_o, (oc11 a_h a_im a_ke a_k a_wa a_th a_ha a_wk a_r a_x e_tl e_fd e_fpl a_wd e_wn a_rf e_lr)), (a_k, (oc5 a_h a_j a_pt z5 z6 z7 z8 z9 z10 z11 z12 z13 z14)), (a_h, (oc1 e_wa e_le e_st e_fo e_lc a_l a_g a_b a_s a_p a_w e_gb a_bb)), (a_g, (oc6 6 5 a_gn e_g)), (a_gn, (arI G 30 f_g)), (a_b, (oc6 5 24 a_bn e_b)), (a_bn, (arI G 120 f_b)), (a_p, (oc6 8 5 a_pn e_p)), (a_pn, (arI G 40 f_p)), (a_w, (oc6 6 6 a_wn e_w)), (a_wn, (arI G 36 f_w)), (a_bb, (arJ G 24 f_bb)), (a_j, (oc2 a_as a_sk)), (a_as, (arI G 8 z16)), (a_sk, (arJ G 50 z17)), (a_l, (arW G 6 f_l)), (a_pt, (arI G 200 z15)), (a_ha, (oc0 a_h a_k e_f1 e_f2 e_f3))], rfl, ⟨z4, z5, z6, z7, z8, z9, z10, z11, z12, z13, z14, z15, z16, z17, i_3, rfl, rfl⟩, by rw [ht]; exact hP.sub [0, 1, 2, 3, 4, 5, 6, 7, 8, 9, 10, 11, 12, 13, 14, 15, 16, 17] rfl, hD.sub [0, 1, 2, 3, 4, 5, 6, 7, 8, 9, 10, 11, 12, 13, 14, 15, 16, 17] (by decide) rfl⟩, hS.F ht⟩) hS.2.2 dX11_lacks_30
    ·
      have i_2 : p_s.toInt ≥ (1 <<< (e_p &&& 31)).toInt := by have z := g5_ltN (a := p_s.toInt) (b := (1 <<< (e_p &&& 31)).toInt) (by rfl) (by rfl) c_2; omega
      refine lv_iconst (v := (-1)) hx hb dX11_lacks_20 (by decide) ?_
      exact W.iret (v := (-1)) hx hb hr (fun t ht hW => ⟨⟨(-1), [(a_o, (oc11 a_h a_im a_ke a_k a_wa a_th a_ha a_wk a_r a_x e_tl e_fd e_fpl a_wd e_wn a_rf e_lr)), (a_k, (oc5 a_h a_j a_pt e_ln e_se e_lh e_br e_we e_me e_ce e_wy e_ho e_ov)), (a_h, (oc1 e_wa e_le e_st e_fo e_lc a_l a_g a_b a_s a_p a_w e_gb a_bb)), (a_g, (oc6 6 5 a_gn e_g)), (a_gn, (arI G 30 f_g)), (a_b, (oc6 5 24 a_bn e_b)), (a_bn, (arI G 120 f_b)), (a_p, (oc6 8 5 a_pn e_p)), (a_pn, (arI G 40 f_p)), (a_w, (oc6 6 6 a_wn e_w)), (a_wn, (arI G 36 f_w)), (a_bb, (arJ G 24 f_bb)), (a_j, (oc2 a_as a_sk)), (a_as, (arI G 8 f_as)), (a_sk, (arJ G 50 f_sk)), (a_l, (arW G 6 f_l)), (a_pt, (arI G 200 f_pt)), (a_ha, (oc0 a_h a_k e_f1 e_f2 e_f3))], rfl, ⟨(-1), e_ln, e_se, e_lh, e_br, e_we, e_me, e_ce, e_wy, e_ho, e_ov, f_pt, f_as, f_sk, h_e_ov, rfl, rfl⟩, by rw [ht]; exact hP.sub [0, 1, 2, 3, 4, 5, 6, 7, 8, 9, 10, 11, 12, 13, 14, 15, 16, 17] rfl, hD.sub [0, 1, 2, 3, 4, 5, 6, 7, 8, 9, 10, 11, 12, 13, 14, 15, 16, 17] (by decide) rfl⟩, hS.F ht⟩) hS.2.2 dX11_lacks_21
theorem dgX11_hang_0 : ∀ r ∈ ([(0, (.iload_n 1, 1)), (1, (.ifCond .lt 8, 3)), (4, (.iload_n 1, 1)), (5, (.iconst 2, 1)), (6, (.if_icmp .le 5, 3)), (9, (.iconst (-1), 1)), (10, (.ireturn, 1)), (11, (.aload_n 0, 1)), (12, (.getfield 52, 3)), (15, (.invokevirtual 315, 3)), (18, (.iload_n 1, 1)), (19, (.ifCond .ne 13, 3)), (22, (.aload_n 0, 1)), (23, (.getfield 52, 3)), (26, (.getfield 318, 3)), (29, (.goto 25, 3)), (32, (.iload_n 1, 1)), (33, (.iconst 1, 1)), (34, (.if_icmp .ne 13, 3)), (37, (.aload_n 0, 1)), (38, (.getfield 52, 3)), (41, (.getfield 321, 3)), (44, (.goto 10, 3)), (47, (.aload_n 0, 1)), (48, (.getfield 52, 3)), (51, (.getfield 324, 3)), (54, (.ireturn, 1))] : List (Nat × (Instr × Nat))), decode cX11_hang r.1 = .ok r.2 := by decide +kernel
theorem dX11_hang_0 : decode cX11_hang 0 = .ok (.iload_n 1, 1) := dgX11_hang_0 (0, (.iload_n 1, 1)) (List.mem_of_getElem? (i := 0) rfl)
theorem dX11_hang_1 : decode cX11_hang 1 = .ok (.ifCond .lt 8, 3) := dgX11_hang_0 (1, (.ifCond .lt 8, 3)) (List.mem_of_getElem? (i := 1) rfl)
theorem dX11_hang_4 : decode cX11_hang 4 = .ok (.iload_n 1, 1) := dgX11_hang_0 (4, (.iload_n 1, 1)) (List.mem_of_getElem? (i := 2) rfl)
theorem dX11_hang_5 : decode cX11_hang 5 = .ok (.iconst 2, 1) := dgX11_hang_0 (5, (.iconst 2, 1)) (List.mem_of_getElem? (i := 3) rfl)
theorem dX11_hang_6 : decode cX11_hang 6 = .ok (.if_icmp .le 5, 3) := dgX11_hang_0 (6, (.if_icmp .le 5, 3)) (List.mem_of_getElem? (i := 4) rfl)
theorem dX11_hang_9 : decode cX11_hang 9 = .ok (.iconst (-1), 1) := dgX11_hang_0 (9, (.iconst (-1), 1)) (List.mem_of_getElem? (i := 5) rfl)
theorem dX11_hang_10 : decode cX11_hang 10 = .ok (.ireturn, 1) := dgX11_hang_0 (10, (.ireturn, 1)) (List.mem_of_getElem? (i := 6) rfl)
theorem dX11_hang_11 : decode cX11_hang 11 = .ok (.aload_n 0, 1) := dgX11_hang_0 (11, (.aload_n 0, 1)) (List.mem_of_getElem? (i := 7) rfl)
theorem dX11_hang_12 : decode cX11_hang 12 = .ok (.getfield 52, 3) := dgX11_hang_0 (12, (.getfield 52, 3)) (List.mem_of_getElem? (i := 8) rfl)
theorem dX11_hang_15 : decode cX11_hang 15 = .ok (.invokevirtual 315, 3) := dgX11_hang_0 (15, (.invokevirtual 315, 3)) (List.mem_of_getElem? (i := 9) rfl)
theorem dX11_hang_18 : decode cX11_hang 18 = .ok (.iload_n 1, 1) := dgX11_hang_0 (18, (.iload_n 1, 1)) (List.mem_of_getElem? (i := 10) rfl)
theorem dX11_hang_19 : decode cX11_hang 19 = .ok (.ifCond .ne 13, 3) := dgX11_hang_0 (19, (.ifCond .ne 13, 3)) (List.mem_of_getElem? (i := 11) rfl)
theorem dX11_hang_22 : decode cX11_hang 22 = .ok (.aload_n 0, 1) := dgX11_hang_0 (22, (.aload_n 0, 1)) (List.mem_of_getElem? (i := 12) rfl)
theorem dX11_hang_23 : decode cX11_hang 23 = .ok (.getfield 52, 3) := dgX11_hang_0 (23, (.getfield 52, 3)) (List.mem_of_getElem? (i := 13) rfl)
theorem dX11_hang_26 : decode cX11_hang 26 = .ok (.getfield 318, 3) := dgX11_hang_0 (26, (.getfield 318, 3)) (List.mem_of_getElem? (i := 14) rfl)
theorem dX11_hang_29 : decode cX11_hang 29 = .ok (.goto 25, 3) := dgX11_hang_0 (29, (.goto 25, 3)) (List.mem_of_getElem? (i := 15) rfl)
theorem dX11_hang_32 : decode cX11_hang 32 = .ok (.iload_n 1, 1) := dgX11_hang_0 (32, (.iload_n 1, 1)) (List.mem_of_getElem? (i := 16) rfl)
theorem dX11_hang_33 : decode cX11_hang 33 = .ok (.iconst 1, 1) := dgX11_hang_0 (33, (.iconst 1, 1)) (List.mem_of_getElem? (i := 17) rfl)
theorem dX11_hang_34 : decode cX11_hang 34 = .ok (.if_icmp .ne 13, 3) := dgX11_hang_0 (34, (.if_icmp .ne 13, 3)) (List.mem_of_getElem? (i := 18) rfl)
theorem dX11_hang_37 : decode cX11_hang 37 = .ok (.aload_n 0, 1) := dgX11_hang_0 (37, (.aload_n 0, 1)) (List.mem_of_getElem? (i := 19) rfl)
theorem dX11_hang_38 : decode cX11_hang 38 = .ok (.getfield 52, 3) := dgX11_hang_0 (38, (.getfield 52, 3)) (List.mem_of_getElem? (i := 20) rfl)
theorem dX11_hang_41 : decode cX11_hang 41 = .ok (.getfield 321, 3) := dgX11_hang_0 (41, (.getfield 321, 3)) (List.mem_of_getElem? (i := 21) rfl)
theorem dX11_hang_44 : decode cX11_hang 44 = .ok (.goto 10, 3) := dgX11_hang_0 (44, (.goto 10, 3)) (List.mem_of_getElem? (i := 22) rfl)
theorem dX11_hang_47 : decode cX11_hang 47 = .ok (.aload_n 0, 1) := dgX11_hang_0 (47, (.aload_n 0, 1)) (List.mem_of_getElem? (i := 23) rfl)
theorem dX11_hang_48 : decode cX11_hang 48 = .ok (.getfield 52, 3) := dgX11_hang_0 (48, (.getfield 52, 3)) (List.mem_of_getElem? (i := 24) rfl)
theorem dX11_hang_51 : decode cX11_hang 51 = .ok (.getfield 324, 3) := dgX11_hang_0 (51, (.getfield 324, 3)) (List.mem_of_getElem? (i := 25) rfl)
theorem dX11_hang_54 : decode cX11_hang 54 = .ok (.ireturn, 1) := dgX11_hang_0 (54, (.ireturn, 1)) (List.mem_of_getElem? (i := 26) rfl)
theorem ml_X11_315 : Cond.methodLink RX11 315 yX0_search ∈ tblG := tg 1082 (by decide +kernel) (by decide +kernel)
theorem im_X0_search : Cond.instanceMethod yX0_search ∈ tblG := tg 1083 (by decide +kernel) (by decide +kernel)
theorem se_X0_search : Cond.selects RX0 yX0_search yX0_search ∈ tblG := tg 1084 (by decide +kernel) (by decide +kernel)
theorem cd_X0_search : Cond.code yX0_search cX0_search 4 none ∈ tblG := tg 1085 (by decide +kernel) (by decide +kernel)
theorem gW_X0_search : GoodIn tblG (wsG yX0_search cX0_search 4 none) := tgi cd_X0_search
theorem gV_X11_315 : GoodIn tblG (wsV RX11 315 RX0 yX0_search (wsG yX0_search cX0_search 4 none)) := tgV ml_X11_315 im_X0_search se_X0_search ini_X0 gW_X0_search
theorem hv_X0_search : yX0_search.cls = RX0 ∧ yX0_search.cls ≠ "java/lang/invoke/MethodHandle" ∧ yX0_search.cls ≠ "java/lang/invoke/VarHandle" ∧ (parseMethodDescriptor yX0_search.desc).map (fun d => d.parameters.length) = some 0 := by decide +kernel
theorem fl_X11_324 : Cond.fieldLink RX11 324 "LateGlass$Hanger" "lowest" "I" ∈ tblG := tg 362 (by decide +kernel) (by decide +kernel)
theorem fl_X11_321 : Cond.fieldLink RX11 321 "LateGlass$Hanger" "choices" "I" ∈ tblG := tg 360 (by decide +kernel) (by decide +kernel)
theorem fl_X11_318 : Cond.fieldLink RX11 318 "LateGlass$Hanger" "fewest" "I" ∈ tblG := tg 358 (by decide +kernel) (by decide +kernel)
