theorem dgX9_sightBy_0 : ∀ r ∈ ([(0, (.lconst 1, 1)), (1, (.iload_n 3, 1)), (2, (.lshl, 1)), (3, (.lstore 6, 2)), (5, (.iload 4, 2)), (7, (.istore 8, 2)), (9, (.iload 8, 2)), (11, (.iload 5, 2)), (13, (.if_icmp .ge 93, 3)), (16, (.iconst 0, 1)), (17, (.istore 9, 2)), (19, (.iload 9, 2)), (21, (.bipush 64, 2)), (23, (.if_icmp .ge 69, 3)), (26, (.lload 6, 2)), (28, (.iload 9, 2)), (30, (.invokestatic 43, 3)), (33, (.ifCond .eq 27, 3)), (36, (.aload_n 0, 1)), (37, (.getfield 15, 3)), (40, (.iload 8, 2)), (42, (.bipush 64, 2)), (44, (.imul, 1)), (45, (.iload 9, 2)), (47, (.iadd, 1)), (48, (.iaload, 1)), (49, (.iload_n 1, 1)), (50, (.ishr, 1)), (51, (.iconst 1, 1)), (52, (.iand, 1)), (53, (.ifCond .eq 7, 3)), (56, (.iconst 1, 1)), (57, (.goto 4, 3)), (60, (.iconst 0, 1)), (61, (.istore 10, 2)), (63, (.iload 10, 2)), (65, (.ifCond .eq 21, 3)), (68, (.aload_n 0, 1)), (69, (.getfield 23, 3)), (72, (.iload_n 2, 1))] : List (Nat × (Instr × Nat))), decode cX9_sightBy r.1 = .ok r.2 := by decide +kernel
theorem dX9_sightBy_0 : decode cX9_sightBy 0 = .ok (.lconst 1, 1) := dgX9_sightBy_0 (0, (.lconst 1, 1)) (List.mem_of_getElem? (i := 0) rfl)
theorem dX9_sightBy_1 : decode cX9_sightBy 1 = .ok (.iload_n 3, 1) := dgX9_sightBy_0 (1, (.iload_n 3, 1)) (List.mem_of_getElem? (i := 1) rfl)
theorem dX9_sightBy_2 : decode cX9_sightBy 2 = .ok (.lshl, 1) := dgX9_sightBy_0 (2, (.lshl, 1)) (List.mem_of_getElem? (i := 2) rfl)
theorem dX9_sightBy_3 : decode cX9_sightBy 3 = .ok (.lstore 6, 2) := dgX9_sightBy_0 (3, (.lstore 6, 2)) (List.mem_of_getElem? (i := 3) rfl)
theorem dX9_sightBy_5 : decode cX9_sightBy 5 = .ok (.iload 4, 2) := dgX9_sightBy_0 (5, (.iload 4, 2)) (List.mem_of_getElem? (i := 4) rfl)
theorem dX9_sightBy_7 : decode cX9_sightBy 7 = .ok (.istore 8, 2) := dgX9_sightBy_0 (7, (.istore 8, 2)) (List.mem_of_getElem? (i := 5) rfl)
theorem dX9_sightBy_9 : decode cX9_sightBy 9 = .ok (.iload 8, 2) := dgX9_sightBy_0 (9, (.iload 8, 2)) (List.mem_of_getElem? (i := 6) rfl)
theorem dX9_sightBy_11 : decode cX9_sightBy 11 = .ok (.iload 5, 2) := dgX9_sightBy_0 (11, (.iload 5, 2)) (List.mem_of_getElem? (i := 7) rfl)
theorem dX9_sightBy_13 : decode cX9_sightBy 13 = .ok (.if_icmp .ge 93, 3) := dgX9_sightBy_0 (13, (.if_icmp .ge 93, 3)) (List.mem_of_getElem? (i := 8) rfl)
theorem dX9_sightBy_16 : decode cX9_sightBy 16 = .ok (.iconst 0, 1) := dgX9_sightBy_0 (16, (.iconst 0, 1)) (List.mem_of_getElem? (i := 9) rfl)
theorem dX9_sightBy_17 : decode cX9_sightBy 17 = .ok (.istore 9, 2) := dgX9_sightBy_0 (17, (.istore 9, 2)) (List.mem_of_getElem? (i := 10) rfl)
theorem dX9_sightBy_19 : decode cX9_sightBy 19 = .ok (.iload 9, 2) := dgX9_sightBy_0 (19, (.iload 9, 2)) (List.mem_of_getElem? (i := 11) rfl)
theorem dX9_sightBy_21 : decode cX9_sightBy 21 = .ok (.bipush 64, 2) := dgX9_sightBy_0 (21, (.bipush 64, 2)) (List.mem_of_getElem? (i := 12) rfl)
theorem dX9_sightBy_23 : decode cX9_sightBy 23 = .ok (.if_icmp .ge 69, 3) := dgX9_sightBy_0 (23, (.if_icmp .ge 69, 3)) (List.mem_of_getElem? (i := 13) rfl)
theorem dX9_sightBy_26 : decode cX9_sightBy 26 = .ok (.lload 6, 2) := dgX9_sightBy_0 (26, (.lload 6, 2)) (List.mem_of_getElem? (i := 14) rfl)
theorem dX9_sightBy_28 : decode cX9_sightBy 28 = .ok (.iload 9, 2) := dgX9_sightBy_0 (28, (.iload 9, 2)) (List.mem_of_getElem? (i := 15) rfl)
theorem dX9_sightBy_30 : decode cX9_sightBy 30 = .ok (.invokestatic 43, 3) := dgX9_sightBy_0 (30, (.invokestatic 43, 3)) (List.mem_of_getElem? (i := 16) rfl)
theorem dX9_sightBy_33 : decode cX9_sightBy 33 = .ok (.ifCond .eq 27, 3) := dgX9_sightBy_0 (33, (.ifCond .eq 27, 3)) (List.mem_of_getElem? (i := 17) rfl)
theorem dX9_sightBy_36 : decode cX9_sightBy 36 = .ok (.aload_n 0, 1) := dgX9_sightBy_0 (36, (.aload_n 0, 1)) (List.mem_of_getElem? (i := 18) rfl)
theorem dX9_sightBy_37 : decode cX9_sightBy 37 = .ok (.getfield 15, 3) := dgX9_sightBy_0 (37, (.getfield 15, 3)) (List.mem_of_getElem? (i := 19) rfl)
theorem dX9_sightBy_40 : decode cX9_sightBy 40 = .ok (.iload 8, 2) := dgX9_sightBy_0 (40, (.iload 8, 2)) (List.mem_of_getElem? (i := 20) rfl)
theorem dX9_sightBy_42 : decode cX9_sightBy 42 = .ok (.bipush 64, 2) := dgX9_sightBy_0 (42, (.bipush 64, 2)) (List.mem_of_getElem? (i := 21) rfl)
theorem dX9_sightBy_44 : decode cX9_sightBy 44 = .ok (.imul, 1) := dgX9_sightBy_0 (44, (.imul, 1)) (List.mem_of_getElem? (i := 22) rfl)
theorem dX9_sightBy_45 : decode cX9_sightBy 45 = .ok (.iload 9, 2) := dgX9_sightBy_0 (45, (.iload 9, 2)) (List.mem_of_getElem? (i := 23) rfl)
theorem dX9_sightBy_47 : decode cX9_sightBy 47 = .ok (.iadd, 1) := dgX9_sightBy_0 (47, (.iadd, 1)) (List.mem_of_getElem? (i := 24) rfl)
theorem dX9_sightBy_48 : decode cX9_sightBy 48 = .ok (.iaload, 1) := dgX9_sightBy_0 (48, (.iaload, 1)) (List.mem_of_getElem? (i := 25) rfl)
theorem dX9_sightBy_49 : decode cX9_sightBy 49 = .ok (.iload_n 1, 1) := dgX9_sightBy_0 (49, (.iload_n 1, 1)) (List.mem_of_getElem? (i := 26) rfl)
theorem dX9_sightBy_50 : decode cX9_sightBy 50 = .ok (.ishr, 1) := dgX9_sightBy_0 (50, (.ishr, 1)) (List.mem_of_getElem? (i := 27) rfl)
theorem dX9_sightBy_51 : decode cX9_sightBy 51 = .ok (.iconst 1, 1) := dgX9_sightBy_0 (51, (.iconst 1, 1)) (List.mem_of_getElem? (i := 28) rfl)
theorem dX9_sightBy_52 : decode cX9_sightBy 52 = .ok (.iand, 1) := dgX9_sightBy_0 (52, (.iand, 1)) (List.mem_of_getElem? (i := 29) rfl)
theorem dX9_sightBy_53 : decode cX9_sightBy 53 = .ok (.ifCond .eq 7, 3) := dgX9_sightBy_0 (53, (.ifCond .eq 7, 3)) (List.mem_of_getElem? (i := 30) rfl)
theorem dX9_sightBy_56 : decode cX9_sightBy 56 = .ok (.iconst 1, 1) := dgX9_sightBy_0 (56, (.iconst 1, 1)) (List.mem_of_getElem? (i := 31) rfl)
theorem dX9_sightBy_57 : decode cX9_sightBy 57 = .ok (.goto 4, 3) := dgX9_sightBy_0 (57, (.goto 4, 3)) (List.mem_of_getElem? (i := 32) rfl)
theorem dX9_sightBy_60 : decode cX9_sightBy 60 = .ok (.iconst 0, 1) := dgX9_sightBy_0 (60, (.iconst 0, 1)) (List.mem_of_getElem? (i := 33) rfl)
theorem dX9_sightBy_61 : decode cX9_sightBy 61 = .ok (.istore 10, 2) := dgX9_sightBy_0 (61, (.istore 10, 2)) (List.mem_of_getElem? (i := 34) rfl)
theorem dX9_sightBy_63 : decode cX9_sightBy 63 = .ok (.iload 10, 2) := dgX9_sightBy_0 (63, (.iload 10, 2)) (List.mem_of_getElem? (i := 35) rfl)
theorem dX9_sightBy_65 : decode cX9_sightBy 65 = .ok (.ifCond .eq 21, 3) := dgX9_sightBy_0 (65, (.ifCond .eq 21, 3)) (List.mem_of_getElem? (i := 36) rfl)
theorem dX9_sightBy_68 : decode cX9_sightBy 68 = .ok (.aload_n 0, 1) := dgX9_sightBy_0 (68, (.aload_n 0, 1)) (List.mem_of_getElem? (i := 37) rfl)
theorem dX9_sightBy_69 : decode cX9_sightBy 69 = .ok (.getfield 23, 3) := dgX9_sightBy_0 (69, (.getfield 23, 3)) (List.mem_of_getElem? (i := 38) rfl)
theorem dX9_sightBy_72 : decode cX9_sightBy 72 = .ok (.iload_n 2, 1) := dgX9_sightBy_0 (72, (.iload_n 2, 1)) (List.mem_of_getElem? (i := 39) rfl)
theorem dgX9_sightBy_1 : ∀ r ∈ ([(73, (.iload 9, 2)), (75, (.iload 8, 2)), (77, (.invokevirtual 47, 3)), (80, (.ifCond .eq 6, 3)), (83, (.iload 8, 2)), (85, (.ireturn, 1)), (86, (.iinc 9 1, 3)), (89, (.goto (-70), 3)), (92, (.aload_n 0, 1)), (93, (.lload 6, 2)), (95, (.invokevirtual 56, 3)), (98, (.lstore 6, 2)), (100, (.iinc 8 1, 3)), (103, (.goto (-94), 3)), (106, (.iconst (-1), 1)), (107, (.ireturn, 1))] : List (Nat × (Instr × Nat))), decode cX9_sightBy r.1 = .ok r.2 := by decide +kernel
theorem dX9_sightBy_73 : decode cX9_sightBy 73 = .ok (.iload 9, 2) := dgX9_sightBy_1 (73, (.iload 9, 2)) (List.mem_of_getElem? (i := 0) rfl)
theorem dX9_sightBy_75 : decode cX9_sightBy 75 = .ok (.iload 8, 2) := dgX9_sightBy_1 (75, (.iload 8, 2)) (List.mem_of_getElem? (i := 1) rfl)
theorem dX9_sightBy_77 : decode cX9_sightBy 77 = .ok (.invokevirtual 47, 3) := dgX9_sightBy_1 (77, (.invokevirtual 47, 3)) (List.mem_of_getElem? (i := 2) rfl)
theorem dX9_sightBy_80 : decode cX9_sightBy 80 = .ok (.ifCond .eq 6, 3) := dgX9_sightBy_1 (80, (.ifCond .eq 6, 3)) (List.mem_of_getElem? (i := 3) rfl)
theorem dX9_sightBy_83 : decode cX9_sightBy 83 = .ok (.iload 8, 2) := dgX9_sightBy_1 (83, (.iload 8, 2)) (List.mem_of_getElem? (i := 4) rfl)
theorem dX9_sightBy_85 : decode cX9_sightBy 85 = .ok (.ireturn, 1) := dgX9_sightBy_1 (85, (.ireturn, 1)) (List.mem_of_getElem? (i := 5) rfl)
theorem dX9_sightBy_86 : decode cX9_sightBy 86 = .ok (.iinc 9 1, 3) := dgX9_sightBy_1 (86, (.iinc 9 1, 3)) (List.mem_of_getElem? (i := 6) rfl)
theorem dX9_sightBy_89 : decode cX9_sightBy 89 = .ok (.goto (-70), 3) := dgX9_sightBy_1 (89, (.goto (-70), 3)) (List.mem_of_getElem? (i := 7) rfl)
theorem dX9_sightBy_92 : decode cX9_sightBy 92 = .ok (.aload_n 0, 1) := dgX9_sightBy_1 (92, (.aload_n 0, 1)) (List.mem_of_getElem? (i := 8) rfl)
theorem dX9_sightBy_93 : decode cX9_sightBy 93 = .ok (.lload 6, 2) := dgX9_sightBy_1 (93, (.lload 6, 2)) (List.mem_of_getElem? (i := 9) rfl)
theorem dX9_sightBy_95 : decode cX9_sightBy 95 = .ok (.invokevirtual 56, 3) := dgX9_sightBy_1 (95, (.invokevirtual 56, 3)) (List.mem_of_getElem? (i := 10) rfl)
theorem dX9_sightBy_98 : decode cX9_sightBy 98 = .ok (.lstore 6, 2) := dgX9_sightBy_1 (98, (.lstore 6, 2)) (List.mem_of_getElem? (i := 11) rfl)
theorem dX9_sightBy_100 : decode cX9_sightBy 100 = .ok (.iinc 8 1, 3) := dgX9_sightBy_1 (100, (.iinc 8 1, 3)) (List.mem_of_getElem? (i := 12) rfl)
theorem dX9_sightBy_103 : decode cX9_sightBy 103 = .ok (.goto (-94), 3) := dgX9_sightBy_1 (103, (.goto (-94), 3)) (List.mem_of_getElem? (i := 13) rfl)
theorem dX9_sightBy_106 : decode cX9_sightBy 106 = .ok (.iconst (-1), 1) := dgX9_sightBy_1 (106, (.iconst (-1), 1)) (List.mem_of_getElem? (i := 14) rfl)
theorem dX9_sightBy_107 : decode cX9_sightBy 107 = .ok (.ireturn, 1) := dgX9_sightBy_1 (107, (.ireturn, 1)) (List.mem_of_getElem? (i := 15) rfl)
set_option maxHeartbeats 4000000 in
set_option maxRecDepth 100000 in
theorem a_byN (l : Launch) (G : g5_G) (a_k a_h a_g a_gn a_b a_bn a_p a_pn a_bb a_j a_as a_sk a_l a_pt a_wk a_go a_mt a_s a_w : Nat) (sz : Nat) (e_le : Int32) (e_st : Int32) (e_fo : Int32) (e_lc : Int32) (e_g : Int32) (e_b : Int32) (e_p : Int32) (e_ln : Int32) (e_se : Int32) (e_lh : Int32) (e_br : Int32) (e_we : Int32) (e_me : Int32) (e_ce : Int32) (e_wy : Int32) (e_ho : Int32) (e_ov : Int32) (p_g : Int32) (p_b : Int32) (p_c : Int32) (p_f : Int32) (p_e : Int32) (e_wa : Int64) (e_gb : Int64) (f_g : Nat → Int32) (f_b : Nat → Int32) (f_p : Nat → Int32) (f_bb : Nat → Int64) (f_as : Nat → Int32) (f_sk : Nat → Int64) (f_l : Nat → Option Nat) (f_pt : Nat → Int32) (f_go : Nat → Int64) (f_mt : Nat → Int32) (h_e_g : 0 ≤ e_g.toInt ∧ e_g.toInt ≤ 6) (h_e_b : 0 ≤ e_b.toInt ∧ e_b.toInt ≤ 5) (h_e_p : 0 ≤ e_p.toInt ∧ e_p.toInt ≤ 8) (h_e_ov : 0 ≤ e_ov.toInt ∧ e_ov.toInt ≤ 1) (h_p_c : 0 ≤ p_c.toInt ∧ p_c.toInt ≤ 63) (h_p_f : 0 ≤ p_f.toInt ∧ p_f.toInt ≤ 23) (h_p_e : 0 ≤ p_e.toInt ∧ p_e.toInt ≤ 24) (e_gk : gOK f_g e_g.toInt) (e_pk : gOK f_p e_p.toInt) (e_gi : inT e_gb f_g e_g.toInt) (e_f : e_fo.toInt < 0 ∨ e_lc.toInt ≤ e_fo.toInt) : Met l yX9_sightBy (wsG yX9_sightBy cX9_sightBy 11 (some .int)) ({ frames := 15, cells := 0, slots := 0, locals := 580 }) (va_Pc [.ref a_wk, .int p_g, .int p_b, .int p_c, .int p_f, .int p_e] (g5_P G [(a_k, (oc5 a_h a_j a_pt e_ln e_se e_lh e_br e_we e_me e_ce e_wy e_ho e_ov)), (a_h, (oc1 e_wa e_le e_st e_fo e_lc a_l a_g a_b a_s a_p a_w e_gb a_bb)), (a_g, (oc6 6 5 a_gn e_g)), (a_gn, (arI G 30 f_g)), (a_b, (oc6 5 24 a_bn e_b)), (a_bn, (arI G 120 f_b)), (a_p, (oc6 8 5 a_pn e_p)), (a_pn, (arI G 40 f_p)), (a_bb, (arJ G 24 f_bb)), (a_j, (oc2 a_as a_sk)), (a_as, (arI G 8 f_as)), (a_sk, (arJ G 50 f_sk)), (a_l, (arW G 6 f_l)), (a_pt, (arI G 200 f_pt)), (a_wk, (oc9 a_h a_k a_go a_mt)), (a_go, (arJ G 24 f_go)), (a_mt, (arI G 1536 f_mt))] sz)) (va_Qi (fun (r : Int32) (u : va_W) => (∃ (o_r : Int32) (o_ln : Int32) (o_se : Int32) (o_lh : Int32) (o_br : Int32) (o_we : Int32) (o_me : Int32) (o_ce : Int32) (o_wy : Int32) (o_ho : Int32) (o_ov : Int32) (o_pt : Nat → Int32) (o_as : Nat → Int32) (o_sk : Nat → Int64), (0 ≤ o_ov.toInt ∧ o_ov.toInt ≤ 1) ∧ (-1 ≤ o_r.toInt ∧ o_r.toInt ≤ 23) ∧ (o_r.toInt = -1 ∨ (p_f.toInt ≤ o_r.toInt ∧ o_r.toInt < p_e.toInt)) ∧ (r = o_r) ∧ (u = [(a_k, (oc5 a_h a_j a_pt o_ln o_se o_lh o_br o_we o_me o_ce o_wy o_ho o_ov)), (a_h, (oc1 e_wa e_le e_st e_fo e_lc a_l a_g a_b a_s a_p a_w e_gb a_bb)), (a_g, (oc6 6 5 a_gn e_g)), (a_gn, (arI G 30 f_g)), (a_b, (oc6 5 24 a_bn e_b)), (a_bn, (arI G 120 f_b)), (a_p, (oc6 8 5 a_pn e_p)), (a_pn, (arI G 40 f_p)), (a_bb, (arJ G 24 f_bb)), (a_j, (oc2 a_as a_sk)), (a_as, (arI G 8 o_as)), (a_sk, (arJ G 50 o_sk)), (a_l, (arW G 6 f_l)), (a_pt, (arI G 200 o_pt)), (a_wk, (oc9 a_h a_k a_go a_mt)), (a_go, (arJ G 24 f_go)), (a_mt, (arI G 1536 f_mt))]))) (g5_B G (va_A [(a_k, (oc5 a_h a_j a_pt e_ln e_se e_lh e_br e_we e_me e_ce e_wy e_ho e_ov)), (a_h, (oc1 e_wa e_le e_st e_fo e_lc a_l a_g a_b a_s a_p a_w e_gb a_bb)), (a_g, (oc6 6 5 a_gn e_g)), (a_gn, (arI G 30 f_g)), (a_b, (oc6 5 24 a_bn e_b)), (a_bn, (arI G 120 f_b)), (a_p, (oc6 8 5 a_pn e_p)), (a_pn, (arI G 40 f_p)), (a_bb, (arJ G 24 f_bb)), (a_j, (oc2 a_as a_sk)), (a_as, (arI G 8 f_as)), (a_sk, (arJ G 50 f_sk)), (a_l, (arW G 6 f_l)), (a_pt, (arI G 200 f_pt)), (a_wk, (oc9 a_h a_k a_go a_mt)), (a_go, (arJ G 24 f_go)), (a_mt, (arI G 1536 f_mt))] sz)) (va_A [(a_k, (oc5 a_h a_j a_pt e_ln e_se e_lh e_br e_we e_me e_ce e_wy e_ho e_ov)), (a_h, (oc1 e_wa e_le e_st e_fo e_lc a_l a_g a_b a_s a_p a_w e_gb a_bb)), (a_g, (oc6 6 5 a_gn e_g)), (a_gn, (arI G 30 f_g)), (a_b, (oc6 5 24 a_bn e_b)), (a_bn, (arI G 120 f_b)), (a_p, (oc6 8 5 a_pn e_p)), (a_pn, (arI G 40 f_p)), (a_bb, (arJ G 24 f_bb)), (a_j, (oc2 a_as a_sk)), (a_as, (arI G 8 f_as)), (a_sk, (arJ G 50 f_sk)), (a_l, (arW G 6 f_l)), (a_pt, (arI G 200 f_pt)), (a_wk, (oc9 a_h a_k a_go a_mt)), (a_go, (arJ G 24 f_go)), (a_mt, (arI G 1536 f_mt))] sz)) 0 0 (va_A [(a_k, (oc5 a_h a_j a_pt e_ln e_se e_lh e_br e_we e_me e_ce e_wy e_ho e_ov)), (a_h, (oc1 e_wa e_le e_st e_fo e_lc a_l a_g a_b a_s a_p a_w e_gb a_bb)), (a_g, (oc6 6 5 a_gn e_g)), (a_gn, (arI G 30 f_g)), (a_b, (oc6 5 24 a_bn e_b)), (a_bn, (arI G 120 f_b)), (a_p, (oc6 8 5 a_pn e_p)), (a_pn, (arI G 40 f_p)), (a_bb, (arJ G 24 f_bb)), (a_j, (oc2 a_as a_sk)), (a_as, (arI G 8 f_as)), (a_sk, (arJ G 50 f_sk)), (a_l, (arW G 6 f_l)), (a_pt, (arI G 200 f_pt)), (a_wk, (oc9 a_h a_k a_go a_mt)), (a_go, (arJ G 24 f_go)), (a_mt, (arI G 1536 f_mt))] sz) := by
  refine Met.ofW (cc := cX9_sightBy) (maxL := 11) (ret := (some .int)) (by decide) rfl ?_
  intro p e s m args below meth c s₁ B hml hv
  obtain ⟨rfl, hsz, hP, hK, hD0, hN, hT⟩ := hv
  have hx := B.exec
  have hb := B.bytes
  have hr := B.returns
  have hts : ∀ w ∈ tblG, w.before _ s = true := fun w h => atoms_spec (ws := (wsG yX9_sightBy cX9_sightBy 11 (some .int))) B.pre w (List.mem_cons_of_mem _ h)
  have hown : s.vm.findClass RX9 = some m.cls := findClass_of_methodNamed B.named
  have hlocks := B.notSynchronized
  subst hsz
  have hD := hD0.self (sz := s.heap.size)
  generalize hAe : va_A [(a_k, (oc5 a_h a_j a_pt e_ln e_se e_lh e_br e_we e_me e_ce e_wy e_ho e_ov)), (a_h, (oc1 e_wa e_le e_st e_fo e_lc a_l a_g a_b a_s a_p a_w e_gb a_bb)), (a_g, (oc6 6 5 a_gn e_g)), (a_gn, (arI G 30 f_g)), (a_b, (oc6 5 24 a_bn e_b)), (a_bn, (arI G 120 f_b)), (a_p, (oc6 8 5 a_pn e_p)), (a_pn, (arI G 40 f_p)), (a_bb, (arJ G 24 f_bb)), (a_j, (oc2 a_as a_sk)), (a_as, (arI G 8 f_as)), (a_sk, (arJ G 50 f_sk)), (a_l, (arW G 6 f_l)), (a_pt, (arI G 200 f_pt)), (a_wk, (oc9 a_h a_k a_go a_mt)), (a_go, (arJ G 24 f_go)), (a_mt, (arI G 1536 f_mt))] s.heap.size = A at hD hT ⊢
  have hA : ∀ q : Nat, s.heap.size ≤ q → A q := fun q h => by rw [← hAe]; exact Or.inr h
  have hS : va_S A s.heap s.heap [] := va_S.rf
  have hP : va_P G.1 vwCl [(a_k, (oc5 a_h a_j a_pt e_ln e_se e_lh e_br e_we e_me e_ce e_wy e_ho e_ov)), (a_h, (oc1 e_wa e_le e_st e_fo e_lc a_l a_g a_b a_s a_p a_w e_gb a_bb)), (a_g, (oc6 6 5 a_gn e_g)), (a_gn, (arI G 30 f_g)), (a_b, (oc6 5 24 a_bn e_b)), (a_bn, (arI G 120 f_b)), (a_p, (oc6 8 5 a_pn e_p)), (a_pn, (arI G 40 f_p)), (a_bb, (arJ G 24 f_bb)), (a_j, (oc2 a_as a_sk)), (a_as, (arI G 8 f_as)), (a_sk, (arJ G 50 f_sk)), (a_l, (arW G 6 f_l)), (a_pt, (arI G 200 f_pt)), (a_wk, (oc9 a_h a_k a_go a_mt)), (a_go, (arJ G 24 f_go)), (a_mt, (arI G 1536 f_mt))] s.heap := hP
  have hl := lv_entry ([.ref a_wk, .int p_g, .int p_b, .int p_c, .int p_f, .int p_e]) (n := 11) (Nat.le_of_ble_eq_true rfl)
  rw [lg_entry_eq]
  generalize (lg_sl ([.ref a_wk, .int p_g, .int p_b, .int p_c, .int p_f, .int p_e]) ++ List.replicate (11 - (lg_sl ([.ref a_wk, .int p_g, .int p_b, .int p_c, .int p_f, .int p_e])).length) Slot.unset).toArray = ls at hl ⊢
  have hl : lv_has ls 11 [(0, .ref a_wk), (1, .int p_g), (2, .int p_b), (3, .int p_c), (4, .int p_f), (5, .int p_e)] := hl
  refine lv_lconst (v := 1) hx hb dX9_sightBy_0 (by decide) ?_
  refine lv_iload_n hx hb dX9_sightBy_1 rfl (lv_at hl 3 rfl) ?_
  refine lv_lshl (v := ((1 : Int64) <<< (p_c.toInt64 &&& 63))) hx hb dX9_sightBy_2 rfl ?_
  refine lv_lstore (lv' := [(6, .long ((1 : Int64) <<< (p_c.toInt64 &&& 63))), (0, .ref a_wk), (1, .int p_g), (2, .int p_b), (3, .int p_c), (4, .int p_f), (5, .int p_e)]) hx hb dX9_sightBy_3 hl (by decide) rfl (fun ls hl => ?_)
  refine lv_iload hx hb dX9_sightBy_5 (lv_at hl 5 rfl) ?_
  refine lv_istore (lv' := [(8, .int p_f), (6, .long ((1 : Int64) <<< (p_c.toInt64 &&& 63))), (0, .ref a_wk), (1, .int p_g), (2, .int p_b), (3, .int p_c), (4, .int p_f), (5, .int p_e)]) hx hb dX9_sightBy_7 hl (by decide) rfl (fun ls hl => ?_)
  refine g5_loop (α := (Int64) × (Int32) × (Int32) × (Int32) × (Int32) × (Int32) × (Int32) × (Int32) × (Int32) × (Int32) × (Int32) × (Nat → Int32) × (Nat → Int32) × (Nat → Int64) × (Int32)) (fun (q : (Int64) × (Int32) × (Int32) × (Int32) × (Int32) × (Int32) × (Int32) × (Int32) × (Int32) × (Int32) × (Int32) × (Nat → Int32) × (Nat → Int32) × (Nat → Int64) × (Int32)) (ls : Array Slot) (H : Heap) (locs : List Loc) => match q with | (k_x, k_h, k_se, k_lh, k_br, k_we, k_me, k_ce, k_wy, k_ho, k_ov, k_pt, k_as, k_sk, k_ln) => lv_has ls 11 [(6, .long k_x), (8, .int k_h), (0, .ref a_wk), (1, .int p_g), (2, .int p_b), (3, .int p_c), (4, .int p_f), (5, .int p_e)] ∧ va_P G.1 vwCl [(a_k, (oc5 a_h a_j a_pt k_ln k_se k_lh k_br k_we k_me k_ce k_wy k_ho k_ov)), (a_h, (oc1 e_wa e_le e_st e_fo e_lc a_l a_g a_b a_s a_p a_w e_gb a_bb)), (a_g, (oc6 6 5 a_gn e_g)), (a_gn, (arI G 30 f_g)), (a_b, (oc6 5 24 a_bn e_b)), (a_bn, (arI G 120 f_b)), (a_p, (oc6 8 5 a_pn e_p)), (a_pn, (arI G 40 f_p)), (a_bb, (arJ G 24 f_bb)), (a_j, (oc2 a_as a_sk)), (a_as, (arI G 8 k_as)), (a_sk, (arJ G 50 k_sk)), (a_l, (arW G 6 f_l)), (a_pt, (arI G 200 k_pt)), (a_wk, (oc9 a_h a_k a_go a_mt)), (a_go, (arJ G 24 f_go)), (a_mt, (arI G 1536 f_mt))] H ∧ va_D A [(a_k, (oc5 a_h a_j a_pt k_ln k_se k_lh k_br k_we k_me k_ce k_wy k_ho k_ov)), (a_h, (oc1 e_wa e_le e_st e_fo e_lc a_l a_g a_b a_s a_p a_w e_gb a_bb)), (a_g, (oc6 6 5 a_gn e_g)), (a_gn, (arI G 30 f_g)), (a_b, (oc6 5 24 a_bn e_b)), (a_bn, (arI G 120 f_b)), (a_p, (oc6 8 5 a_pn e_p)), (a_pn, (arI G 40 f_p)), (a_bb, (arJ G 24 f_bb)), (a_j, (oc2 a_as a_sk)), (a_as, (arI G 8 k_as)), (a_sk, (arJ G 50 k_sk)), (a_l, (arW G 6 f_l)), (a_pt, (arI G 200 k_pt)), (a_wk, (oc9 a_h a_k a_go a_mt)), (a_go, (arJ G 24 f_go)), (a_mt, (arI G 1536 f_mt))] ∧ va_S A s.heap H locs ∧ (0 ≤ k_h.toInt ∧ k_h.toInt ≤ 24) ∧ (0 ≤ k_ov.toInt ∧ k_ov.toInt ≤ 1) ∧ (p_f.toInt ≤ k_h.toInt)) (fun (q : (Int64) × (Int32) × (Int32) × (Int32) × (Int32) × (Int32) × (Int32) × (Int32) × (Int32) × (Int32) × (Int32) × (Nat → Int32) × (Nat → Int32) × (Nat → Int64) × (Int32)) => match q with | (k_x, k_h, k_se, k_lh, k_br, k_we, k_me, k_ce, k_wy, k_ho, k_ov, k_pt, k_as, k_sk, k_ln) => Int.toNat (24 - k_h.toInt)) (((1 : Int64) <<< (p_c.toInt64 &&& 63)), p_f, e_se, e_lh, e_br, e_we, e_me, e_ce, e_wy, e_ho, e_ov, f_pt, f_as, f_sk, e_ln) ⟨lv_sub hl [1, 0, 2, 3, 4, 5, 6, 7] rfl, hP, hD, hS, ⟨by omega, by omega⟩, h_e_ov, by omega⟩ ?_
  rintro ⟨k_x, k_h, k_se, k_lh, k_br, k_we, k_me, k_ce, k_wy, k_ho, k_ov, k_pt, k_as, k_sk, k_ln⟩ ls H locs ⟨hl, hP, hD, hS, i_1, i_2, i_3⟩ ih_9_4
  have hl : lv_has ls 11 [(6, .long k_x), (8, .int k_h), (0, .ref a_wk), (1, .int p_g), (2, .int p_b), (3, .int p_c), (4, .int p_f), (5, .int p_e)] := hl
  have i_1 : 0 ≤ k_h.toInt ∧ k_h.toInt ≤ 24 := i_1
  have i_2 : 0 ≤ k_ov.toInt ∧ k_ov.toInt ≤ 1 := i_2
  have i_3 : p_f.toInt ≤ k_h.toInt := i_3
  refine g5_rs [(a_k, (oc5 a_h a_j a_pt k_ln k_se k_lh k_br k_we k_me k_ce k_wy k_ho k_ov)), (a_h, (oc1 e_wa e_le e_st e_fo e_lc a_l a_g a_b a_s a_p a_w e_gb a_bb)), (a_g, (oc6 6 5 a_gn e_g)), (a_gn, (arI G 30 f_g)), (a_b, (oc6 5 24 a_bn e_b)), (a_bn, (arI G 120 f_b)), (a_p, (oc6 8 5 a_pn e_p)), (a_pn, (arI G 40 f_p)), (a_bb, (arJ G 24 f_bb)), (a_j, (oc2 a_as a_sk)), (a_as, (arI G 8 k_as)), (a_sk, (arJ G 50 k_sk)), (a_l, (arW G 6 f_l)), (a_pt, (arI G 200 k_pt)), (a_wk, (oc9 a_h a_k a_go a_mt)), (a_go, (arJ G 24 f_go)), (a_mt, (arI G 1536 f_mt))] hP hD (fun hP hD => ?_)
  refine lv_iload hx hb dX9_sightBy_9 (lv_at hl 1 rfl) ?_
  refine lv_iload hx hb dX9_sightBy_11 (lv_at hl 7 rfl) ?_
  refine lv_icmp_ge (tgt := 106) hx hb dX9_sightBy_13 (by decide) (fun c_5 => ?_) (fun c_5 => ?_)
  ·
    have i_5 : k_h.toInt ≥ p_e.toInt := by have z := g5_ge (a := k_h.toInt) (b := p_e.toInt) (by rfl) (by rfl) c_5; omega
    refine lv_iconst (v := (-1)) hx hb dX9_sightBy_106 (by decide) ?_
    exact W.iret (v := (-1)) hx hb hr (fun t ht hW => ⟨⟨(-1), [(a_k, (oc5 a_h a_j a_pt k_ln k_se k_lh k_br k_we k_me k_ce k_wy k_ho k_ov)), (a_h, (oc1 e_wa e_le e_st e_fo e_lc a_l a_g a_b a_s a_p a_w e_gb a_bb)), (a_g, (oc6 6 5 a_gn e_g)), (a_gn, (arI G 30 f_g)), (a_b, (oc6 5 24 a_bn e_b)), (a_bn, (arI G 120 f_b)), (a_p, (oc6 8 5 a_pn e_p)), (a_pn, (arI G 40 f_p)), (a_bb, (arJ G 24 f_bb)), (a_j, (oc2 a_as a_sk)), (a_as, (arI G 8 k_as)), (a_sk, (arJ G 50 k_sk)), (a_l, (arW G 6 f_l)), (a_pt, (arI G 200 k_pt)), (a_wk, (oc9 a_h a_k a_go a_mt)), (a_go, (arJ G 24 f_go)), (a_mt, (arI G 1536 f_mt))], rfl, ⟨(-1), k_ln, k_se, k_lh, k_br, k_we, k_me, k_ce, k_wy, k_ho, k_ov, k_pt, k_as, k_sk, i_2, ⟨by have zc_o_r : ((-1) : Int32).toInt = (-1) := (by decide); omega, by have zc_o_r : ((-1) : Int32).toInt = (-1) := (by decide); omega⟩, Or.inl (by decide), rfl, rfl⟩, by rw [ht]; exact hP.sub [0, 1, 2, 3, 4, 5, 6, 7, 8, 9, 10, 11, 12, 13, 14, 15, 16] rfl, hD.sub [0, 1, 2, 3, 4, 5, 6, 7, 8, 9, 10, 11, 12, 13, 14, 15, 16] (by decide) rfl⟩, hS.F ht⟩) hS.2.2 dX9_sightBy_107
  ·
    have i_5 : k_h.toInt < p_e.toInt := by have z := g5_geN (a := k_h.toInt) (b := p_e.toInt) (by rfl) (by rfl) c_5; omega
    refine lv_iconst (v := 0) hx hb dX9_sightBy_16 (by decide) ?_
    refine lv_istore (lv' := [(9, .int 0), (6, .long k_x), (8, .int k_h), (0, .ref a_wk), (1, .int p_g), (2, .int p_b), (3, .int p_c), (4, .int p_f), (5, .int p_e)]) hx hb dX9_sightBy_17 hl (by decide) rfl (fun ls hl => ?_)
    refine g5_loop (α := (Int32) × (Int32) × (Int32) × (Int32) × (Int32) × (Int32) × (Int32) × (Int32) × (Int32) × (Int32) × (Nat → Int32) × (Nat → Int32) × (Nat → Int64) × (Int32)) (fun (q : (Int32) × (Int32) × (Int32) × (Int32) × (Int32) × (Int32) × (Int32) × (Int32) × (Int32) × (Int32) × (Nat → Int32) × (Nat → Int32) × (Nat → Int64) × (Int32)) (ls : Array Slot) (H : Heap) (locs : List Loc) => match q with | (m_i, m_se, m_lh, m_br, m_we, m_me, m_ce, m_wy, m_ho, m_ov, m_pt, m_as, m_sk, m_ln) => lv_has ls 11 [(9, .int m_i), (6, .long k_x), (8, .int k_h), (0, .ref a_wk), (1, .int p_g), (2, .int p_b), (3, .int p_c), (4, .int p_f), (5, .int p_e)] ∧ va_P G.1 vwCl [(a_k, (oc5 a_h a_j a_pt m_ln m_se m_lh m_br m_we m_me m_ce m_wy m_ho m_ov)), (a_h, (oc1 e_wa e_le e_st e_fo e_lc a_l a_g a_b a_s a_p a_w e_gb a_bb)), (a_g, (oc6 6 5 a_gn e_g)), (a_gn, (arI G 30 f_g)), (a_b, (oc6 5 24 a_bn e_b)), (a_bn, (arI G 120 f_b)), (a_p, (oc6 8 5 a_pn e_p)), (a_pn, (arI G 40 f_p)), (a_bb, (arJ G 24 f_bb)), (a_j, (oc2 a_as a_sk)), (a_as, (arI G 8 m_as)), (a_sk, (arJ G 50 m_sk)), (a_l, (arW G 6 f_l)), (a_pt, (arI G 200 m_pt)), (a_wk, (oc9 a_h a_k a_go a_mt)), (a_go, (arJ G 24 f_go)), (a_mt, (arI G 1536 f_mt))] H ∧ va_D A [(a_k, (oc5 a_h a_j a_pt m_ln m_se m_lh m_br m_we m_me m_ce m_wy m_ho m_ov)), (a_h, (oc1 e_wa e_le e_st e_fo e_lc a_l a_g a_b a_s a_p a_w e_gb a_bb)), (a_g, (oc6 6 5 a_gn e_g)), (a_gn, (arI G 30 f_g)), (a_b, (oc6 5 24 a_bn e_b)), (a_bn, (arI G 120 f_b)), (a_p, (oc6 8 5 a_pn e_p)), (a_pn, (arI G 40 f_p)), (a_bb, (arJ G 24 f_bb)), (a_j, (oc2 a_as a_sk)), (a_as, (arI G 8 m_as)), (a_sk, (arJ G 50 m_sk)), (a_l, (arW G 6 f_l)), (a_pt, (arI G 200 m_pt)), (a_wk, (oc9 a_h a_k a_go a_mt)), (a_go, (arJ G 24 f_go)), (a_mt, (arI G 1536 f_mt))] ∧ va_S A s.heap H locs ∧ (0 ≤ m_i.toInt ∧ m_i.toInt ≤ 64) ∧ (0 ≤ m_ov.toInt ∧ m_ov.toInt ≤ 1)) (fun (q : (Int32) × (Int32) × (Int32) × (Int32) × (Int32) × (Int32) × (Int32) × (Int32) × (Int32) × (Int32) × (Nat → Int32) × (Nat → Int32) × (Nat → Int64) × (Int32)) => match q with | (m_i, m_se, m_lh, m_br, m_we, m_me, m_ce, m_wy, m_ho, m_ov, m_pt, m_as, m_sk, m_ln) => Int.toNat (64 - m_i.toInt)) (0, k_se, k_lh, k_br, k_we, k_me, k_ce, k_wy, k_ho, k_ov, k_pt, k_as, k_sk, k_ln) ⟨lv_sub hl [0, 1, 2, 3, 4, 5, 6, 7, 8] rfl, hP, hD, hS, ⟨by decide, by decide⟩, i_2⟩ ?_
    rintro ⟨m_i, m_se, m_lh, m_br, m_we, m_me, m_ce, m_wy, m_ho, m_ov, m_pt, m_as, m_sk, m_ln⟩ ls H locs ⟨hl, hP, hD, hS, i_6, i_7⟩ ih_19_8
    have hl : lv_has ls 11 [(9, .int m_i), (6, .long k_x), (8, .int k_h), (0, .ref a_wk), (1, .int p_g), (2, .int p_b), (3, .int p_c), (4, .int p_f), (5, .int p_e)] := hl
    have i_6 : 0 ≤ m_i.toInt ∧ m_i.toInt ≤ 64 := i_6
    have i_7 : 0 ≤ m_ov.toInt ∧ m_ov.toInt ≤ 1 := i_7
    refine g5_rs [(a_k, (oc5 a_h a_j a_pt m_ln m_se m_lh m_br m_we m_me m_ce m_wy m_ho m_ov)), (a_h, (oc1 e_wa e_le e_st e_fo e_lc a_l a_g a_b a_s a_p a_w e_gb a_bb)), (a_g, (oc6 6 5 a_gn e_g)), (a_gn, (arI G 30 f_g)), (a_b, (oc6 5 24 a_bn e_b)), (a_bn, (arI G 120 f_b)), (a_p, (oc6 8 5 a_pn e_p)), (a_pn, (arI G 40 f_p)), (a_bb, (arJ G 24 f_bb)), (a_j, (oc2 a_as a_sk)), (a_as, (arI G 8 m_as)), (a_sk, (arJ G 50 m_sk)), (a_l, (arW G 6 f_l)), (a_pt, (arI G 200 m_pt)), (a_wk, (oc9 a_h a_k a_go a_mt)), (a_go, (arJ G 24 f_go)), (a_mt, (arI G 1536 f_mt))] hP hD (fun hP hD => ?_)
    refine lv_iload hx hb dX9_sightBy_19 (lv_at hl 0 rfl) ?_
    refine lv_bipush (v := 64) hx hb dX9_sightBy_21 (by decide) ?_
    refine lv_icmp_ge (tgt := 92) hx hb dX9_sightBy_23 (by decide) (fun c_9 => ?_) (fun c_9 => ?_)
    ·
      have i_9 : m_i.toInt ≥ 64 := by have z := g5_ge (a := m_i.toInt) (b := 64) (by rfl) (by decide) c_9; omega
      refine lv_aload_n hx hb dX9_sightBy_92 rfl (lv_at hl 3 rfl) ?_
      refine lv_lload hx hb dX9_sightBy_93 (lv_at hl 1 rfl) ?_
      obtain ⟨hPc, hDc, hFc⟩ := g5_sub3 (wc := [(a_h, (oc1 e_wa e_le e_st e_fo e_lc a_l a_g a_b a_s a_p a_w e_gb a_bb)), (a_wk, (oc9 a_h a_k a_go a_mt))]) hP hD hS hA [1, 14] (by decide) rfl
      refine va_calll (va_runV (As := [.long k_x]) (rest := []) ⟨hx, hb, hml, hown, hts⟩ (a_spread l G a_h a_wk a_l a_g a_b a_s a_p a_w a_bb a_k a_go a_mt H.size e_le e_st e_fo e_lc e_wa e_gb k_x) (cwV 1 hts gV_X9_56 rfl rfl rfl hv_X9_spread ⟨Nat.le_of_ble_eq_true rfl, Nat.le_of_ble_eq_true rfl⟩) (g5_preV hPc hK hDc hN hT hS hFc (ci := 9) (q0 := 1) rfl rfl) rfl rfl hl.1 rfl (lv_room (Nat.le_of_ble_eq_true rfl)) dX9_sightBy_95 ⟨Nat.le_of_ble_eq_true rfl, Nat.le_of_ble_eq_true rfl⟩) hS (fun q _ h => hFc q h) hFc (fun r u t H1 locs ht hvm hw hB hz1 hk1 hS => ?_)
      obtain ⟨hP1, hD1⟩ := hB
      rw [ht] at hP1
      obtain ⟨z10, y11, rfl⟩ := hw
      obtain ⟨hP, hD⟩ := va_join (wr := [(a_k, (oc5 a_h a_j a_pt m_ln m_se m_lh m_br m_we m_me m_ce m_wy m_ho m_ov)), (a_g, (oc6 6 5 a_gn e_g)), (a_gn, (arI G 30 f_g)), (a_b, (oc6 5 24 a_bn e_b)), (a_bn, (arI G 120 f_b)), (a_p, (oc6 8 5 a_pn e_p)), (a_pn, (arI G 40 f_p)), (a_bb, (arJ G 24 f_bb)), (a_j, (oc2 a_as a_sk)), (a_as, (arI G 8 m_as)), (a_sk, (arJ G 50 m_sk)), (a_l, (arW G 6 f_l)), (a_pt, (arI G 200 m_pt)), (a_go, (arJ G 24 f_go)), (a_mt, (arI G 1536 f_mt))]) hP hD [1, 14] [0, 2, 3, 4, 5, 6, 7, 8, 9, 10, 11, 12, 13, 15, 16] rfl rfl (by decide) (by decide) hk1 hFc hP1 hD1
      generalize H1 = H at hP hS ⊢
      refine g5_rs [(a_k, (oc5 a_h a_j a_pt m_ln m_se m_lh m_br m_we m_me m_ce m_wy m_ho m_ov)), (a_g, (oc6 6 5 a_gn e_g)), (a_gn, (arI G 30 f_g)), (a_b, (oc6 5 24 a_bn e_b)), (a_bn, (arI G 120 f_b)), (a_p, (oc6 8 5 a_pn e_p)), (a_pn, (arI G 40 f_p)), (a_bb, (arJ G 24 f_bb)), (a_j, (oc2 a_as a_sk)), (a_as, (arI G 8 m_as)), (a_sk, (arJ G 50 m_sk)), (a_l, (arW G 6 f_l)), (a_pt, (arI G 200 m_pt)), (a_go, (arJ G 24 f_go)), (a_mt, (arI G 1536 f_mt)), (a_h, (oc1 e_wa e_le e_st e_fo e_lc a_l a_g a_b a_s a_p a_w e_gb a_bb)), (a_wk, (oc9 a_h a_k a_go a_mt))] hP hD (fun hP hD => ?_)
      refine g5_tl (v := z10) y11 ?_
      refine lv_lstore (lv' := [(6, .long z10), (9, .int m_i), (8, .int k_h), (0, .ref a_wk), (1, .int p_g), (2, .int p_b), (3, .int p_c), (4, .int p_f), (5, .int p_e)]) hx hb dX9_sightBy_98 hl (by decide) rfl (fun ls hl => ?_)
      refine lv_iinc (v := (k_h + 1)) (lv' := [(8, .int (k_h + 1)), (6, .long z10), (9, .int m_i), (0, .ref a_wk), (1, .int p_g), (2, .int p_b), (3, .int p_c), (4, .int p_f), (5, .int p_e)]) hx hb dX9_sightBy_100 hl (k := 2) rfl rfl (by decide) rfl (fun ls hl => ?_)
      have t_12 : (k_h + 1).toInt = k_h.toInt + 1 := g5_iadd (a := k_h.toInt) (b := 1) rfl (by decide) (by omega) (by omega)
      refine lv_goto (tgt := 9) hx hb dX9_sightBy_103 (by decide) ?_
      exact ih_9_4 (z10, (k_h + 1), m_se, m_lh, m_br, m_we, m_me, m_ce, m_wy, m_ho, m_ov, m_pt, m_as, m_sk, m_ln) ls H locs (show Int.toNat (24 - (k_h + 1).toInt) < Int.toNat (24 - k_h.toInt) from g_up (show k_h.toInt < (k_h + 1).toInt by omega) (show k_h.toInt < 24 by omega)) ⟨lv_sub hl [1, 0, 3, 4, 5, 6, 7, 8] rfl, hP.sub [0, 15, 1, 2, 3, 4, 5, 6, 7, 8, 9, 10, 11, 12, 16, 13, 14] rfl, hD.sub [0, 15, 1, 2, 3, 4, 5, 6, 7, 8, 9, 10, 11, 12, 16, 13, 14] (by decide) rfl, hS, ⟨by omega, by omega⟩, i_7, by omega⟩
    ·
      have i_9 : m_i.toInt < 64 := by have z := g5_geN (a := m_i.toInt) (b := 64) (by rfl) (by decide) c_9; omega
      refine lv_lload hx hb dX9_sightBy_26 (lv_at hl 1 rfl) ?_
      refine lv_iload hx hb dX9_sightBy_28 (lv_at hl 0 rfl) ?_
      obtain ⟨hPc, hDc, hFc⟩ := g5_sub3 (wc := []) hP hD hS hA [] (by decide) rfl
      refine va_calli (va_runSN (As := [.long k_x, .int m_i]) (rest := []) ⟨hx, hb, hml, hown, hts⟩ (k_isOn l G H.size m_i k_x ⟨by omega, by omega⟩) ⟨va_cnB 2 hts gW_X11_isOn rfl rfl rfl (hN.1 _ g5_nw_X9_43) (hts _ ini_X11) hs_X11_isOn ⟨Nat.le_of_ble_eq_true rfl, Nat.le_of_ble_eq_true rfl⟩, hts _ st_X11_isOn, trivial⟩ (g5_preS hPc hK hDc hN hT hS hFc) rfl rfl hl.1 rfl (lv_room (Nat.le_of_ble_eq_true rfl)) dX9_sightBy_30 ⟨Nat.le_of_ble_eq_true rfl, Nat.le_of_ble_eq_true rfl⟩) hS (fun q _ h => hFc q h) hFc (fun r u t H1 locs ht hvm hw hB hz1 hk1 hS => ?_)
      obtain ⟨hP1, hD1⟩ := hB
      rw [ht] at hP1
      rcases hw with ⟨i_13, rfl, rfl⟩ | ⟨i_14, rfl, rfl⟩
      ·
        have i_13 : onB k_x m_i.toInt = false := i_13
        have hP := g5_same hP hk1
        generalize H1 = H at hP hS ⊢
        refine lv_if_eq (tgt := 60) hx hb dX9_sightBy_33 (by decide) (fun c_15 => ?_) (fun c_15 => ?_)
        ·
          refine lv_iconst (v := 0) hx hb dX9_sightBy_60 (by decide) ?_
          refine lv_istore (lv' := [(10, .int 0), (9, .int m_i), (6, .long k_x), (8, .int k_h), (0, .ref a_wk), (1, .int p_g), (2, .int p_b), (3, .int p_c), (4, .int p_f), (5, .int p_e)]) hx hb dX9_sightBy_61 hl (by decide) rfl (fun ls hl => ?_)
          refine lv_iload hx hb dX9_sightBy_63 (lv_at hl 0 rfl) ?_
          refine lv_if_eq (tgt := 86) hx hb dX9_sightBy_65 (by decide) (fun c_16 => ?_) (fun c_16 => ?_)
          ·
            refine lv_iinc (v := (m_i + 1)) (lv' := [(9, .int (m_i + 1)), (10, .int 0), (6, .long k_x), (8, .int k_h), (0, .ref a_wk), (1, .int p_g), (2, .int p_b), (3, .int p_c), (4, .int p_f), (5, .int p_e)]) hx hb dX9_sightBy_86 hl (k := 1) rfl rfl (by decide) rfl (fun ls hl => ?_)
            have t_17 : (m_i + 1).toInt = m_i.toInt + 1 := g5_iadd (a := m_i.toInt) (b := 1) rfl (by decide) (by omega) (by omega)
            refine lv_goto (tgt := 19) hx hb dX9_sightBy_89 (by decide) ?_
            exact ih_19_8 ((m_i + 1), m_se, m_lh, m_br, m_we, m_me, m_ce, m_wy, m_ho, m_ov, m_pt, m_as, m_sk, m_ln) ls H locs (show Int.toNat (64 - (m_i + 1).toInt) < Int.toNat (64 - m_i.toInt) from g_up (show m_i.toInt < (m_i + 1).toInt by omega) (show m_i.toInt < 64 by omega)) ⟨lv_sub hl [0, 2, 3, 4, 5, 6, 7, 8, 9] rfl, hP, hD, hS, ⟨by omega, by omega⟩, i_7⟩
          ·
            exact absurd c_16 (by decide)
        ·
          exact absurd c_15 (by decide)
      ·
        have i_14 : onB k_x m_i.toInt = true := i_14
        have hP := g5_same hP hk1
        generalize H1 = H at hP hS ⊢
        refine lv_if_eq (tgt := 60) hx hb dX9_sightBy_33 (by decide) (fun c_18 => ?_) (fun c_18 => ?_)
        ·
          exact absurd c_18 (by decide)
        ·
          refine lv_aload_n hx hb dX9_sightBy_36 rfl (lv_at hl 3 rfl) ?_
          refine va_get (D := G.1) (ci := 9) (v := .ref a_mt) (C := RX9) (T := TX9) (N := 4) hx hb hts inG_X9 hown hK hP 14 rfl rfl 3 (by decide) (hts _ fl_X9_15) (fun _ h9 => h9) rfl dX9_sightBy_37 ?_
          refine lv_iload hx hb dX9_sightBy_40 (lv_at hl 2 rfl) ?_
          refine lv_bipush (v := 64) hx hb dX9_sightBy_42 (by decide) ?_
          refine lv_imul hx hb dX9_sightBy_44 ?_
          have t_19 : (k_h * 64).toInt = k_h.toInt * 64 := g5_imul (a := k_h.toInt) (b := 64) (by rfl) (by decide) (by omega) (by omega)
          refine lv_iload hx hb dX9_sightBy_45 (lv_at hl 0 rfl) ?_
          refine lv_iadd hx hb dX9_sightBy_47 ?_
          have t_20 : ((k_h * 64) + m_i).toInt = (k_h * 64).toInt + m_i.toInt := g5_iadd (a := (k_h * 64).toInt) (b := m_i.toInt) (by rfl) (by rfl) (by omega) (by omega)
          refine va_iald hx hb hK hP 16 0 rfl rfl (i := ((k_h * 64) + m_i)) (vp_in_iff.mpr ⟨by omega, by omega⟩) dX9_sightBy_48 ?_
          refine lv_iload_n hx hb dX9_sightBy_49 rfl (lv_at hl 4 rfl) ?_
          refine lv_ishr hx hb dX9_sightBy_50 ?_
          refine lv_iconst (v := 1) hx hb dX9_sightBy_51 (by decide) ?_
          refine lv_iand hx hb dX9_sightBy_52 ?_
          refine lv_if_eq (tgt := 60) hx hb dX9_sightBy_53 (by decide) (fun c_21 => ?_) (fun c_21 => ?_)
          ·
            have i_21 : (((f_mt ((k_h * 64) + m_i).toNatClampNeg) >>> (p_g &&& 31)) &&& 1).toInt = 0 := by have z := g5_eq (a := (((f_mt ((k_h * 64) + m_i).toNatClampNeg) >>> (p_g &&& 31)) &&& 1).toInt) (b := 0) (by rfl) (by decide) c_21; omega
            refine lv_iconst (v := 0) hx hb dX9_sightBy_60 (by decide) ?_
            refine lv_istore (lv' := [(10, .int 0), (9, .int m_i), (6, .long k_x), (8, .int k_h), (0, .ref a_wk), (1, .int p_g), (2, .int p_b), (3, .int p_c), (4, .int p_f), (5, .int p_e)]) hx hb dX9_sightBy_61 hl (by decide) rfl (fun ls hl => ?_)
            refine lv_iload hx hb dX9_sightBy_63 (lv_at hl 0 rfl) ?_
            refine lv_if_eq (tgt := 86) hx hb dX9_sightBy_65 (by decide) (fun c_22 => ?_) (fun c_22 => ?_)
            ·
              refine lv_iinc (v := (m_i + 1)) (lv' := [(9, .int (m_i + 1)), (10, .int 0), (6, .long k_x), (8, .int k_h), (0, .ref a_wk), (1, .int p_g), (2, .int p_b), (3, .int p_c), (4, .int p_f), (5, .int p_e)]) hx hb dX9_sightBy_86 hl (k := 1) rfl rfl (by decide) rfl (fun ls hl => ?_)
              have t_23 : (m_i + 1).toInt = m_i.toInt + 1 := g5_iadd (a := m_i.toInt) (b := 1) rfl (by decide) (by omega) (by omega)
              refine lv_goto (tgt := 19) hx hb dX9_sightBy_89 (by decide) ?_
              exact ih_19_8 ((m_i + 1), m_se, m_lh, m_br, m_we, m_me, m_ce, m_wy, m_ho, m_ov, m_pt, m_as, m_sk, m_ln) ls H locs (show Int.toNat (64 - (m_i + 1).toInt) < Int.toNat (64 - m_i.toInt) from g_up (show m_i.toInt < (m_i + 1).toInt by omega) (show m_i.toInt < 64 by omega)) ⟨lv_sub hl [0, 2, 3, 4, 5, 6, 7, 8, 9] rfl, hP, hD, hS, ⟨by omega, by omega⟩, i_7⟩
            ·
              exact absurd c_22 (by decide)
          ·
            have n_21 : gNe ((((f_mt ((k_h * 64) + m_i).toNatClampNeg) >>> (p_g &&& 31)) &&& 1).toInt) (0) := by have z := g5_eqN (a := (((f_mt ((k_h * 64) + m_i).toNatClampNeg) >>> (p_g &&& 31)) &&& 1).toInt) (b := 0) (by rfl) (by decide) c_21; unfold gNe; omega
            refine lv_iconst (v := 1) hx hb dX9_sightBy_56 (by decide) ?_
            refine lv_goto (tgt := 61) hx hb dX9_sightBy_57 (by decide) ?_
            refine lv_istore (lv' := [(10, .int 1), (9, .int m_i), (6, .long k_x), (8, .int k_h), (0, .ref a_wk), (1, .int p_g), (2, .int p_b), (3, .int p_c), (4, .int p_f), (5, .int p_e)]) hx hb dX9_sightBy_61 hl (by decide) rfl (fun ls hl => ?_)
            refine lv_iload hx hb dX9_sightBy_63 (lv_at hl 0 rfl) ?_
            refine lv_if_eq (tgt := 86) hx hb dX9_sightBy_65 (by decide) (fun c_24 => ?_) (fun c_24 => ?_)
            ·
              exact absurd c_24 (by decide)
            ·
              refine lv_aload_n hx hb dX9_sightBy_68 rfl (lv_at hl 4 rfl) ?_
              refine va_get (D := G.1) (ci := 9) (v := .ref a_k) (C := RX9) (T := TX9) (N := 4) hx hb hts inG_X9 hown hK hP 14 rfl rfl 1 (by decide) (hts _ fl_X9_23) (fun _ h9 => h9) rfl dX9_sightBy_69 ?_
              refine lv_iload_n hx hb dX9_sightBy_72 rfl (lv_at hl 6 rfl) ?_
              refine lv_iload hx hb dX9_sightBy_73 (lv_at hl 1 rfl) ?_
              refine lv_iload hx hb dX9_sightBy_75 (lv_at hl 3 rfl) ?_
              obtain ⟨hPc, hDc, hFc⟩ := g5_sub3 (wc := [(a_k, (oc5 a_h a_j a_pt m_ln m_se m_lh m_br m_we m_me m_ce m_wy m_ho m_ov)), (a_h, (oc1 e_wa e_le e_st e_fo e_lc a_l a_g a_b a_s a_p a_w e_gb a_bb)), (a_g, (oc6 6 5 a_gn e_g)), (a_gn, (arI G 30 f_g)), (a_b, (oc6 5 24 a_bn e_b)), (a_bn, (arI G 120 f_b)), (a_p, (oc6 8 5 a_pn e_p)), (a_pn, (arI G 40 f_p)), (a_bb, (arJ G 24 f_bb)), (a_j, (oc2 a_as a_sk)), (a_as, (arI G 8 m_as)), (a_sk, (arJ G 50 m_sk)), (a_l, (arW G 6 f_l)), (a_pt, (arI G 200 m_pt))]) hP hD hS hA [0, 1, 2, 3, 4, 5, 6, 7, 8, 9, 10, 11, 12, 13] (by decide) rfl
              refine va_calli (va_runV (As := [.int p_b, .int m_i, .int k_h]) (rest := []) ⟨hx, hb, hml, hown, hts⟩ (s_findsBodyN l G a_k a_h a_g a_gn a_b a_bn a_p a_pn a_bb a_j a_as a_sk a_l a_pt a_s a_w H.size e_le e_st e_fo e_lc e_g e_b e_p m_ln m_se m_lh m_br m_we m_me m_ce m_wy m_ho m_ov m_i k_h p_b e_wa e_gb f_g f_b f_p f_bb m_as m_sk f_l m_pt h_e_g h_e_b h_e_p i_7 (e_gk) (e_pk) (e_gi) (e_f)) (cwV 3 hts gV_X9_47 rfl rfl rfl hv_X5_findsBody ⟨Nat.le_of_ble_eq_true rfl, Nat.le_of_ble_eq_true rfl⟩) (g5_preV hPc hK hDc hN hT hS hFc (ci := 5) (q0 := 0) rfl rfl) rfl rfl hl.1 rfl (lv_room (Nat.le_of_ble_eq_true rfl)) dX9_sightBy_77 ⟨Nat.le_of_ble_eq_true rfl, Nat.le_of_ble_eq_true rfl⟩) hS (fun q _ h => hFc q h) hFc (fun r u t H1 locs ht hvm hw hB hz1 hk1 hS => ?_)
              obtain ⟨hP1, hD1⟩ := hB
              rw [ht] at hP1
              obtain ⟨z27, z28, z29, z30, z31, z32, z33, z34, z35, z36, z37, z38, z39, z40, i_25, i_26, y41, rfl⟩ := hw
              have i_25 : 0 ≤ z27.toInt ∧ z27.toInt ≤ 1 := i_25
              have i_26 : 0 ≤ z37.toInt ∧ z37.toInt ≤ 1 := i_26
              obtain ⟨hP, hD⟩ := va_join (wr := [(a_wk, (oc9 a_h a_k a_go a_mt)), (a_go, (arJ G 24 f_go)), (a_mt, (arI G 1536 f_mt))]) hP hD [0, 1, 2, 3, 4, 5, 6, 7, 8, 9, 10, 11, 12, 13] [14, 15, 16] rfl rfl (by decide) (by decide) hk1 hFc hP1 hD1
              generalize H1 = H at hP hS ⊢
              refine g5_rs [(a_wk, (oc9 a_h a_k a_go a_mt)), (a_go, (arJ G 24 f_go)), (a_mt, (arI G 1536 f_mt)), (a_k, (oc5 a_h a_j a_pt z28 z29 z30 z31 z32 z33 z34 z35 z36 z37)), (a_h, (oc1 e_wa e_le e_st e_fo e_lc a_l a_g a_b a_s a_p a_w e_gb a_bb)), (a_g, (oc6 6 5 a_gn e_g)), (a_gn, (arI G 30 f_g)), (a_b, (oc6 5 24 a_bn e_b)), (a_bn, (arI G 120 f_b)), (a_p, (oc6 8 5 a_pn e_p)), (a_pn, (arI G 40 f_p)), (a_bb, (arJ G 24 f_bb)), (a_j, (oc2 a_as a_sk)), (a_as, (arI G 8 z39)), (a_sk, (arJ G 50 z40)), (a_l, (arW G 6 f_l)), (a_pt, (arI G 200 z38))] hP hD (fun hP hD => ?_)
              refine g5_ti (v := z27) y41 ?_
              refine lv_if_eq (tgt := 86) hx hb dX9_sightBy_80 (by decide) (fun c_42 => ?_) (fun c_42 => ?_)
              ·
                have i_42 : z27.toInt = 0 := by have z := g5_eq (a := z27.toInt) (b := 0) (by rfl) (by decide) c_42; omega
                refine lv_iinc (v := (m_i + 1)) (lv' := [(9, .int (m_i + 1)), (10, .int 1), (6, .long k_x), (8, .int k_h), (0, .ref a_wk), (1, .int p_g), (2, .int p_b), (3, .int p_c), (4, .int p_f), (5, .int p_e)]) hx hb dX9_sightBy_86 hl (k := 1) rfl rfl (by decide) rfl (fun ls hl => ?_)
                have t_43 : (m_i + 1).toInt = m_i.toInt + 1 := g5_iadd (a := m_i.toInt) (b := 1) rfl (by decide) (by omega) (by omega)
                refine lv_goto (tgt := 19) hx hb dX9_sightBy_89 (by decide) ?_
                exact ih_19_8 ((m_i + 1), z29, z30, z31, z32, z33, z34, z35, z36, z37, z38, z39, z40, z28) ls H locs (show Int.toNat (64 - (m_i + 1).toInt) < Int.toNat (64 - m_i.toInt) from g_up (show m_i.toInt < (m_i + 1).toInt by omega) (show m_i.toInt < 64 by omega)) ⟨lv_sub hl [0, 2, 3, 4, 5, 6, 7, 8, 9] rfl, hP.sub [3, 4, 5, 6, 7, 8, 9, 10, 11, 12, 13, 14, 15, 16, 0, 1, 2] rfl, hD.sub [3, 4, 5, 6, 7, 8, 9, 10, 11, 12, 13, 14, 15, 16, 0, 1, 2] (by decide) rfl, hS, ⟨by omega, by omega⟩, i_26⟩
              ·
                have n_42 : gNe (z27.toInt) (0) := by have z := g5_eqN (a := z27.toInt) (b := 0) (by rfl) (by decide) c_42; unfold gNe; omega
                have i_42 : z27.toInt ≥ 1 := by have z := g5_eqN (a := z27.toInt) (b := 0) (by rfl) (by decide) c_42; omega
                refine lv_iload hx hb dX9_sightBy_83 (lv_at hl 3 rfl) ?_
                exact W.iret (v := k_h) hx hb hr (fun t ht hW => ⟨⟨k_h, [(a_k, (oc5 a_h a_j a_pt z28 z29 z30 z31 z32 z33 z34 z35 z36 z37)), (a_h, (oc1 e_wa e_le e_st e_fo e_lc a_l a_g a_b a_s a_p a_w e_gb a_bb)), (a_g, (oc6 6 5 a_gn e_g)), (a_gn, (arI G 30 f_g)), (a_b, (oc6 5 24 a_bn e_b)), (a_bn, (arI G 120 f_b)), (a_p, (oc6 8 5 a_pn e_p)), (a_pn, (arI G 40 f_p)), (a_bb, (arJ G 24 f_bb)), (a_j, (oc2 a_as a_sk)), (a_as, (arI G 8 z39)), (a_sk, (arJ G 50 z40)), (a_l, (arW G 6 f_l)), (a_pt, (arI G 200 z38)), (a_wk, (oc9 a_h a_k a_go a_mt)), (a_go, (arJ G 24 f_go)), (a_mt, (arI G 1536 f_mt))], rfl, ⟨k_h, z28, z29, z30, z31, z32, z33, z34, z35, z36, z37, z38, z39, z40, i_26, ⟨by omega, by omega⟩, Or.inr ⟨by omega, by omega⟩, rfl, rfl⟩, by rw [ht]; exact hP.sub [3, 4, 5, 6, 7, 8, 9, 10, 11, 12, 13, 14, 15, 16, 0, 1, 2] rfl, hD.sub [3, 4, 5, 6, 7, 8, 9, 10, 11, 12, 13, 14, 15, 16, 0, 1, 2] (by decide) rfl⟩, hS.F ht⟩) hS.2.2 dX9_sightBy_85
set_option maxHeartbeats 4000000 in
set_option maxRecDepth 100000 in
theorem a_byL (l : Launch) (G : g5_G) (a_k a_h a_g a_gn a_b a_bn a_p a_pn a_bb a_j a_as a_sk a_l a_lo a_sr a_cd a_hd a_pt a_wk a_go a_mt a_s a_w : Nat) (sz : Nat) (e_le : Int32) (e_st : Int32) (e_fo : Int32) (e_lc : Int32) (e_g : Int32) (e_b : Int32) (e_p : Int32) (e_cl : Int32) (e_ln : Int32) (e_se : Int32) (e_lh : Int32) (e_br : Int32) (e_we : Int32) (e_me : Int32) (e_ce : Int32) (e_wy : Int32) (e_ho : Int32) (e_ov : Int32) (p_g : Int32) (p_b : Int32) (p_c : Int32) (p_f : Int32) (p_e : Int32) (e_wa : Int64) (e_gb : Int64) (f_g : Nat → Int32) (f_b : Nat → Int32) (f_p : Nat → Int32) (f_bb : Nat → Int64) (f_as : Nat → Int32) (f_sk : Nat → Int64) (f_l : Nat → Option Nat) (f_sr : Nat → Int32) (f_cd : Nat → Int32) (f_hd : Nat → Int32) (f_pt : Nat → Int32) (f_go : Nat → Int64) (f_mt : Nat → Int32) (n_sr : Nat) (n_cd : Nat) (n_hd : Nat) (h_e_g : 0 ≤ e_g.toInt ∧ e_g.toInt ≤ 6) (h_e_b : 0 ≤ e_b.toInt ∧ e_b.toInt ≤ 5) (h_e_p : 0 ≤ e_p.toInt ∧ e_p.toInt ≤ 8) (h_e_cl : 0 ≤ e_cl.toInt ∧ e_cl.toInt ≤ 12) (h_e_ov : 0 ≤ e_ov.toInt ∧ e_ov.toInt ≤ 1) (h_p_c : 0 ≤ p_c.toInt ∧ p_c.toInt ≤ 63) (h_p_f : 0 ≤ p_f.toInt ∧ p_f.toInt ≤ 23) (h_p_e : 0 ≤ p_e.toInt ∧ p_e.toInt ≤ 24) (e_gk : gOK f_g e_g.toInt) (e_pk : gOK f_p e_p.toInt) (e_gi : inT e_gb f_g e_g.toInt) (e_f : 0 ≤ e_fo.toInt ∧ e_fo.toInt < e_lc.toInt ∧ e_lc.toInt ≤ 6) (e_a : f_l e_fo.toNatClampNeg = some a_lo) (e_hn : n_cd ≤ 400) (e_hs : ∀ j : Nat, j < n_sr → 0 ≤ (f_sr j).toInt ∧ (f_sr j).toInt ≤ (n_cd : Int)) (e_hk : ∀ j : Nat, j < n_cd → (f_cd j >>> (12 &&& 31)).toInt = 1 → (f_cd j &&& 4095).toInt < 8) (e_c : (e_cl.toInt : Int) ≤ (n_hd : Int) ∧ (e_cl.toInt + 1 : Int) ≤ (n_sr : Int)) : Met l yX9_sightBy (wsG yX9_sightBy cX9_sightBy 11 (some .int)) ({ frames := 15, cells := 0, slots := 0, locals := 580 }) (va_Pc [.ref a_wk, .int p_g, .int p_b, .int p_c, .int p_f, .int p_e] (g5_P G [(a_k, (oc5 a_h a_j a_pt e_ln e_se e_lh e_br e_we e_me e_ce e_wy e_ho e_ov)), (a_h, (oc1 e_wa e_le e_st e_fo e_lc a_l a_g a_b a_s a_p a_w e_gb a_bb)), (a_g, (oc6 6 5 a_gn e_g)), (a_gn, (arI G 30 f_g)), (a_b, (oc6 5 24 a_bn e_b)), (a_bn, (arI G 120 f_b)), (a_p, (oc6 8 5 a_pn e_p)), (a_pn, (arI G 40 f_p)), (a_bb, (arJ G 24 f_bb)), (a_j, (oc2 a_as a_sk)), (a_as, (arI G 8 f_as)), (a_sk, (arJ G 50 f_sk)), (a_l, (arW G 6 f_l)), (a_lo, (oc3 e_cl a_hd a_sr a_cd)), (a_sr, (arI G n_sr f_sr)), (a_cd, (arI G n_cd f_cd)), (a_hd, (arI G n_hd f_hd)), (a_pt, (arI G 200 f_pt)), (a_wk, (oc9 a_h a_k a_go a_mt)), (a_go, (arJ G 24 f_go)), (a_mt, (arI G 1536 f_mt))] sz)) (va_Qi (fun (r : Int32) (u : va_W) => (∃ (o_r : Int32) (o_ln : Int32) (o_se : Int32) (o_lh : Int32) (o_br : Int32) (o_we : Int32) (o_me : Int32) (o_ce : Int32) (o_wy : Int32) (o_ho : Int32) (o_ov : Int32) (o_pt : Nat → Int32) (o_as : Nat → Int32) (o_sk : Nat → Int64), (0 ≤ o_ov.toInt ∧ o_ov.toInt ≤ 1) ∧ (-1 ≤ o_r.toInt ∧ o_r.toInt ≤ 23) ∧ (o_r.toInt = -1 ∨ (p_f.toInt ≤ o_r.toInt ∧ o_r.toInt < p_e.toInt)) ∧ (r = o_r) ∧ (u = [(a_k, (oc5 a_h a_j a_pt o_ln o_se o_lh o_br o_we o_me o_ce o_wy o_ho o_ov)), (a_h, (oc1 e_wa e_le e_st e_fo e_lc a_l a_g a_b a_s a_p a_w e_gb a_bb)), (a_g, (oc6 6 5 a_gn e_g)), (a_gn, (arI G 30 f_g)), (a_b, (oc6 5 24 a_bn e_b)), (a_bn, (arI G 120 f_b)), (a_p, (oc6 8 5 a_pn e_p)), (a_pn, (arI G 40 f_p)), (a_bb, (arJ G 24 f_bb)), (a_j, (oc2 a_as a_sk)), (a_as, (arI G 8 o_as)), (a_sk, (arJ G 50 o_sk)), (a_l, (arW G 6 f_l)), (a_lo, (oc3 e_cl a_hd a_sr a_cd)), (a_sr, (arI G n_sr f_sr)), (a_cd, (arI G n_cd f_cd)), (a_hd, (arI G n_hd f_hd)), (a_pt, (arI G 200 o_pt)), (a_wk, (oc9 a_h a_k a_go a_mt)), (a_go, (arJ G 24 f_go)), (a_mt, (arI G 1536 f_mt))]))) (g5_B G (va_A [(a_k, (oc5 a_h a_j a_pt e_ln e_se e_lh e_br e_we e_me e_ce e_wy e_ho e_ov)), (a_h, (oc1 e_wa e_le e_st e_fo e_lc a_l a_g a_b a_s a_p a_w e_gb a_bb)), (a_g, (oc6 6 5 a_gn e_g)), (a_gn, (arI G 30 f_g)), (a_b, (oc6 5 24 a_bn e_b)), (a_bn, (arI G 120 f_b)), (a_p, (oc6 8 5 a_pn e_p)), (a_pn, (arI G 40 f_p)), (a_bb, (arJ G 24 f_bb)), (a_j, (oc2 a_as a_sk)), (a_as, (arI G 8 f_as)), (a_sk, (arJ G 50 f_sk)), (a_l, (arW G 6 f_l)), (a_lo, (oc3 e_cl a_hd a_sr a_cd)), (a_sr, (arI G n_sr f_sr)), (a_cd, (arI G n_cd f_cd)), (a_hd, (arI G n_hd f_hd)), (a_pt, (arI G 200 f_pt)), (a_wk, (oc9 a_h a_k a_go a_mt)), (a_go, (arJ G 24 f_go)), (a_mt, (arI G 1536 f_mt))] sz)) (va_A [(a_k, (oc5 a_h a_j a_pt e_ln e_se e_lh e_br e_we e_me e_ce e_wy e_ho e_ov)), (a_h, (oc1 e_wa e_le e_st e_fo e_lc a_l a_g a_b a_s a_p a_w e_gb a_bb)), (a_g, (oc6 6 5 a_gn e_g)), (a_gn, (arI G 30 f_g)), (a_b, (oc6 5 24 a_bn e_b)), (a_bn, (arI G 120 f_b)), (a_p, (oc6 8 5 a_pn e_p)), (a_pn, (arI G 40 f_p)), (a_bb, (arJ G 24 f_bb)), (a_j, (oc2 a_as a_sk)), (a_as, (arI G 8 f_as)), (a_sk, (arJ G 50 f_sk)), (a_l, (arW G 6 f_l)), (a_lo, (oc3 e_cl a_hd a_sr a_cd)), (a_sr, (arI G n_sr f_sr)), (a_cd, (arI G n_cd f_cd)), (a_hd, (arI G n_hd f_hd)), (a_pt, (arI G 200 f_pt)), (a_wk, (oc9 a_h a_k a_go a_mt)), (a_go, (arJ G 24 f_go)), (a_mt, (arI G 1536 f_mt))] sz)) 0 0 (va_A [(a_k, (oc5 a_h a_j a_pt e_ln e_se e_lh e_br e_we e_me e_ce e_wy e_ho e_ov)), (a_h, (oc1 e_wa e_le e_st e_fo e_lc a_l a_g a_b a_s a_p a_w e_gb a_bb)), (a_g, (oc6 6 5 a_gn e_g)), (a_gn, (arI G 30 f_g)), (a_b, (oc6 5 24 a_bn e_b)), (a_bn, (arI G 120 f_b)), (a_p, (oc6 8 5 a_pn e_p)), (a_pn, (arI G 40 f_p)), (a_bb, (arJ G 24 f_bb)), (a_j, (oc2 a_as a_sk)), (a_as, (arI G 8 f_as)), (a_sk, (arJ G 50 f_sk)), (a_l, (arW G 6 f_l)), (a_lo, (oc3 e_cl a_hd a_sr a_cd)), (a_sr, (arI G n_sr f_sr)), (a_cd, (arI G n_cd f_cd)), (a_hd, (arI G n_hd f_hd)), (a_pt, (arI G 200 f_pt)), (a_wk, (oc9 a_h a_k a_go a_mt)), (a_go, (arJ G 24 f_go)), (a_mt, (arI G 1536 f_mt))] sz) := by
  refine Met.ofW (cc := cX9_sightBy) (maxL := 11) (ret := (some .int)) (by decide) rfl ?_
  intro p e s m args below meth c s₁ B hml hv
  obtain ⟨rfl, hsz, hP, hK, hD0, hN, hT⟩ := hv
  have hx := B.exec
  have hb := B.bytes
  have hr := B.returns
  have hts : ∀ w ∈ tblG, w.before _ s = true := fun w h => atoms_spec (ws := (wsG yX9_sightBy cX9_sightBy 11 (some .int))) B.pre w (List.mem_cons_of_mem _ h)
  have hown : s.vm.findClass RX9 = some m.cls := findClass_of_methodNamed B.named
  have hlocks := B.notSynchronized
  subst hsz
  have hD := hD0.self (sz := s.heap.size)
  generalize hAe : va_A [(a_k, (oc5 a_h a_j a_pt e_ln e_se e_lh e_br e_we e_me e_ce e_wy e_ho e_ov)), (a_h, (oc1 e_wa e_le e_st e_fo e_lc a_l a_g a_b a_s a_p a_w e_gb a_bb)), (a_g, (oc6 6 5 a_gn e_g)), (a_gn, (arI G 30 f_g)), (a_b, (oc6 5 24 a_bn e_b)), (a_bn, (arI G 120 f_b)), (a_p, (oc6 8 5 a_pn e_p)), (a_pn, (arI G 40 f_p)), (a_bb, (arJ G 24 f_bb)), (a_j, (oc2 a_as a_sk)), (a_as, (arI G 8 f_as)), (a_sk, (arJ G 50 f_sk)), (a_l, (arW G 6 f_l)), (a_lo, (oc3 e_cl a_hd a_sr a_cd)), (a_sr, (arI G n_sr f_sr)), (a_cd, (arI G n_cd f_cd)), (a_hd, (arI G n_hd f_hd)), (a_pt, (arI G 200 f_pt)), (a_wk, (oc9 a_h a_k a_go a_mt)), (a_go, (arJ G 24 f_go)), (a_mt, (arI G 1536 f_mt))] s.heap.size = A at hD hT ⊢
  have hA : ∀ q : Nat, s.heap.size ≤ q → A q := fun q h => by rw [← hAe]; exact Or.inr h
  have hS : va_S A s.heap s.heap [] := va_S.rf
  have hP : va_P G.1 vwCl [(a_k, (oc5 a_h a_j a_pt e_ln e_se e_lh e_br e_we e_me e_ce e_wy e_ho e_ov)), (a_h, (oc1 e_wa e_le e_st e_fo e_lc a_l a_g a_b a_s a_p a_w e_gb a_bb)), (a_g, (oc6 6 5 a_gn e_g)), (a_gn, (arI G 30 f_g)), (a_b, (oc6 5 24 a_bn e_b)), (a_bn, (arI G 120 f_b)), (a_p, (oc6 8 5 a_pn e_p)), (a_pn, (arI G 40 f_p)), (a_bb, (arJ G 24 f_bb)), (a_j, (oc2 a_as a_sk)), (a_as, (arI G 8 f_as)), (a_sk, (arJ G 50 f_sk)), (a_l, (arW G 6 f_l)), (a_lo, (oc3 e_cl a_hd a_sr a_cd)), (a_sr, (arI G n_sr f_sr)), (a_cd, (arI G n_cd f_cd)), (a_hd, (arI G n_hd f_hd)), (a_pt, (arI G 200 f_pt)), (a_wk, (oc9 a_h a_k a_go a_mt)), (a_go, (arJ G 24 f_go)), (a_mt, (arI G 1536 f_mt))] s.heap := hP
  have hl := lv_entry ([.ref a_wk, .int p_g, .int p_b, .int p_c, .int p_f, .int p_e]) (n := 11) (Nat.le_of_ble_eq_true rfl)
  rw [lg_entry_eq]
  generalize (lg_sl ([.ref a_wk, .int p_g, .int p_b, .int p_c, .int p_f, .int p_e]) ++ List.replicate (11 - (lg_sl ([.ref a_wk, .int p_g, .int p_b, .int p_c, .int p_f, .int p_e])).length) Slot.unset).toArray = ls at hl ⊢
  have hl : lv_has ls 11 [(0, .ref a_wk), (1, .int p_g), (2, .int p_b), (3, .int p_c), (4, .int p_f), (5, .int p_e)] := hl
  refine lv_lconst (v := 1) hx hb dX9_sightBy_0 (by decide) ?_
  refine lv_iload_n hx hb dX9_sightBy_1 rfl (lv_at hl 3 rfl) ?_
  refine lv_lshl (v := ((1 : Int64) <<< (p_c.toInt64 &&& 63))) hx hb dX9_sightBy_2 rfl ?_
  refine lv_lstore (lv' := [(6, .long ((1 : Int64) <<< (p_c.toInt64 &&& 63))), (0, .ref a_wk), (1, .int p_g), (2, .int p_b), (3, .int p_c), (4, .int p_f), (5, .int p_e)]) hx hb dX9_sightBy_3 hl (by decide) rfl (fun ls hl => ?_)
  refine lv_iload hx hb dX9_sightBy_5 (lv_at hl 5 rfl) ?_
  refine lv_istore (lv' := [(8, .int p_f), (6, .long ((1 : Int64) <<< (p_c.toInt64 &&& 63))), (0, .ref a_wk), (1, .int p_g), (2, .int p_b), (3, .int p_c), (4, .int p_f), (5, .int p_e)]) hx hb dX9_sightBy_7 hl (by decide) rfl (fun ls hl => ?_)
  refine g5_loop (α := (Int64) × (Int32) × (Int32) × (Int32) × (Int32) × (Int32) × (Int32) × (Int32) × (Int32) × (Int32) × (Int32) × (Nat → Int32) × (Nat → Int32) × (Nat → Int64) × (Int32)) (fun (q : (Int64) × (Int32) × (Int32) × (Int32) × (Int32) × (Int32) × (Int32) × (Int32) × (Int32) × (Int32) × (Int32) × (Nat → Int32) × (Nat → Int32) × (Nat → Int64) × (Int32)) (ls : Array Slot) (H : Heap) (locs : List Loc) => match q with | (k_x, k_h, k_se, k_lh, k_br, k_we, k_me, k_ce, k_wy, k_ho, k_ov, k_pt, k_as, k_sk, k_ln) => lv_has ls 11 [(6, .long k_x), (8, .int k_h), (0, .ref a_wk), (1, .int p_g), (2, .int p_b), (3, .int p_c), (4, .int p_f), (5, .int p_e)] ∧ va_P G.1 vwCl [(a_k, (oc5 a_h a_j a_pt k_ln k_se k_lh k_br k_we k_me k_ce k_wy k_ho k_ov)), (a_h, (oc1 e_wa e_le e_st e_fo e_lc a_l a_g a_b a_s a_p a_w e_gb a_bb)), (a_g, (oc6 6 5 a_gn e_g)), (a_gn, (arI G 30 f_g)), (a_b, (oc6 5 24 a_bn e_b)), (a_bn, (arI G 120 f_b)), (a_p, (oc6 8 5 a_pn e_p)), (a_pn, (arI G 40 f_p)), (a_bb, (arJ G 24 f_bb)), (a_j, (oc2 a_as a_sk)), (a_as, (arI G 8 k_as)), (a_sk, (arJ G 50 k_sk)), (a_l, (arW G 6 f_l)), (a_lo, (oc3 e_cl a_hd a_sr a_cd)), (a_sr, (arI G n_sr f_sr)), (a_cd, (arI G n_cd f_cd)), (a_hd, (arI G n_hd f_hd)), (a_pt, (arI G 200 k_pt)), (a_wk, (oc9 a_h a_k a_go a_mt)), (a_go, (arJ G 24 f_go)), (a_mt, (arI G 1536 f_mt))] H ∧ va_D A [(a_k, (oc5 a_h a_j a_pt k_ln k_se k_lh k_br k_we k_me k_ce k_wy k_ho k_ov)), (a_h, (oc1 e_wa e_le e_st e_fo e_lc a_l a_g a_b a_s a_p a_w e_gb a_bb)), (a_g, (oc6 6 5 a_gn e_g)), (a_gn, (arI G 30 f_g)), (a_b, (oc6 5 24 a_bn e_b)), (a_bn, (arI G 120 f_b)), (a_p, (oc6 8 5 a_pn e_p)), (a_pn, (arI G 40 f_p)), (a_bb, (arJ G 24 f_bb)), (a_j, (oc2 a_as a_sk)), (a_as, (arI G 8 k_as)), (a_sk, (arJ G 50 k_sk)), (a_l, (arW G 6 f_l)), (a_lo, (oc3 e_cl a_hd a_sr a_cd)), (a_sr, (arI G n_sr f_sr)), (a_cd, (arI G n_cd f_cd)), (a_hd, (arI G n_hd f_hd)), (a_pt, (arI G 200 k_pt)), (a_wk, (oc9 a_h a_k a_go a_mt)), (a_go, (arJ G 24 f_go)), (a_mt, (arI G 1536 f_mt))] ∧ va_S A s.heap H locs ∧ (0 ≤ k_h.toInt ∧ k_h.toInt ≤ 24) ∧ (0 ≤ k_ov.toInt ∧ k_ov.toInt ≤ 1) ∧ (p_f.toInt ≤ k_h.toInt)) (fun (q : (Int64) × (Int32) × (Int32) × (Int32) × (Int32) × (Int32) × (Int32) × (Int32) × (Int32) × (Int32) × (Int32) × (Nat → Int32) × (Nat → Int32) × (Nat → Int64) × (Int32)) => match q with | (k_x, k_h, k_se, k_lh, k_br, k_we, k_me, k_ce, k_wy, k_ho, k_ov, k_pt, k_as, k_sk, k_ln) => Int.toNat (24 - k_h.toInt)) (((1 : Int64) <<< (p_c.toInt64 &&& 63)), p_f, e_se, e_lh, e_br, e_we, e_me, e_ce, e_wy, e_ho, e_ov, f_pt, f_as, f_sk, e_ln) ⟨lv_sub hl [1, 0, 2, 3, 4, 5, 6, 7] rfl, hP, hD, hS, ⟨by omega, by omega⟩, h_e_ov, by omega⟩ ?_
  rintro ⟨k_x, k_h, k_se, k_lh, k_br, k_we, k_me, k_ce, k_wy, k_ho, k_ov, k_pt, k_as, k_sk, k_ln⟩ ls H locs ⟨hl, hP, hD, hS, i_1, i_2, i_3⟩ ih_9_4
  have hl : lv_has ls 11 [(6, .long k_x), (8, .int k_h), (0, .ref a_wk), (1, .int p_g), (2, .int p_b), (3, .int p_c), (4, .int p_f), (5, .int p_e)] := hl
  have i_1 : 0 ≤ k_h.toInt ∧ k_h.toInt ≤ 24 := i_1
  have i_2 : 0 ≤ k_ov.toInt ∧ k_ov.toInt ≤ 1 := i_2
  have i_3 : p_f.toInt ≤ k_h.toInt := i_3
  refine g5_rs [(a_k, (oc5 a_h a_j a_pt k_ln k_se k_lh k_br k_we k_me k_ce k_wy k_ho k_ov)), (a_h, (oc1 e_wa e_le e_st e_fo e_lc a_l a_g a_b a_s a_p a_w e_gb a_bb)), (a_g, (oc6 6 5 a_gn e_g)), (a_gn, (arI G 30 f_g)), (a_b, (oc6 5 24 a_bn e_b)), (a_bn, (arI G 120 f_b)), (a_p, (oc6 8 5 a_pn e_p)), (a_pn, (arI G 40 f_p)), (a_bb, (arJ G 24 f_bb)), (a_j, (oc2 a_as a_sk)), (a_as, (arI G 8 k_as)), (a_sk, (arJ G 50 k_sk)), (a_l, (arW G 6 f_l)), (a_lo, (oc3 e_cl a_hd a_sr a_cd)), (a_sr, (arI G n_sr f_sr)), (a_cd, (arI G n_cd f_cd)), (a_hd, (arI G n_hd f_hd)), (a_pt, (arI G 200 k_pt)), (a_wk, (oc9 a_h a_k a_go a_mt)), (a_go, (arJ G 24 f_go)), (a_mt, (arI G 1536 f_mt))] hP hD (fun hP hD => ?_)
  refine lv_iload hx hb dX9_sightBy_9 (lv_at hl 1 rfl) ?_
  refine lv_iload hx hb dX9_sightBy_11 (lv_at hl 7 rfl) ?_
  refine lv_icmp_ge (tgt := 106) hx hb dX9_sightBy_13 (by decide) (fun c_5 => ?_) (fun c_5 => ?_)
  ·
    have i_5 : k_h.toInt ≥ p_e.toInt := by have z := g5_ge (a := k_h.toInt) (b := p_e.toInt) (by rfl) (by rfl) c_5; omega
    refine lv_iconst (v := (-1)) hx hb dX9_sightBy_106 (by decide) ?_
    exact W.iret (v := (-1)) hx hb hr (fun t ht hW => ⟨⟨(-1), [(a_k, (oc5 a_h a_j a_pt k_ln k_se k_lh k_br k_we k_me k_ce k_wy k_ho k_ov)), (a_h, (oc1 e_wa e_le e_st e_fo e_lc a_l a_g a_b a_s a_p a_w e_gb a_bb)), (a_g, (oc6 6 5 a_gn e_g)), (a_gn, (arI G 30 f_g)), (a_b, (oc6 5 24 a_bn e_b)), (a_bn, (arI G 120 f_b)), (a_p, (oc6 8 5 a_pn e_p)), (a_pn, (arI G 40 f_p)), (a_bb, (arJ G 24 f_bb)), (a_j, (oc2 a_as a_sk)), (a_as, (arI G 8 k_as)), (a_sk, (arJ G 50 k_sk)), (a_l, (arW G 6 f_l)), (a_lo, (oc3 e_cl a_hd a_sr a_cd)), (a_sr, (arI G n_sr f_sr)), (a_cd, (arI G n_cd f_cd)), (a_hd, (arI G n_hd f_hd)), (a_pt, (arI G 200 k_pt)), (a_wk, (oc9 a_h a_k a_go a_mt)), (a_go, (arJ G 24 f_go)), (a_mt, (arI G 1536 f_mt))], rfl, ⟨(-1), k_ln, k_se, k_lh, k_br, k_we, k_me, k_ce, k_wy, k_ho, k_ov, k_pt, k_as, k_sk, i_2, ⟨by have zc_o_r : ((-1) : Int32).toInt = (-1) := (by decide); omega, by have zc_o_r : ((-1) : Int32).toInt = (-1) := (by decide); omega⟩, Or.inl (by decide), rfl, rfl⟩, by rw [ht]; exact hP.sub [0, 1, 2, 3, 4, 5, 6, 7, 8, 9, 10, 11, 12, 13, 14, 15, 16, 17, 18, 19, 20] rfl, hD.sub [0, 1, 2, 3, 4, 5, 6, 7, 8, 9, 10, 11, 12, 13, 14, 15, 16, 17, 18, 19, 20] (by decide) rfl⟩, hS.F ht⟩) hS.2.2 dX9_sightBy_107
  ·
    have i_5 : k_h.toInt < p_e.toInt := by have z := g5_geN (a := k_h.toInt) (b := p_e.toInt) (by rfl) (by rfl) c_5; omega
    refine lv_iconst (v := 0) hx hb dX9_sightBy_16 (by decide) ?_
    refine lv_istore (lv' := [(9, .int 0), (6, .long k_x), (8, .int k_h), (0, .ref a_wk), (1, .int p_g), (2, .int p_b), (3, .int p_c), (4, .int p_f), (5, .int p_e)]) hx hb dX9_sightBy_17 hl (by decide) rfl (fun ls hl => ?_)
    refine g5_loop (α := (Int32) × (Int32) × (Int32) × (Int32) × (Int32) × (Int32) × (Int32) × (Int32) × (Int32) × (Int32) × (Nat → Int32) × (Nat → Int32) × (Nat → Int64) × (Int32)) (fun (q : (Int32) × (Int32) × (Int32) × (Int32) × (Int32) × (Int32) × (Int32) × (Int32) × (Int32) × (Int32) × (Nat → Int32) × (Nat → Int32) × (Nat → Int64) × (Int32)) (ls : Array Slot) (H : Heap) (locs : List Loc) => match q with | (m_i, m_se, m_lh, m_br, m_we, m_me, m_ce, m_wy, m_ho, m_ov, m_pt, m_as, m_sk, m_ln) => lv_has ls 11 [(9, .int m_i), (6, .long k_x), (8, .int k_h), (0, .ref a_wk), (1, .int p_g), (2, .int p_b), (3, .int p_c), (4, .int p_f), (5, .int p_e)] ∧ va_P G.1 vwCl [(a_k, (oc5 a_h a_j a_pt m_ln m_se m_lh m_br m_we m_me m_ce m_wy m_ho m_ov)), (a_h, (oc1 e_wa e_le e_st e_fo e_lc a_l a_g a_b a_s a_p a_w e_gb a_bb)), (a_g, (oc6 6 5 a_gn e_g)), (a_gn, (arI G 30 f_g)), (a_b, (oc6 5 24 a_bn e_b)), (a_bn, (arI G 120 f_b)), (a_p, (oc6 8 5 a_pn e_p)), (a_pn, (arI G 40 f_p)), (a_bb, (arJ G 24 f_bb)), (a_j, (oc2 a_as a_sk)), (a_as, (arI G 8 m_as)), (a_sk, (arJ G 50 m_sk)), (a_l, (arW G 6 f_l)), (a_lo, (oc3 e_cl a_hd a_sr a_cd)), (a_sr, (arI G n_sr f_sr)), (a_cd, (arI G n_cd f_cd)), (a_hd, (arI G n_hd f_hd)), (a_pt, (arI G 200 m_pt)), (a_wk, (oc9 a_h a_k a_go a_mt)), (a_go, (arJ G 24 f_go)), (a_mt, (arI G 1536 f_mt))] H ∧ va_D A [(a_k, (oc5 a_h a_j a_pt m_ln m_se m_lh m_br m_we m_me m_ce m_wy m_ho m_ov)), (a_h, (oc1 e_wa e_le e_st e_fo e_lc a_l a_g a_b a_s a_p a_w e_gb a_bb)), (a_g, (oc6 6 5 a_gn e_g)), (a_gn, (arI G 30 f_g)), (a_b, (oc6 5 24 a_bn e_b)), (a_bn, (arI G 120 f_b)), (a_p, (oc6 8 5 a_pn e_p)), (a_pn, (arI G 40 f_p)), (a_bb, (arJ G 24 f_bb)), (a_j, (oc2 a_as a_sk)), (a_as, (arI G 8 m_as)), (a_sk, (arJ G 50 m_sk)), (a_l, (arW G 6 f_l)), (a_lo, (oc3 e_cl a_hd a_sr a_cd)), (a_sr, (arI G n_sr f_sr)), (a_cd, (arI G n_cd f_cd)), (a_hd, (arI G n_hd f_hd)), (a_pt, (arI G 200 m_pt)), (a_wk, (oc9 a_h a_k a_go a_mt)), (a_go, (arJ G 24 f_go)), (a_mt, (arI G 1536 f_mt))] ∧ va_S A s.heap H locs ∧ (0 ≤ m_i.toInt ∧ m_i.toInt ≤ 64) ∧ (0 ≤ m_ov.toInt ∧ m_ov.toInt ≤ 1)) (fun (q : (Int32) × (Int32) × (Int32) × (Int32) × (Int32) × (Int32) × (Int32) × (Int32) × (Int32) × (Int32) × (Nat → Int32) × (Nat → Int32) × (Nat → Int64) × (Int32)) => match q with | (m_i, m_se, m_lh, m_br, m_we, m_me, m_ce, m_wy, m_ho, m_ov, m_pt, m_as, m_sk, m_ln) => Int.toNat (64 - m_i.toInt)) (0, k_se, k_lh, k_br, k_we, k_me, k_ce, k_wy, k_ho, k_ov, k_pt, k_as, k_sk, k_ln) ⟨lv_sub hl [0, 1, 2, 3, 4, 5, 6, 7, 8] rfl, hP, hD, hS, ⟨by decide, by decide⟩, i_2⟩ ?_
    rintro ⟨m_i, m_se, m_lh, m_br, m_we, m_me, m_ce, m_wy, m_ho, m_ov, m_pt, m_as, m_sk, m_ln⟩ ls H locs ⟨hl, hP, hD, hS, i_6, i_7⟩ ih_19_8
    have hl : lv_has ls 11 [(9, .int m_i), (6, .long k_x), (8, .int k_h), (0, .ref a_wk), (1, .int p_g), (2, .int p_b), (3, .int p_c), (4, .int p_f), (5, .int p_e)] := hl
    have i_6 : 0 ≤ m_i.toInt ∧ m_i.toInt ≤ 64 := i_6
    have i_7 : 0 ≤ m_ov.toInt ∧ m_ov.toInt ≤ 1 := i_7
    refine g5_rs [(a_k, (oc5 a_h a_j a_pt m_ln m_se m_lh m_br m_we m_me m_ce m_wy m_ho m_ov)), (a_h, (oc1 e_wa e_le e_st e_fo e_lc a_l a_g a_b a_s a_p a_w e_gb a_bb)), (a_g, (oc6 6 5 a_gn e_g)), (a_gn, (arI G 30 f_g)), (a_b, (oc6 5 24 a_bn e_b)), (a_bn, (arI G 120 f_b)), (a_p, (oc6 8 5 a_pn e_p)), (a_pn, (arI G 40 f_p)), (a_bb, (arJ G 24 f_bb)), (a_j, (oc2 a_as a_sk)), (a_as, (arI G 8 m_as)), (a_sk, (arJ G 50 m_sk)), (a_l, (arW G 6 f_l)), (a_lo, (oc3 e_cl a_hd a_sr a_cd)), (a_sr, (arI G n_sr f_sr)), (a_cd, (arI G n_cd f_cd)), (a_hd, (arI G n_hd f_hd)), (a_pt, (arI G 200 m_pt)), (a_wk, (oc9 a_h a_k a_go a_mt)), (a_go, (arJ G 24 f_go)), (a_mt, (arI G 1536 f_mt))] hP hD (fun hP hD => ?_)
    refine lv_iload hx hb dX9_sightBy_19 (lv_at hl 0 rfl) ?_
    refine lv_bipush (v := 64) hx hb dX9_sightBy_21 (by decide) ?_
    refine lv_icmp_ge (tgt := 92) hx hb dX9_sightBy_23 (by decide) (fun c_9 => ?_) (fun c_9 => ?_)
    ·
      have i_9 : m_i.toInt ≥ 64 := by have z := g5_ge (a := m_i.toInt) (b := 64) (by rfl) (by decide) c_9; omega
      refine lv_aload_n hx hb dX9_sightBy_92 rfl (lv_at hl 3 rfl) ?_
      refine lv_lload hx hb dX9_sightBy_93 (lv_at hl 1 rfl) ?_
      obtain ⟨hPc, hDc, hFc⟩ := g5_sub3 (wc := [(a_h, (oc1 e_wa e_le e_st e_fo e_lc a_l a_g a_b a_s a_p a_w e_gb a_bb)), (a_wk, (oc9 a_h a_k a_go a_mt))]) hP hD hS hA [1, 18] (by decide) rfl
      refine va_calll (va_runV (As := [.long k_x]) (rest := []) ⟨hx, hb, hml, hown, hts⟩ (a_spread l G a_h a_wk a_l a_g a_b a_s a_p a_w a_bb a_k a_go a_mt H.size e_le e_st e_fo e_lc e_wa e_gb k_x) (cwV 1 hts gV_X9_56 rfl rfl rfl hv_X9_spread ⟨Nat.le_of_ble_eq_true rfl, Nat.le_of_ble_eq_true rfl⟩) (g5_preV hPc hK hDc hN hT hS hFc (ci := 9) (q0 := 1) rfl rfl) rfl rfl hl.1 rfl (lv_room (Nat.le_of_ble_eq_true rfl)) dX9_sightBy_95 ⟨Nat.le_of_ble_eq_true rfl, Nat.le_of_ble_eq_true rfl⟩) hS (fun q _ h => hFc q h) hFc (fun r u t H1 locs ht hvm hw hB hz1 hk1 hS => ?_)
      obtain ⟨hP1, hD1⟩ := hB
      rw [ht] at hP1
      obtain ⟨z10, y11, rfl⟩ := hw
      obtain ⟨hP, hD⟩ := va_join (wr := [(a_k, (oc5 a_h a_j a_pt m_ln m_se m_lh m_br m_we m_me m_ce m_wy m_ho m_ov)), (a_g, (oc6 6 5 a_gn e_g)), (a_gn, (arI G 30 f_g)), (a_b, (oc6 5 24 a_bn e_b)), (a_bn, (arI G 120 f_b)), (a_p, (oc6 8 5 a_pn e_p)), (a_pn, (arI G 40 f_p)), (a_bb, (arJ G 24 f_bb)), (a_j, (oc2 a_as a_sk)), (a_as, (arI G 8 m_as)), (a_sk, (arJ G 50 m_sk)), (a_l, (arW G 6 f_l)), (a_lo, (oc3 e_cl a_hd a_sr a_cd)), (a_sr, (arI G n_sr f_sr)), (a_cd, (arI G n_cd f_cd)), (a_hd, (arI G n_hd f_hd)), (a_pt, (arI G 200 m_pt)), (a_go, (arJ G 24 f_go)), (a_mt, (arI G 1536 f_mt))]) hP hD [1, 18] [0, 2, 3, 4, 5, 6, 7, 8, 9, 10, 11, 12, 13, 14, 15, 16, 17, 19, 20] rfl rfl (by decide) (by decide) hk1 hFc hP1 hD1
      generalize H1 = H at hP hS ⊢
      refine g5_rs [(a_k, (oc5 a_h a_j a_pt m_ln m_se m_lh m_br m_we m_me m_ce m_wy m_ho m_ov)), (a_g, (oc6 6 5 a_gn e_g)), (a_gn, (arI G 30 f_g)), (a_b, (oc6 5 24 a_bn e_b)), (a_bn, (arI G 120 f_b)), (a_p, (oc6 8 5 a_pn e_p)), (a_pn, (arI G 40 f_p)), (a_bb, (arJ G 24 f_bb)), (a_j, (oc2 a_as a_sk)), (a_as, (arI G 8 m_as)), (a_sk, (arJ G 50 m_sk)), (a_l, (arW G 6 f_l)), (a_lo, (oc3 e_cl a_hd a_sr a_cd)), (a_sr, (arI G n_sr f_sr)), (a_cd, (arI G n_cd f_cd)), (a_hd, (arI G n_hd f_hd)), (a_pt, (arI G 200 m_pt)), (a_go, (arJ G 24 f_go)), (a_mt, (arI G 1536 f_mt)), (a_h, (oc1 e_wa e_le e_st e_fo e_lc a_l a_g a_b a_s a_p a_w e_gb a_bb)), (a_wk, (oc9 a_h a_k a_go a_mt))] hP hD (fun hP hD => ?_)
      refine g5_tl (v := z10) y11 ?_
      refine lv_lstore (lv' := [(6, .long z10), (9, .int m_i), (8, .int k_h), (0, .ref a_wk), (1, .int p_g), (2, .int p_b), (3, .int p_c), (4, .int p_f), (5, .int p_e)]) hx hb dX9_sightBy_98 hl (by decide) rfl (fun ls hl => ?_)
      refine lv_iinc (v := (k_h + 1)) (lv' := [(8, .int (k_h + 1)), (6, .long z10), (9, .int m_i), (0, .ref a_wk), (1, .int p_g), (2, .int p_b), (3, .int p_c), (4, .int p_f), (5, .int p_e)]) hx hb dX9_sightBy_100 hl (k := 2) rfl rfl (by decide) rfl (fun ls hl => ?_)
      have t_12 : (k_h + 1).toInt = k_h.toInt + 1 := g5_iadd (a := k_h.toInt) (b := 1) rfl (by decide) (by omega) (by omega)
      refine lv_goto (tgt := 9) hx hb dX9_sightBy_103 (by decide) ?_
      exact ih_9_4 (z10, (k_h + 1), m_se, m_lh, m_br, m_we, m_me, m_ce, m_wy, m_ho, m_ov, m_pt, m_as, m_sk, m_ln) ls H locs (show Int.toNat (24 - (k_h + 1).toInt) < Int.toNat (24 - k_h.toInt) from g_up (show k_h.toInt < (k_h + 1).toInt by omega) (show k_h.toInt < 24 by omega)) ⟨lv_sub hl [1, 0, 3, 4, 5, 6, 7, 8] rfl, hP.sub [0, 19, 1, 2, 3, 4, 5, 6, 7, 8, 9, 10, 11, 12, 13, 14, 15, 16, 20, 17, 18] rfl, hD.sub [0, 19, 1, 2, 3, 4, 5, 6, 7, 8, 9, 10, 11, 12, 13, 14, 15, 16, 20, 17, 18] (by decide) rfl, hS, ⟨by omega, by omega⟩, i_7, by omega⟩
    ·
      have i_9 : m_i.toInt < 64 := by have z := g5_geN (a := m_i.toInt) (b := 64) (by rfl) (by decide) c_9; omega
      refine lv_lload hx hb dX9_sightBy_26 (lv_at hl 1 rfl) ?_
      refine lv_iload hx hb dX9_sightBy_28 (lv_at hl 0 rfl) ?_
      obtain ⟨hPc, hDc, hFc⟩ := g5_sub3 (wc := []) hP hD hS hA [] (by decide) rfl
      refine va_calli (va_runSN (As := [.long k_x, .int m_i]) (rest := []) ⟨hx, hb, hml, hown, hts⟩ (k_isOn l G H.size m_i k_x ⟨by omega, by omega⟩) ⟨va_cnB 2 hts gW_X11_isOn rfl rfl rfl (hN.1 _ g5_nw_X9_43) (hts _ ini_X11) hs_X11_isOn ⟨Nat.le_of_ble_eq_true rfl, Nat.le_of_ble_eq_true rfl⟩, hts _ st_X11_isOn, trivial⟩ (g5_preS hPc hK hDc hN hT hS hFc) rfl rfl hl.1 rfl (lv_room (Nat.le_of_ble_eq_true rfl)) dX9_sightBy_30 ⟨Nat.le_of_ble_eq_true rfl, Nat.le_of_ble_eq_true rfl⟩) hS (fun q _ h => hFc q h) hFc (fun r u t H1 locs ht hvm hw hB hz1 hk1 hS => ?_)
      obtain ⟨hP1, hD1⟩ := hB
      rw [ht] at hP1
      rcases hw with ⟨i_13, rfl, rfl⟩ | ⟨i_14, rfl, rfl⟩
      ·
        have i_13 : onB k_x m_i.toInt = false := i_13
        have hP := g5_same hP hk1
        generalize H1 = H at hP hS ⊢
        refine lv_if_eq (tgt := 60) hx hb dX9_sightBy_33 (by decide) (fun c_15 => ?_) (fun c_15 => ?_)
        ·
          refine lv_iconst (v := 0) hx hb dX9_sightBy_60 (by decide) ?_
          refine lv_istore (lv' := [(10, .int 0), (9, .int m_i), (6, .long k_x), (8, .int k_h), (0, .ref a_wk), (1, .int p_g), (2, .int p_b), (3, .int p_c), (4, .int p_f), (5, .int p_e)]) hx hb dX9_sightBy_61 hl (by decide) rfl (fun ls hl => ?_)
          refine lv_iload hx hb dX9_sightBy_63 (lv_at hl 0 rfl) ?_
          refine lv_if_eq (tgt := 86) hx hb dX9_sightBy_65 (by decide) (fun c_16 => ?_) (fun c_16 => ?_)
          ·
            refine lv_iinc (v := (m_i + 1)) (lv' := [(9, .int (m_i + 1)), (10, .int 0), (6, .long k_x), (8, .int k_h), (0, .ref a_wk), (1, .int p_g), (2, .int p_b), (3, .int p_c), (4, .int p_f), (5, .int p_e)]) hx hb dX9_sightBy_86 hl (k := 1) rfl rfl (by decide) rfl (fun ls hl => ?_)
            have t_17 : (m_i + 1).toInt = m_i.toInt + 1 := g5_iadd (a := m_i.toInt) (b := 1) rfl (by decide) (by omega) (by omega)
            refine lv_goto (tgt := 19) hx hb dX9_sightBy_89 (by decide) ?_
            exact ih_19_8 ((m_i + 1), m_se, m_lh, m_br, m_we, m_me, m_ce, m_wy, m_ho, m_ov, m_pt, m_as, m_sk, m_ln) ls H locs (show Int.toNat (64 - (m_i + 1).toInt) < Int.toNat (64 - m_i.toInt) from g_up (show m_i.toInt < (m_i + 1).toInt by omega) (show m_i.toInt < 64 by omega)) ⟨lv_sub hl [0, 2, 3, 4, 5, 6, 7, 8, 9] rfl, hP, hD, hS, ⟨by omega, by omega⟩, i_7⟩
          ·
            exact absurd c_16 (by decide)
        ·
          exact absurd c_15 (by decide)
      ·
        have i_14 : onB k_x m_i.toInt = true := i_14
        have hP := g5_same hP hk1
        generalize H1 = H at hP hS ⊢
        refine lv_if_eq (tgt := 60) hx hb dX9_sightBy_33 (by decide) (fun c_18 => ?_) (fun c_18 => ?_)
        ·
          exact absurd c_18 (by decide)
        ·
          refine lv_aload_n hx hb dX9_sightBy_36 rfl (lv_at hl 3 rfl) ?_
          refine va_get (D := G.1) (ci := 9) (v := .ref a_mt) (C := RX9) (T := TX9) (N := 4) hx hb hts inG_X9 hown hK hP 18 rfl rfl 3 (by decide) (hts _ fl_X9_15) (fun _ h9 => h9) rfl dX9_sightBy_37 ?_
          refine lv_iload hx hb dX9_sightBy_40 (lv_at hl 2 rfl) ?_
          refine lv_bipush (v := 64) hx hb dX9_sightBy_42 (by decide) ?_
          refine lv_imul hx hb dX9_sightBy_44 ?_
          have t_19 : (k_h * 64).toInt = k_h.toInt * 64 := g5_imul (a := k_h.toInt) (b := 64) (by rfl) (by decide) (by omega) (by omega)
          refine lv_iload hx hb dX9_sightBy_45 (lv_at hl 0 rfl) ?_
          refine lv_iadd hx hb dX9_sightBy_47 ?_
          have t_20 : ((k_h * 64) + m_i).toInt = (k_h * 64).toInt + m_i.toInt := g5_iadd (a := (k_h * 64).toInt) (b := m_i.toInt) (by rfl) (by rfl) (by omega) (by omega)
          refine va_iald hx hb hK hP 20 0 rfl rfl (i := ((k_h * 64) + m_i)) (vp_in_iff.mpr ⟨by omega, by omega⟩) dX9_sightBy_48 ?_
          refine lv_iload_n hx hb dX9_sightBy_49 rfl (lv_at hl 4 rfl) ?_
          refine lv_ishr hx hb dX9_sightBy_50 ?_
          refine lv_iconst (v := 1) hx hb dX9_sightBy_51 (by decide) ?_
          refine lv_iand hx hb dX9_sightBy_52 ?_
          refine lv_if_eq (tgt := 60) hx hb dX9_sightBy_53 (by decide) (fun c_21 => ?_) (fun c_21 => ?_)
          ·
            have i_21 : (((f_mt ((k_h * 64) + m_i).toNatClampNeg) >>> (p_g &&& 31)) &&& 1).toInt = 0 := by have z := g5_eq (a := (((f_mt ((k_h * 64) + m_i).toNatClampNeg) >>> (p_g &&& 31)) &&& 1).toInt) (b := 0) (by rfl) (by decide) c_21; omega
            refine lv_iconst (v := 0) hx hb dX9_sightBy_60 (by decide) ?_
            refine lv_istore (lv' := [(10, .int 0), (9, .int m_i), (6, .long k_x), (8, .int k_h), (0, .ref a_wk), (1, .int p_g), (2, .int p_b), (3, .int p_c), (4, .int p_f), (5, .int p_e)]) hx hb dX9_sightBy_61 hl (by decide) rfl (fun ls hl => ?_)
            refine lv_iload hx hb dX9_sightBy_63 (lv_at hl 0 rfl) ?_
            refine lv_if_eq (tgt := 86) hx hb dX9_sightBy_65 (by decide) (fun c_22 => ?_) (fun c_22 => ?_)
            ·
              refine lv_iinc (v := (m_i + 1)) (lv' := [(9, .int (m_i + 1)), (10, .int 0), (6, .long k_x), (8, .int k_h), (0, .ref a_wk), (1, .int p_g), (2, .int p_b), (3, .int p_c), (4, .int p_f), (5, .int p_e)]) hx hb dX9_sightBy_86 hl (k := 1) rfl rfl (by decide) rfl (fun ls hl => ?_)
              have t_23 : (m_i + 1).toInt = m_i.toInt + 1 := g5_iadd (a := m_i.toInt) (b := 1) rfl (by decide) (by omega) (by omega)
              refine lv_goto (tgt := 19) hx hb dX9_sightBy_89 (by decide) ?_
              exact ih_19_8 ((m_i + 1), m_se, m_lh, m_br, m_we, m_me, m_ce, m_wy, m_ho, m_ov, m_pt, m_as, m_sk, m_ln) ls H locs (show Int.toNat (64 - (m_i + 1).toInt) < Int.toNat (64 - m_i.toInt) from g_up (show m_i.toInt < (m_i + 1).toInt by omega) (show m_i.toInt < 64 by omega)) ⟨lv_sub hl [0, 2, 3, 4, 5, 6, 7, 8, 9] rfl, hP, hD, hS, ⟨by omega, by omega⟩, i_7⟩
            ·
              exact absurd c_22 (by decide)
          ·
            have n_21 : gNe ((((f_mt ((k_h * 64) + m_i).toNatClampNeg) >>> (p_g &&& 31)) &&& 1).toInt) (0) := by have z := g5_eqN (a := (((f_mt ((k_h * 64) + m_i).toNatClampNeg) >>> (p_g &&& 31)) &&& 1).toInt) (b := 0) (by rfl) (by decide) c_21; unfold gNe; omega
            refine lv_iconst (v := 1) hx hb dX9_sightBy_56 (by decide) ?_
            refine lv_goto (tgt := 61) hx hb dX9_sightBy_57 (by decide) ?_
            refine lv_istore (lv' := [(10, .int 1), (9, .int m_i), (6, .long k_x), (8, .int k_h), (0, .ref a_wk), (1, .int p_g), (2, .int p_b), (3, .int p_c), (4, .int p_f), (5, .int p_e)]) hx hb dX9_sightBy_61 hl (by decide) rfl (fun ls hl => ?_)
            refine lv_iload hx hb dX9_sightBy_63 (lv_at hl 0 rfl) ?_
            refine lv_if_eq (tgt := 86) hx hb dX9_sightBy_65 (by decide) (fun c_24 => ?_) (fun c_24 => ?_)
            ·
              exact absurd c_24 (by decide)
            ·
              refine lv_aload_n hx hb dX9_sightBy_68 rfl (lv_at hl 4 rfl) ?_
              refine va_get (D := G.1) (ci := 9) (v := .ref a_k) (C := RX9) (T := TX9) (N := 4) hx hb hts inG_X9 hown hK hP 18 rfl rfl 1 (by decide) (hts _ fl_X9_23) (fun _ h9 => h9) rfl dX9_sightBy_69 ?_
              refine lv_iload_n hx hb dX9_sightBy_72 rfl (lv_at hl 6 rfl) ?_
              refine lv_iload hx hb dX9_sightBy_73 (lv_at hl 1 rfl) ?_
              refine lv_iload hx hb dX9_sightBy_75 (lv_at hl 3 rfl) ?_
              obtain ⟨hPc, hDc, hFc⟩ := g5_sub3 (wc := [(a_k, (oc5 a_h a_j a_pt m_ln m_se m_lh m_br m_we m_me m_ce m_wy m_ho m_ov)), (a_h, (oc1 e_wa e_le e_st e_fo e_lc a_l a_g a_b a_s a_p a_w e_gb a_bb)), (a_g, (oc6 6 5 a_gn e_g)), (a_gn, (arI G 30 f_g)), (a_b, (oc6 5 24 a_bn e_b)), (a_bn, (arI G 120 f_b)), (a_p, (oc6 8 5 a_pn e_p)), (a_pn, (arI G 40 f_p)), (a_bb, (arJ G 24 f_bb)), (a_j, (oc2 a_as a_sk)), (a_as, (arI G 8 m_as)), (a_sk, (arJ G 50 m_sk)), (a_l, (arW G 6 f_l)), (a_lo, (oc3 e_cl a_hd a_sr a_cd)), (a_sr, (arI G n_sr f_sr)), (a_cd, (arI G n_cd f_cd)), (a_hd, (arI G n_hd f_hd)), (a_pt, (arI G 200 m_pt))]) hP hD hS hA [0, 1, 2, 3, 4, 5, 6, 7, 8, 9, 10, 11, 12, 13, 14, 15, 16, 17] (by decide) rfl
              refine va_calli (va_runV (As := [.int p_b, .int m_i, .int k_h]) (rest := []) ⟨hx, hb, hml, hown, hts⟩ (s_findsBodyL l G a_k a_h a_g a_gn a_b a_bn a_p a_pn a_bb a_j a_as a_sk a_l a_lo a_sr a_cd a_hd a_pt a_s a_w H.size e_le e_st e_fo e_lc e_g e_b e_p e_cl m_ln m_se m_lh m_br m_we m_me m_ce m_wy m_ho m_ov m_i k_h p_b e_wa e_gb f_g f_b f_p f_bb m_as m_sk f_l f_sr f_cd f_hd m_pt n_sr n_cd n_hd h_e_g h_e_b h_e_p h_e_cl i_7 (e_gk) (e_pk) (e_gi) (e_f) (e_a) (e_hn) (e_hs) (e_hk) (e_c)) (cwV 3 hts gV_X9_47 rfl rfl rfl hv_X5_findsBody ⟨Nat.le_of_ble_eq_true rfl, Nat.le_of_ble_eq_true rfl⟩) (g5_preV hPc hK hDc hN hT hS hFc (ci := 5) (q0 := 0) rfl rfl) rfl rfl hl.1 rfl (lv_room (Nat.le_of_ble_eq_true rfl)) dX9_sightBy_77 ⟨Nat.le_of_ble_eq_true rfl, Nat.le_of_ble_eq_true rfl⟩) hS (fun q _ h => hFc q h) hFc (fun r u t H1 locs ht hvm hw hB hz1 hk1 hS => ?_)
              obtain ⟨hP1, hD1⟩ := hB
              rw [ht] at hP1
              obtain ⟨z27, z28, z29, z30, z31, z32, z33, z34, z35, z36, z37, z38, z39, z40, i_25, i_26, y41, rfl⟩ := hw
              have i_25 : 0 ≤ z27.toInt ∧ z27.toInt ≤ 1 := i_25
              have i_26 : 0 ≤ z37.toInt ∧ z37.toInt ≤ 1 := i_26
              obtain ⟨hP, hD⟩ := va_join (wr := [(a_wk, (oc9 a_h a_k a_go a_mt)), (a_go, (arJ G 24 f_go)), (a_mt, (arI G 1536 f_mt))]) hP hD [0, 1, 2, 3, 4, 5, 6, 7, 8, 9, 10, 11, 12, 13, 14, 15, 16, 17] [18, 19, 20] rfl rfl (by decide) (by decide) hk1 hFc hP1 hD1
              generalize H1 = H at hP hS ⊢
              refine g5_rs [(a_wk, (oc9 a_h a_k a_go a_mt)), (a_go, (arJ G 24 f_go)), (a_mt, (arI G 1536 f_mt)), (a_k, (oc5 a_h a_j a_pt z28 z29 z30 z31 z32 z33 z34 z35 z36 z37)), (a_h, (oc1 e_wa e_le e_st e_fo e_lc a_l a_g a_b a_s a_p a_w e_gb a_bb)), (a_g, (oc6 6 5 a_gn e_g)), (a_gn, (arI G 30 f_g)), (a_b, (oc6 5 24 a_bn e_b)), (a_bn, (arI G 120 f_b)), (a_p, (oc6 8 5 a_pn e_p)), (a_pn, (arI G 40 f_p)), (a_bb, (arJ G 24 f_bb)), (a_j, (oc2 a_as a_sk)), (a_as, (arI G 8 z39)), (a_sk, (arJ G 50 z40)), (a_l, (arW G 6 f_l)), (a_lo, (oc3 e_cl a_hd a_sr a_cd)), (a_sr, (arI G n_sr f_sr)), (a_cd, (arI G n_cd f_cd)), (a_hd, (arI G n_hd f_hd)), (a_pt, (arI G 200 z38))] hP hD (fun hP hD => ?_)
              refine g5_ti (v := z27) y41 ?_
              refine lv_if_eq (tgt := 86) hx hb dX9_sightBy_80 (by decide) (fun c_42 => ?_) (fun c_42 => ?_)
              ·
                have i_42 : z27.toInt = 0 := by have z := g5_eq (a := z27.toInt) (b := 0) (by rfl) (by decide) c_42; omega
                refine lv_iinc (v := (m_i + 1)) (lv' := [(9, .int (m_i + 1)), (10, .int 1), (6, .long k_x), (8, .int k_h), (0, .ref a_wk), (1, .int p_g), (2, .int p_b), (3, .int p_c), (4, .int p_f), (5, .int p_e)]) hx hb dX9_sightBy_86 hl (k := 1) rfl rfl (by decide) rfl (fun ls hl => ?_)
                have t_43 : (m_i + 1).toInt = m_i.toInt + 1 := g5_iadd (a := m_i.toInt) (b := 1) rfl (by decide) (by omega) (by omega)
                refine lv_goto (tgt := 19) hx hb dX9_sightBy_89 (by decide) ?_
                exact ih_19_8 ((m_i + 1), z29, z30, z31, z32, z33, z34, z35, z36, z37, z38, z39, z40, z28) ls H locs (show Int.toNat (64 - (m_i + 1).toInt) < Int.toNat (64 - m_i.toInt) from g_up (show m_i.toInt < (m_i + 1).toInt by omega) (show m_i.toInt < 64 by omega)) ⟨lv_sub hl [0, 2, 3, 4, 5, 6, 7, 8, 9] rfl, hP.sub [3, 4, 5, 6, 7, 8, 9, 10, 11, 12, 13, 14, 15, 16, 17, 18, 19, 20, 0, 1, 2] rfl, hD.sub [3, 4, 5, 6, 7, 8, 9, 10, 11, 12, 13, 14, 15, 16, 17, 18, 19, 20, 0, 1, 2] (by decide) rfl, hS, ⟨by omega, by omega⟩, i_26⟩
              ·
                have n_42 : gNe (z27.toInt) (0) := by have z := g5_eqN (a := z27.toInt) (b := 0) (by rfl) (by decide) c_42; unfold gNe; omega
                have i_42 : z27.toInt ≥ 1 := by have z := g5_eqN (a := z27.toInt) (b := 0) (by rfl) (by decide) c_42; omega
                refine lv_iload hx hb dX9_sightBy_83 (lv_at hl 3 rfl) ?_
                exact W.iret (v := k_h) hx hb hr (fun t ht hW => ⟨⟨k_h, [(a_k, (oc5 a_h a_j a_pt z28 z29 z30 z31 z32 z33 z34 z35 z36 z37)), (a_h, (oc1 e_wa e_le e_st e_fo e_lc a_l a_g a_b a_s a_p a_w e_gb a_bb)), (a_g, (oc6 6 5 a_gn e_g)), (a_gn, (arI G 30 f_g)), (a_b, (oc6 5 24 a_bn e_b)), (a_bn, (arI G 120 f_b)), (a_p, (oc6 8 5 a_pn e_p)), (a_pn, (arI G 40 f_p)), (a_bb, (arJ G 24 f_bb)), (a_j, (oc2 a_as a_sk)), (a_as, (arI G 8 z39)), (a_sk, (arJ G 50 z40)), (a_l, (arW G 6 f_l)), (a_lo, (oc3 e_cl a_hd a_sr a_cd)), (a_sr, (arI G n_sr f_sr)), (a_cd, (arI G n_cd f_cd)), (a_hd, (arI G n_hd f_hd)), (a_pt, (arI G 200 z38)), (a_wk, (oc9 a_h a_k a_go a_mt)), (a_go, (arJ G 24 f_go)), (a_mt, (arI G 1536 f_mt))], rfl, ⟨k_h, z28, z29, z30, z31, z32, z33, z34, z35, z36, z37, z38, z39, z40, i_26, ⟨by omega, by omega⟩, Or.inr ⟨by omega, by omega⟩, rfl, rfl⟩, by rw [ht]; exact hP.sub [3, 4, 5, 6, 7, 8, 9, 10, 11, 12, 13, 14, 15, 16, 17, 18, 19, 20, 0, 1, 2] rfl, hD.sub [3, 4, 5, 6, 7, 8, 9, 10, 11, 12, 13, 14, 15, 16, 17, 18, 19, 20, 0, 1, 2] (by decide) rfl⟩, hS.F ht⟩) hS.2.2 dX9_sightBy_85
