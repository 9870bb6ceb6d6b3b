theorem dgX12_lateness_0 : ∀ r ∈ ([(0, (.iconst (-1), 1)), (1, (.istore 4, 2)), (3, (.aload_n 0, 1)), (4, (.iload_n 1, 1)), (5, (.iload_n 3, 1)), (6, (.invokevirtual 187, 3)), (9, (.istore 5, 2)), (11, (.iconst 0, 1)), (12, (.istore 6, 2)), (14, (.iload 6, 2)), (16, (.iconst 4, 1)), (17, (.if_icmp .ge 84, 3)), (20, (.iload 5, 2)), (22, (.iconst (-1), 1)), (23, (.if_icmp .eq 78, 3)), (26, (.aload_n 0, 1)), (27, (.iload 5, 2)), (29, (.iload 6, 2)), (31, (.iload_n 3, 1)), (32, (.iconst 0, 1)), (33, (.invokevirtual 401, 3)), (36, (.aload_n 0, 1)), (37, (.getfield 358, 3)), (40, (.ifCond .ne 7, 3)), (43, (.iconst 0, 1)), (44, (.goto 19, 3)), (47, (.iload_n 3, 1)), (48, (.aload_n 0, 1)), (49, (.getfield 82, 3)), (52, (.aload_n 0, 1)), (53, (.getfield 358, 3)), (56, (.iconst 1, 1)), (57, (.isub, 1)), (58, (.iaload, 1)), (59, (.bipush 64, 2)), (61, (.idiv, 1)), (62, (.isub, 1)), (63, (.istore 7, 2)), (65, (.aload_n 0, 1)), (66, (.getfield 371, 3))] : List (Nat × (Instr × Nat))), decode cX12_lateness r.1 = .ok r.2 := by decide +kernel
theorem dX12_lateness_0 : decode cX12_lateness 0 = .ok (.iconst (-1), 1) := dgX12_lateness_0 (0, (.iconst (-1), 1)) (List.mem_of_getElem? (i := 0) rfl)
theorem dX12_lateness_1 : decode cX12_lateness 1 = .ok (.istore 4, 2) := dgX12_lateness_0 (1, (.istore 4, 2)) (List.mem_of_getElem? (i := 1) rfl)
theorem dX12_lateness_3 : decode cX12_lateness 3 = .ok (.aload_n 0, 1) := dgX12_lateness_0 (3, (.aload_n 0, 1)) (List.mem_of_getElem? (i := 2) rfl)
theorem dX12_lateness_4 : decode cX12_lateness 4 = .ok (.iload_n 1, 1) := dgX12_lateness_0 (4, (.iload_n 1, 1)) (List.mem_of_getElem? (i := 3) rfl)
theorem dX12_lateness_5 : decode cX12_lateness 5 = .ok (.iload_n 3, 1) := dgX12_lateness_0 (5, (.iload_n 3, 1)) (List.mem_of_getElem? (i := 4) rfl)
theorem dX12_lateness_6 : decode cX12_lateness 6 = .ok (.invokevirtual 187, 3) := dgX12_lateness_0 (6, (.invokevirtual 187, 3)) (List.mem_of_getElem? (i := 5) rfl)
theorem dX12_lateness_9 : decode cX12_lateness 9 = .ok (.istore 5, 2) := dgX12_lateness_0 (9, (.istore 5, 2)) (List.mem_of_getElem? (i := 6) rfl)
theorem dX12_lateness_11 : decode cX12_lateness 11 = .ok (.iconst 0, 1) := dgX12_lateness_0 (11, (.iconst 0, 1)) (List.mem_of_getElem? (i := 7) rfl)
theorem dX12_lateness_12 : decode cX12_lateness 12 = .ok (.istore 6, 2) := dgX12_lateness_0 (12, (.istore 6, 2)) (List.mem_of_getElem? (i := 8) rfl)
theorem dX12_lateness_14 : decode cX12_lateness 14 = .ok (.iload 6, 2) := dgX12_lateness_0 (14, (.iload 6, 2)) (List.mem_of_getElem? (i := 9) rfl)
theorem dX12_lateness_16 : decode cX12_lateness 16 = .ok (.iconst 4, 1) := dgX12_lateness_0 (16, (.iconst 4, 1)) (List.mem_of_getElem? (i := 10) rfl)
theorem dX12_lateness_17 : decode cX12_lateness 17 = .ok (.if_icmp .ge 84, 3) := dgX12_lateness_0 (17, (.if_icmp .ge 84, 3)) (List.mem_of_getElem? (i := 11) rfl)
theorem dX12_lateness_20 : decode cX12_lateness 20 = .ok (.iload 5, 2) := dgX12_lateness_0 (20, (.iload 5, 2)) (List.mem_of_getElem? (i := 12) rfl)
theorem dX12_lateness_22 : decode cX12_lateness 22 = .ok (.iconst (-1), 1) := dgX12_lateness_0 (22, (.iconst (-1), 1)) (List.mem_of_getElem? (i := 13) rfl)
theorem dX12_lateness_23 : decode cX12_lateness 23 = .ok (.if_icmp .eq 78, 3) := dgX12_lateness_0 (23, (.if_icmp .eq 78, 3)) (List.mem_of_getElem? (i := 14) rfl)
theorem dX12_lateness_26 : decode cX12_lateness 26 = .ok (.aload_n 0, 1) := dgX12_lateness_0 (26, (.aload_n 0, 1)) (List.mem_of_getElem? (i := 15) rfl)
theorem dX12_lateness_27 : decode cX12_lateness 27 = .ok (.iload 5, 2) := dgX12_lateness_0 (27, (.iload 5, 2)) (List.mem_of_getElem? (i := 16) rfl)
theorem dX12_lateness_29 : decode cX12_lateness 29 = .ok (.iload 6, 2) := dgX12_lateness_0 (29, (.iload 6, 2)) (List.mem_of_getElem? (i := 17) rfl)
theorem dX12_lateness_31 : decode cX12_lateness 31 = .ok (.iload_n 3, 1) := dgX12_lateness_0 (31, (.iload_n 3, 1)) (List.mem_of_getElem? (i := 18) rfl)
theorem dX12_lateness_32 : decode cX12_lateness 32 = .ok (.iconst 0, 1) := dgX12_lateness_0 (32, (.iconst 0, 1)) (List.mem_of_getElem? (i := 19) rfl)
theorem dX12_lateness_33 : decode cX12_lateness 33 = .ok (.invokevirtual 401, 3) := dgX12_lateness_0 (33, (.invokevirtual 401, 3)) (List.mem_of_getElem? (i := 20) rfl)
theorem dX12_lateness_36 : decode cX12_lateness 36 = .ok (.aload_n 0, 1) := dgX12_lateness_0 (36, (.aload_n 0, 1)) (List.mem_of_getElem? (i := 21) rfl)
theorem dX12_lateness_37 : decode cX12_lateness 37 = .ok (.getfield 358, 3) := dgX12_lateness_0 (37, (.getfield 358, 3)) (List.mem_of_getElem? (i := 22) rfl)
theorem dX12_lateness_40 : decode cX12_lateness 40 = .ok (.ifCond .ne 7, 3) := dgX12_lateness_0 (40, (.ifCond .ne 7, 3)) (List.mem_of_getElem? (i := 23) rfl)
theorem dX12_lateness_43 : decode cX12_lateness 43 = .ok (.iconst 0, 1) := dgX12_lateness_0 (43, (.iconst 0, 1)) (List.mem_of_getElem? (i := 24) rfl)
theorem dX12_lateness_44 : decode cX12_lateness 44 = .ok (.goto 19, 3) := dgX12_lateness_0 (44, (.goto 19, 3)) (List.mem_of_getElem? (i := 25) rfl)
theorem dX12_lateness_47 : decode cX12_lateness 47 = .ok (.iload_n 3, 1) := dgX12_lateness_0 (47, (.iload_n 3, 1)) (List.mem_of_getElem? (i := 26) rfl)
theorem dX12_lateness_48 : decode cX12_lateness 48 = .ok (.aload_n 0, 1) := dgX12_lateness_0 (48, (.aload_n 0, 1)) (List.mem_of_getElem? (i := 27) rfl)
theorem dX12_lateness_49 : decode cX12_lateness 49 = .ok (.getfield 82, 3) := dgX12_lateness_0 (49, (.getfield 82, 3)) (List.mem_of_getElem? (i := 28) rfl)
theorem dX12_lateness_52 : decode cX12_lateness 52 = .ok (.aload_n 0, 1) := dgX12_lateness_0 (52, (.aload_n 0, 1)) (List.mem_of_getElem? (i := 29) rfl)
theorem dX12_lateness_53 : decode cX12_lateness 53 = .ok (.getfield 358, 3) := dgX12_lateness_0 (53, (.getfield 358, 3)) (List.mem_of_getElem? (i := 30) rfl)
theorem dX12_lateness_56 : decode cX12_lateness 56 = .ok (.iconst 1, 1) := dgX12_lateness_0 (56, (.iconst 1, 1)) (List.mem_of_getElem? (i := 31) rfl)
theorem dX12_lateness_57 : decode cX12_lateness 57 = .ok (.isub, 1) := dgX12_lateness_0 (57, (.isub, 1)) (List.mem_of_getElem? (i := 32) rfl)
theorem dX12_lateness_58 : decode cX12_lateness 58 = .ok (.iaload, 1) := dgX12_lateness_0 (58, (.iaload, 1)) (List.mem_of_getElem? (i := 33) rfl)
theorem dX12_lateness_59 : decode cX12_lateness 59 = .ok (.bipush 64, 2) := dgX12_lateness_0 (59, (.bipush 64, 2)) (List.mem_of_getElem? (i := 34) rfl)
theorem dX12_lateness_61 : decode cX12_lateness 61 = .ok (.idiv, 1) := dgX12_lateness_0 (61, (.idiv, 1)) (List.mem_of_getElem? (i := 35) rfl)
theorem dX12_lateness_62 : decode cX12_lateness 62 = .ok (.isub, 1) := dgX12_lateness_0 (62, (.isub, 1)) (List.mem_of_getElem? (i := 36) rfl)
theorem dX12_lateness_63 : decode cX12_lateness 63 = .ok (.istore 7, 2) := dgX12_lateness_0 (63, (.istore 7, 2)) (List.mem_of_getElem? (i := 37) rfl)
theorem dX12_lateness_65 : decode cX12_lateness 65 = .ok (.aload_n 0, 1) := dgX12_lateness_0 (65, (.aload_n 0, 1)) (List.mem_of_getElem? (i := 38) rfl)
theorem dX12_lateness_66 : decode cX12_lateness 66 = .ok (.getfield 371, 3) := dgX12_lateness_0 (66, (.getfield 371, 3)) (List.mem_of_getElem? (i := 39) rfl)
theorem dgX12_lateness_1 : ∀ r ∈ ([(69, (.iload_n 2, 1)), (70, (.if_icmp .ne 21, 3)), (73, (.iload 4, 2)), (75, (.iconst (-1), 1)), (76, (.if_icmp .eq 10, 3)), (79, (.iload 7, 2)), (81, (.iload 4, 2)), (83, (.if_icmp .ge 8, 3)), (86, (.iload 7, 2)), (88, (.goto 5, 3)), (91, (.iload 4, 2)), (93, (.istore 4, 2)), (95, (.iinc 6 1, 3)), (98, (.goto (-84), 3)), (101, (.iload 4, 2)), (103, (.ireturn, 1))] : List (Nat × (Instr × Nat))), decode cX12_lateness r.1 = .ok r.2 := by decide +kernel
theorem dX12_lateness_69 : decode cX12_lateness 69 = .ok (.iload_n 2, 1) := dgX12_lateness_1 (69, (.iload_n 2, 1)) (List.mem_of_getElem? (i := 0) rfl)
theorem dX12_lateness_70 : decode cX12_lateness 70 = .ok (.if_icmp .ne 21, 3) := dgX12_lateness_1 (70, (.if_icmp .ne 21, 3)) (List.mem_of_getElem? (i := 1) rfl)
theorem dX12_lateness_73 : decode cX12_lateness 73 = .ok (.iload 4, 2) := dgX12_lateness_1 (73, (.iload 4, 2)) (List.mem_of_getElem? (i := 2) rfl)
theorem dX12_lateness_75 : decode cX12_lateness 75 = .ok (.iconst (-1), 1) := dgX12_lateness_1 (75, (.iconst (-1), 1)) (List.mem_of_getElem? (i := 3) rfl)
theorem dX12_lateness_76 : decode cX12_lateness 76 = .ok (.if_icmp .eq 10, 3) := dgX12_lateness_1 (76, (.if_icmp .eq 10, 3)) (List.mem_of_getElem? (i := 4) rfl)
theorem dX12_lateness_79 : decode cX12_lateness 79 = .ok (.iload 7, 2) := dgX12_lateness_1 (79, (.iload 7, 2)) (List.mem_of_getElem? (i := 5) rfl)
theorem dX12_lateness_81 : decode cX12_lateness 81 = .ok (.iload 4, 2) := dgX12_lateness_1 (81, (.iload 4, 2)) (List.mem_of_getElem? (i := 6) rfl)
theorem dX12_lateness_83 : decode cX12_lateness 83 = .ok (.if_icmp .ge 8, 3) := dgX12_lateness_1 (83, (.if_icmp .ge 8, 3)) (List.mem_of_getElem? (i := 7) rfl)
theorem dX12_lateness_86 : decode cX12_lateness 86 = .ok (.iload 7, 2) := dgX12_lateness_1 (86, (.iload 7, 2)) (List.mem_of_getElem? (i := 8) rfl)
theorem dX12_lateness_88 : decode cX12_lateness 88 = .ok (.goto 5, 3) := dgX12_lateness_1 (88, (.goto 5, 3)) (List.mem_of_getElem? (i := 9) rfl)
theorem dX12_lateness_91 : decode cX12_lateness 91 = .ok (.iload 4, 2) := dgX12_lateness_1 (91, (.iload 4, 2)) (List.mem_of_getElem? (i := 10) rfl)
theorem dX12_lateness_93 : decode cX12_lateness 93 = .ok (.istore 4, 2) := dgX12_lateness_1 (93, (.istore 4, 2)) (List.mem_of_getElem? (i := 11) rfl)
theorem dX12_lateness_95 : decode cX12_lateness 95 = .ok (.iinc 6 1, 3) := dgX12_lateness_1 (95, (.iinc 6 1, 3)) (List.mem_of_getElem? (i := 12) rfl)
theorem dX12_lateness_98 : decode cX12_lateness 98 = .ok (.goto (-84), 3) := dgX12_lateness_1 (98, (.goto (-84), 3)) (List.mem_of_getElem? (i := 13) rfl)
theorem dX12_lateness_101 : decode cX12_lateness 101 = .ok (.iload 4, 2) := dgX12_lateness_1 (101, (.iload 4, 2)) (List.mem_of_getElem? (i := 14) rfl)
theorem dX12_lateness_103 : decode cX12_lateness 103 = .ok (.ireturn, 1) := dgX12_lateness_1 (103, (.ireturn, 1)) (List.mem_of_getElem? (i := 15) rfl)
set_option maxHeartbeats 4000000 in
set_option maxRecDepth 100000 in
theorem n_lateness (l : Launch) (G : g5_G) (b_o b_ro b_se b_re b_pt b_rf b_im b_ke b_tp b_nl b_op b_ar b_pi b_pa b_ws b_hw b_ip b_ah b_be b_me b_tr b_ld b_wn : Nat) (sz : Nat) (u_th : Int32) (u_sa : Int32) (u_fd : Int32) (u_td : Int32) (u_fr : Int32) (u_to : Int32) (u_so : Int32) (u_fa : Int32) (u_bd : Int32) (u_nc : Int32) (u_co : Int32) (u_le : Int32) (u_pd : Int32) (u_od : Int32) (u_la : Int32) (u_bk : Int32) (u_ce : Int32) (u_ho : Int32) (u_wy : Int32) (u_bt : Int32) (u_ps : Int32) (u_tg : Int32) (u_sn : Int32) (u_ic : Int32) (u_wd : Int32) (u_id : Int32) (p_1 : Int32) (p_2 : Int32) (p_3 : Int32) (u_wo : Int64) (u_va : Int64) (u_su : Int64) (u_st : Int64) (v_ro : Nat → Int32) (v_se : Nat → Int64) (v_re : Nat → Int64) (v_pt : Nat → Int32) (h_u_td : 0 ≤ u_td.toInt ∧ u_td.toInt ≤ 400) (h_u_fr : 0 ≤ u_fr.toInt ∧ u_fr.toInt ≤ 400) (h_u_to : 0 ≤ u_to.toInt ∧ u_to.toInt ≤ 400) (h_u_bd : 0 ≤ u_bd.toInt ∧ u_bd.toInt ≤ 1) (h_u_nc : 0 ≤ u_nc.toInt ∧ u_nc.toInt ≤ 12) (h_u_co : 0 ≤ u_co.toInt ∧ u_co.toInt ≤ 400) (h_u_pd : 0 ≤ u_pd.toInt ∧ u_pd.toInt ≤ 400) (h_u_la : 0 ≤ u_la.toInt ∧ u_la.toInt ≤ 4840) (h_u_bk : 0 ≤ u_bk.toInt ∧ u_bk.toInt ≤ 1) (h_u_ce : 0 ≤ u_ce.toInt ∧ u_ce.toInt ≤ 63) (h_u_ho : 0 ≤ u_ho.toInt ∧ u_ho.toInt ≤ 23) (h_u_wy : 0 ≤ u_wy.toInt ∧ u_wy.toInt ≤ 3) (h_u_bt : 0 ≤ u_bt.toInt ∧ u_bt.toInt ≤ 1000000) (h_u_ps : 0 ≤ u_ps.toInt ∧ u_ps.toInt ≤ 200) (h_u_ic : 0 ≤ u_ic.toInt ∧ u_ic.toInt ≤ 1) (h_u_id : 0 ≤ u_id.toInt ∧ u_id.toInt ≤ 1) (h_p_1 : 0 ≤ p_1.toInt ∧ p_1.toInt ≤ 4) (h_p_3 : 0 ≤ p_3.toInt ∧ p_3.toInt ≤ 23) (r_ro : MI v_ro) (r_pt : PTI v_pt) : Met l yX12_lateness (wsG yX12_lateness cX12_lateness 8 (some .int)) ({ frames := 7, cells := 0, slots := 0, locals := 176 }) (va_Pc [.ref b_o, .int p_1, .int p_2, .int p_3] (g5_P G [(b_o, (oc12 u_th u_sa b_rf b_ro b_im b_ke u_fd b_tp u_td u_fr u_to u_so u_wo u_fa u_bd u_nc b_nl u_co b_op b_ar u_le b_pi b_pa u_pd u_od b_ws b_hw u_la b_se b_re u_bk u_va u_su u_ce u_ho u_wy u_bt u_ps b_pt u_tg u_sn b_ip u_ic b_ah b_be b_me u_wd b_tr b_ld u_st b_wn u_id)), (b_ro, (arI G 5740 v_ro)), (b_se, (arJ G 13 v_se)), (b_re, (arJ G 400 v_re)), (b_pt, (arI G 200 v_pt))] sz)) (va_Qi (fun (r : Int32) (u : va_W) => (∃ (o_r : Int32) (o_la : Int32) (o_bk : Int32) (o_va : Int64) (o_su : Int64) (o_ce : Int32) (o_ho : Int32) (o_wy : Int32) (o_bt : Int32) (o_ps : Int32) (o_tg : Int32) (o_sn : Int32) (o_se : Nat → Int64) (o_re : Nat → Int64) (o_pt : Nat → Int32), (0 ≤ o_la.toInt ∧ o_la.toInt ≤ 4840) ∧ (0 ≤ o_bk.toInt ∧ o_bk.toInt ≤ 1) ∧ (0 ≤ o_ce.toInt ∧ o_ce.toInt ≤ 63) ∧ (0 ≤ o_ho.toInt ∧ o_ho.toInt ≤ 23) ∧ (0 ≤ o_wy.toInt ∧ o_wy.toInt ≤ 3) ∧ (0 ≤ o_bt.toInt ∧ o_bt.toInt ≤ 1000000) ∧ (0 ≤ o_ps.toInt ∧ o_ps.toInt ≤ 200) ∧ (PTI o_pt) ∧ (r = o_r) ∧ (u = [(b_o, (oc12 u_th u_sa b_rf b_ro b_im b_ke u_fd b_tp u_td u_fr u_to u_so u_wo u_fa u_bd u_nc b_nl u_co b_op b_ar u_le b_pi b_pa u_pd u_od b_ws b_hw o_la b_se b_re o_bk o_va o_su o_ce o_ho o_wy o_bt o_ps b_pt o_tg o_sn b_ip u_ic b_ah b_be b_me u_wd b_tr b_ld u_st b_wn u_id)), (b_ro, (arI G 5740 v_ro)), (b_se, (arJ G 13 o_se)), (b_re, (arJ G 400 o_re)), (b_pt, (arI G 200 o_pt))]))) (g5_B G (va_A [(b_o, (oc12 u_th u_sa b_rf b_ro b_im b_ke u_fd b_tp u_td u_fr u_to u_so u_wo u_fa u_bd u_nc b_nl u_co b_op b_ar u_le b_pi b_pa u_pd u_od b_ws b_hw u_la b_se b_re u_bk u_va u_su u_ce u_ho u_wy u_bt u_ps b_pt u_tg u_sn b_ip u_ic b_ah b_be b_me u_wd b_tr b_ld u_st b_wn u_id)), (b_ro, (arI G 5740 v_ro)), (b_se, (arJ G 13 v_se)), (b_re, (arJ G 400 v_re)), (b_pt, (arI G 200 v_pt))] sz)) (va_A [(b_o, (oc12 u_th u_sa b_rf b_ro b_im b_ke u_fd b_tp u_td u_fr u_to u_so u_wo u_fa u_bd u_nc b_nl u_co b_op b_ar u_le b_pi b_pa u_pd u_od b_ws b_hw u_la b_se b_re u_bk u_va u_su u_ce u_ho u_wy u_bt u_ps b_pt u_tg u_sn b_ip u_ic b_ah b_be b_me u_wd b_tr b_ld u_st b_wn u_id)), (b_ro, (arI G 5740 v_ro)), (b_se, (arJ G 13 v_se)), (b_re, (arJ G 400 v_re)), (b_pt, (arI G 200 v_pt))] sz)) 0 0 (va_A [(b_o, (oc12 u_th u_sa b_rf b_ro b_im b_ke u_fd b_tp u_td u_fr u_to u_so u_wo u_fa u_bd u_nc b_nl u_co b_op b_ar u_le b_pi b_pa u_pd u_od b_ws b_hw u_la b_se b_re u_bk u_va u_su u_ce u_ho u_wy u_bt u_ps b_pt u_tg u_sn b_ip u_ic b_ah b_be b_me u_wd b_tr b_ld u_st b_wn u_id)), (b_ro, (arI G 5740 v_ro)), (b_se, (arJ G 13 v_se)), (b_re, (arJ G 400 v_re)), (b_pt, (arI G 200 v_pt))] sz) := by
  refine Met.ofW (cc := cX12_lateness) (maxL := 8) (ret := (some .int)) (by decide) rfl ?_
  intro p e s m args below meth c s₁ B hml hv
  obtain ⟨rfl, hsz, hP, hK, hD0, hN, hT⟩ := hv
  have hx := B.exec
  have hb := B.bytes
  have hr := B.returns
  have hts : ∀ w ∈ tblG, w.before _ s = true := fun w h => atoms_spec (ws := (wsG yX12_lateness cX12_lateness 8 (some .int))) B.pre w (List.mem_cons_of_mem _ h)
  have hown : s.vm.findClass RX12 = some m.cls := findClass_of_methodNamed B.named
  have hlocks := B.notSynchronized
  subst hsz
  have hD := hD0.self (sz := s.heap.size)
  generalize hAe : va_A [(b_o, (oc12 u_th u_sa b_rf b_ro b_im b_ke u_fd b_tp u_td u_fr u_to u_so u_wo u_fa u_bd u_nc b_nl u_co b_op b_ar u_le b_pi b_pa u_pd u_od b_ws b_hw u_la b_se b_re u_bk u_va u_su u_ce u_ho u_wy u_bt u_ps b_pt u_tg u_sn b_ip u_ic b_ah b_be b_me u_wd b_tr b_ld u_st b_wn u_id)), (b_ro, (arI G 5740 v_ro)), (b_se, (arJ G 13 v_se)), (b_re, (arJ G 400 v_re)), (b_pt, (arI G 200 v_pt))] s.heap.size = A at hD hT ⊢
  have hA : ∀ q : Nat, s.heap.size ≤ q → A q := fun q h => by rw [← hAe]; exact Or.inr h
  have hS : va_S A s.heap s.heap [] := va_S.rf
  have hP : va_P G.1 vwCl [(b_o, (oc12 u_th u_sa b_rf b_ro b_im b_ke u_fd b_tp u_td u_fr u_to u_so u_wo u_fa u_bd u_nc b_nl u_co b_op b_ar u_le b_pi b_pa u_pd u_od b_ws b_hw u_la b_se b_re u_bk u_va u_su u_ce u_ho u_wy u_bt u_ps b_pt u_tg u_sn b_ip u_ic b_ah b_be b_me u_wd b_tr b_ld u_st b_wn u_id)), (b_ro, (arI G 5740 v_ro)), (b_se, (arJ G 13 v_se)), (b_re, (arJ G 400 v_re)), (b_pt, (arI G 200 v_pt))] s.heap := hP
  have hl := lv_entry ([.ref b_o, .int p_1, .int p_2, .int p_3]) (n := 8) (Nat.le_of_ble_eq_true rfl)
  rw [lg_entry_eq]
  generalize (lg_sl ([.ref b_o, .int p_1, .int p_2, .int p_3]) ++ List.replicate (8 - (lg_sl ([.ref b_o, .int p_1, .int p_2, .int p_3])).length) Slot.unset).toArray = ls at hl ⊢
  have hl : lv_has ls 8 [(0, .ref b_o), (1, .int p_1), (2, .int p_2), (3, .int p_3)] := hl
  refine lv_iconst (v := (-1)) hx hb dX12_lateness_0 (by decide) ?_
  refine lv_istore (lv' := [(4, .int (-1)), (0, .ref b_o), (1, .int p_1), (2, .int p_2), (3, .int p_3)]) hx hb dX12_lateness_1 hl (by decide) rfl (fun ls hl => ?_)
  refine lv_aload_n hx hb dX12_lateness_3 rfl (lv_at hl 1 rfl) ?_
  refine lv_iload_n hx hb dX12_lateness_4 rfl (lv_at hl 2 rfl) ?_
  refine lv_iload_n hx hb dX12_lateness_5 rfl (lv_at hl 4 rfl) ?_
  obtain ⟨hPc, hDc, hFc⟩ := g5_sub3 (wc := [(b_o, (oc12 u_th u_sa b_rf b_ro b_im b_ke u_fd b_tp u_td u_fr u_to u_so u_wo u_fa u_bd u_nc b_nl u_co b_op b_ar u_le b_pi b_pa u_pd u_od b_ws b_hw u_la b_se b_re u_bk u_va u_su u_ce u_ho u_wy u_bt u_ps b_pt u_tg u_sn b_ip u_ic b_ah b_be b_me u_wd b_tr b_ld u_st b_wn u_id)), (b_ro, (arI G 5740 v_ro))]) hP hD hS hA [0, 1] (by decide) rfl
  refine va_calli (va_runV (As := [.int p_1, .int p_3]) (rest := []) ⟨hx, hb, hml, hown, hts⟩ (n_whereIsX l G b_o b_ro b_rf b_im b_ke b_tp b_nl b_op b_ar b_pi b_pa b_ws b_hw b_se b_re b_pt b_ip b_ah b_be b_me b_tr b_ld b_wn s.heap.size u_th u_sa u_fd u_td u_fr u_to u_so u_fa u_bd u_nc u_co u_le u_pd u_od u_la u_bk u_ce u_ho u_wy u_bt u_ps u_tg u_sn u_ic u_wd u_id p_1 p_3 u_wo u_va u_su u_st v_ro h_u_td h_u_fr h_u_to h_u_bd h_u_nc h_u_co h_u_pd h_u_la h_u_bk h_u_ce h_u_ho h_u_wy h_u_bt h_u_ps h_u_ic h_u_id h_p_1 h_p_3 (r_ro)) (cwV 2 hts gV_X12_187 rfl rfl rfl hv_X12_whereIs ⟨Nat.le_of_ble_eq_true rfl, Nat.le_of_ble_eq_true rfl⟩) (g5_preV hPc hK hDc hN hT hS hFc (ci := 12) (q0 := 0) rfl rfl) rfl rfl hl.1 rfl (lv_room (Nat.le_of_ble_eq_true rfl)) dX12_lateness_6 ⟨Nat.le_of_ble_eq_true rfl, Nat.le_of_ble_eq_true rfl⟩) hS (fun q _ h => hFc q h) hFc (fun r u t H1 locs ht hvm hw hB hz1 hk1 hS => ?_)
  obtain ⟨hP1, hD1⟩ := hB
  rw [ht] at hP1
  obtain ⟨z3, i_1, i_2, y4, rfl⟩ := hw
  have i_1 : (-1) ≤ z3.toInt ∧ z3.toInt ≤ 63 := i_1
  have i_2 : z3.toInt = (v_ro ((110 + (24 * p_1)) + p_3).toNatClampNeg).toInt := i_2
  obtain ⟨hP, hD⟩ := va_join (wr := [(b_se, (arJ G 13 v_se)), (b_re, (arJ G 400 v_re)), (b_pt, (arI G 200 v_pt))]) hP hD [0, 1] [2, 3, 4] rfl rfl (by decide) (by decide) hk1 hFc hP1 hD1
  generalize H1 = H at hP hS ⊢
  refine g5_rs [(b_se, (arJ G 13 v_se)), (b_re, (arJ G 400 v_re)), (b_pt, (arI G 200 v_pt)), (b_o, (oc12 u_th u_sa b_rf b_ro b_im b_ke u_fd b_tp u_td u_fr u_to u_so u_wo u_fa u_bd u_nc b_nl u_co b_op b_ar u_le b_pi b_pa u_pd u_od b_ws b_hw u_la b_se b_re u_bk u_va u_su u_ce u_ho u_wy u_bt u_ps b_pt u_tg u_sn b_ip u_ic b_ah b_be b_me u_wd b_tr b_ld u_st b_wn u_id)), (b_ro, (arI G 5740 v_ro))] hP hD (fun hP hD => ?_)
  refine g5_ti (v := z3) y4 ?_
  refine lv_istore (lv' := [(5, .int z3), (4, .int (-1)), (0, .ref b_o), (1, .int p_1), (2, .int p_2), (3, .int p_3)]) hx hb dX12_lateness_9 hl (by decide) rfl (fun ls hl => ?_)
  refine lv_iconst (v := 0) hx hb dX12_lateness_11 (by decide) ?_
  refine lv_istore (lv' := [(6, .int 0), (5, .int z3), (4, .int (-1)), (0, .ref b_o), (1, .int p_1), (2, .int p_2), (3, .int p_3)]) hx hb dX12_lateness_12 hl (by decide) rfl (fun ls hl => ?_)
  refine g5_loop (α := (Int32) × (Int32) × (Int32) × (Int32) × (Int64) × (Int64) × (Int32) × (Int32) × (Int32) × (Int32) × (Int32) × (Int32) × (Int32) × (Nat → Int64) × (Nat → Int64) × (Nat → Int32)) (fun (q : (Int32) × (Int32) × (Int32) × (Int32) × (Int64) × (Int64) × (Int32) × (Int32) × (Int32) × (Int32) × (Int32) × (Int32) × (Int32) × (Nat → Int64) × (Nat → Int64) × (Nat → Int32)) (ls : Array Slot) (H : Heap) (locs : List Loc) => match q with | (k14_6, k14_4, k14_la, k14_bk, k14_va, k14_su, k14_ce, k14_ho, k14_wy, k14_bt, k14_ps, k14_tg, k14_sn, k14_se, k14_re, k14_pt) => lv_has ls 8 [(4, .int k14_4), (6, .int k14_6), (5, .int z3), (0, .ref b_o), (1, .int p_1), (2, .int p_2), (3, .int p_3)] ∧ va_P G.1 vwCl [(b_se, (arJ G 13 k14_se)), (b_re, (arJ G 400 k14_re)), (b_pt, (arI G 200 k14_pt)), (b_o, (oc12 u_th u_sa b_rf b_ro b_im b_ke u_fd b_tp u_td u_fr u_to u_so u_wo u_fa u_bd u_nc b_nl u_co b_op b_ar u_le b_pi b_pa u_pd u_od b_ws b_hw k14_la b_se b_re k14_bk k14_va k14_su k14_ce k14_ho k14_wy k14_bt k14_ps b_pt k14_tg k14_sn b_ip u_ic b_ah b_be b_me u_wd b_tr b_ld u_st b_wn u_id)), (b_ro, (arI G 5740 v_ro))] H ∧ va_D A [(b_se, (arJ G 13 k14_se)), (b_re, (arJ G 400 k14_re)), (b_pt, (arI G 200 k14_pt)), (b_o, (oc12 u_th u_sa b_rf b_ro b_im b_ke u_fd b_tp u_td u_fr u_to u_so u_wo u_fa u_bd u_nc b_nl u_co b_op b_ar u_le b_pi b_pa u_pd u_od b_ws b_hw k14_la b_se b_re k14_bk k14_va k14_su k14_ce k14_ho k14_wy k14_bt k14_ps b_pt k14_tg k14_sn b_ip u_ic b_ah b_be b_me u_wd b_tr b_ld u_st b_wn u_id)), (b_ro, (arI G 5740 v_ro))] ∧ va_S A s.heap H locs ∧ (0 ≤ k14_6.toInt ∧ k14_6.toInt ≤ 4) ∧ (0 ≤ k14_la.toInt ∧ k14_la.toInt ≤ 4840) ∧ (0 ≤ k14_bk.toInt ∧ k14_bk.toInt ≤ 1) ∧ (0 ≤ k14_ce.toInt ∧ k14_ce.toInt ≤ 63) ∧ (0 ≤ k14_ho.toInt ∧ k14_ho.toInt ≤ 23) ∧ (0 ≤ k14_wy.toInt ∧ k14_wy.toInt ≤ 3) ∧ (0 ≤ k14_bt.toInt ∧ k14_bt.toInt ≤ 1000000) ∧ (0 ≤ k14_ps.toInt ∧ k14_ps.toInt ≤ 200) ∧ (PTI k14_pt)) (fun (q : (Int32) × (Int32) × (Int32) × (Int32) × (Int64) × (Int64) × (Int32) × (Int32) × (Int32) × (Int32) × (Int32) × (Int32) × (Int32) × (Nat → Int64) × (Nat → Int64) × (Nat → Int32)) => match q with | (k14_6, k14_4, k14_la, k14_bk, k14_va, k14_su, k14_ce, k14_ho, k14_wy, k14_bt, k14_ps, k14_tg, k14_sn, k14_se, k14_re, k14_pt) => Int.toNat (4 - k14_6.toInt)) (0, (-1), u_la, u_bk, u_va, u_su, u_ce, u_ho, u_wy, u_bt, u_ps, u_tg, u_sn, v_se, v_re, v_pt) ⟨lv_sub hl [2, 0, 1, 3, 4, 5, 6] rfl, hP, hD, hS, ⟨by decide, by decide⟩, h_u_la, h_u_bk, h_u_ce, h_u_ho, h_u_wy, h_u_bt, h_u_ps, r_pt⟩ ?_
  rintro ⟨k14_6, k14_4, k14_la, k14_bk, k14_va, k14_su, k14_ce, k14_ho, k14_wy, k14_bt, k14_ps, k14_tg, k14_sn, k14_se, k14_re, k14_pt⟩ ls H locs ⟨hl, hP, hD, hS, i_5, i_6, i_7, i_8, i_9, i_10, i_11, i_12, i_13⟩ ih_14_14
  have hl : lv_has ls 8 [(4, .int k14_4), (6, .int k14_6), (5, .int z3), (0, .ref b_o), (1, .int p_1), (2, .int p_2), (3, .int p_3)] := hl
  have i_5 : 0 ≤ k14_6.toInt ∧ k14_6.toInt ≤ 4 := i_5
  have i_6 : 0 ≤ k14_la.toInt ∧ k14_la.toInt ≤ 4840 := i_6
  have i_7 : 0 ≤ k14_bk.toInt ∧ k14_bk.toInt ≤ 1 := i_7
  have i_8 : 0 ≤ k14_ce.toInt ∧ k14_ce.toInt ≤ 63 := i_8
  have i_9 : 0 ≤ k14_ho.toInt ∧ k14_ho.toInt ≤ 23 := i_9
  have i_10 : 0 ≤ k14_wy.toInt ∧ k14_wy.toInt ≤ 3 := i_10
  have i_11 : 0 ≤ k14_bt.toInt ∧ k14_bt.toInt ≤ 1000000 := i_11
  have i_12 : 0 ≤ k14_ps.toInt ∧ k14_ps.toInt ≤ 200 := i_12
  have i_13 : PTI k14_pt := i_13
  refine g5_rs [(b_se, (arJ G 13 k14_se)), (b_re, (arJ G 400 k14_re)), (b_pt, (arI G 200 k14_pt)), (b_o, (oc12 u_th u_sa b_rf b_ro b_im b_ke u_fd b_tp u_td u_fr u_to u_so u_wo u_fa u_bd u_nc b_nl u_co b_op b_ar u_le b_pi b_pa u_pd u_od b_ws b_hw k14_la b_se b_re k14_bk k14_va k14_su k14_ce k14_ho k14_wy k14_bt k14_ps b_pt k14_tg k14_sn b_ip u_ic b_ah b_be b_me u_wd b_tr b_ld u_st b_wn u_id)), (b_ro, (arI G 5740 v_ro))] hP hD (fun hP hD => ?_)
  refine lv_iload hx hb dX12_lateness_14 (lv_at hl 1 rfl) ?_
  refine lv_iconst (v := 4) hx hb dX12_lateness_16 (by decide) ?_
  refine lv_icmp_ge (tgt := 101) hx hb dX12_lateness_17 (by decide) (fun c_15 => ?_) (fun c_15 => ?_)
  ·
    have i_15 : k14_6.toInt ≥ 4 := by have z := g5_ge (a := k14_6.toInt) (b := 4) (by rfl) (by decide) c_15; omega
    refine lv_iload hx hb dX12_lateness_101 (lv_at hl 0 rfl) ?_
    exact W.iret (v := k14_4) hx hb hr (fun t ht hW => ⟨⟨k14_4, [(b_o, (oc12 u_th u_sa b_rf b_ro b_im b_ke u_fd b_tp u_td u_fr u_to u_so u_wo u_fa u_bd u_nc b_nl u_co b_op b_ar u_le b_pi b_pa u_pd u_od b_ws b_hw k14_la b_se b_re k14_bk k14_va k14_su k14_ce k14_ho k14_wy k14_bt k14_ps b_pt k14_tg k14_sn b_ip u_ic b_ah b_be b_me u_wd b_tr b_ld u_st b_wn u_id)), (b_ro, (arI G 5740 v_ro)), (b_se, (arJ G 13 k14_se)), (b_re, (arJ G 400 k14_re)), (b_pt, (arI G 200 k14_pt))], rfl, ⟨k14_4, k14_la, k14_bk, k14_va, k14_su, k14_ce, k14_ho, k14_wy, k14_bt, k14_ps, k14_tg, k14_sn, k14_se, k14_re, k14_pt, i_6, i_7, i_8, i_9, i_10, i_11, i_12, i_13, rfl, rfl⟩, by rw [ht]; exact hP.sub [3, 4, 0, 1, 2] rfl, hD.sub [3, 4, 0, 1, 2] (by decide) rfl⟩, hS.F ht⟩) hS.2.2 dX12_lateness_103
  ·
    have i_15 : k14_6.toInt < 4 := by have z := g5_geN (a := k14_6.toInt) (b := 4) (by rfl) (by decide) c_15; omega
    refine lv_iload hx hb dX12_lateness_20 (lv_at hl 2 rfl) ?_
    refine lv_iconst (v := (-1)) hx hb dX12_lateness_22 (by decide) ?_
    refine lv_icmp_eq (tgt := 101) hx hb dX12_lateness_23 (by decide) (fun c_16 => ?_) (fun c_16 => ?_)
    ·
      have i_16 : z3.toInt = (-1) := by have z := g5_eq (a := z3.toInt) (b := (-1)) (by rfl) (by decide) c_16; omega
      refine lv_iload hx hb dX12_lateness_101 (lv_at hl 0 rfl) ?_
      exact W.iret (v := k14_4) hx hb hr (fun t ht hW => ⟨⟨k14_4, [(b_o, (oc12 u_th u_sa b_rf b_ro b_im b_ke u_fd b_tp u_td u_fr u_to u_so u_wo u_fa u_bd u_nc b_nl u_co b_op b_ar u_le b_pi b_pa u_pd u_od b_ws b_hw k14_la b_se b_re k14_bk k14_va k14_su k14_ce k14_ho k14_wy k14_bt k14_ps b_pt k14_tg k14_sn b_ip u_ic b_ah b_be b_me u_wd b_tr b_ld u_st b_wn u_id)), (b_ro, (arI G 5740 v_ro)), (b_se, (arJ G 13 k14_se)), (b_re, (arJ G 400 k14_re)), (b_pt, (arI G 200 k14_pt))], rfl, ⟨k14_4, k14_la, k14_bk, k14_va, k14_su, k14_ce, k14_ho, k14_wy, k14_bt, k14_ps, k14_tg, k14_sn, k14_se, k14_re, k14_pt, i_6, i_7, i_8, i_9, i_10, i_11, i_12, i_13, rfl, rfl⟩, by rw [ht]; exact hP.sub [3, 4, 0, 1, 2] rfl, hD.sub [3, 4, 0, 1, 2] (by decide) rfl⟩, hS.F ht⟩) hS.2.2 dX12_lateness_103
    ·
      have n_16 : gNe (z3.toInt) ((-1)) := by have z := g5_eqN (a := z3.toInt) (b := (-1)) (by rfl) (by decide) c_16; unfold gNe; omega
      have i_16 : z3.toInt ≥ 0 := by have z := g5_eqN (a := z3.toInt) (b := (-1)) (by rfl) (by decide) c_16; omega
      refine lv_aload_n hx hb dX12_lateness_26 rfl (lv_at hl 3 rfl) ?_
      refine lv_iload hx hb dX12_lateness_27 (lv_at hl 2 rfl) ?_
      refine lv_iload hx hb dX12_lateness_29 (lv_at hl 1 rfl) ?_
      refine lv_iload_n hx hb dX12_lateness_31 rfl (lv_at hl 6 rfl) ?_
      refine lv_iconst (v := 0) hx hb dX12_lateness_32 (by decide) ?_
      obtain ⟨hPc, hDc, hFc⟩ := g5_sub3 (wc := [(b_o, (oc12 u_th u_sa b_rf b_ro b_im b_ke u_fd b_tp u_td u_fr u_to u_so u_wo u_fa u_bd u_nc b_nl u_co b_op b_ar u_le b_pi b_pa u_pd u_od b_ws b_hw k14_la b_se b_re k14_bk k14_va k14_su k14_ce k14_ho k14_wy k14_bt k14_ps b_pt k14_tg k14_sn b_ip u_ic b_ah b_be b_me u_wd b_tr b_ld u_st b_wn u_id)), (b_ro, (arI G 5740 v_ro)), (b_se, (arJ G 13 k14_se)), (b_re, (arJ G 400 k14_re)), (b_pt, (arI G 200 k14_pt))]) hP hD hS hA [3, 4, 0, 1, 2] (by decide) rfl
      refine va_callv (va_runV (As := [.int z3, .int k14_6, .int p_3, .int 0]) (rest := []) ⟨hx, hb, hml, hown, hts⟩ (n_go l G b_o b_ro b_se b_re b_pt b_rf b_im b_ke b_tp b_nl b_op b_ar b_pi b_pa b_ws b_hw b_ip b_ah b_be b_me b_tr b_ld b_wn H.size u_th u_sa u_fd u_td u_fr u_to u_so u_fa u_bd u_nc u_co u_le u_pd u_od k14_la k14_bk k14_ce k14_ho k14_wy k14_bt k14_ps k14_tg k14_sn u_ic u_wd u_id z3 k14_6 p_3 0 u_wo k14_va k14_su u_st v_ro k14_se k14_re k14_pt h_u_td h_u_fr h_u_to h_u_bd h_u_nc h_u_co h_u_pd i_6 i_7 i_8 i_9 i_10 i_11 i_12 h_u_ic h_u_id ⟨by omega, by omega⟩ ⟨by omega, by omega⟩ h_p_3 (r_ro) (i_13)) (cwV 4 hts gV_X12_401 rfl rfl rfl hv_X12_go ⟨Nat.le_of_ble_eq_true rfl, Nat.le_of_ble_eq_true rfl⟩) (g5_preV hPc hK hDc hN hT hS hFc (ci := 12) (q0 := 0) rfl rfl) rfl rfl hl.1 rfl (lv_room (Nat.le_of_ble_eq_true rfl)) dX12_lateness_33 ⟨Nat.le_of_ble_eq_true rfl, Nat.le_of_ble_eq_true rfl⟩) hS (fun q _ h => hFc q h) hFc (fun u t H1 locs ht hvm hw hB hz1 hk1 hS => ?_)
      obtain ⟨hP1, hD1⟩ := hB
      rw [ht] at hP1
      obtain ⟨z25, z26, z27, z28, z29, z30, z31, z32, z33, z34, z35, z36, z37, z38, i_17, i_18, i_19, i_20, i_21, i_22, i_23, i_24, rfl⟩ := hw
      have i_17 : 0 ≤ z25.toInt ∧ z25.toInt ≤ 4840 := i_17
      have i_18 : 0 ≤ z26.toInt ∧ z26.toInt ≤ 1 := i_18
      have i_19 : 0 ≤ z29.toInt ∧ z29.toInt ≤ 63 := i_19
      have i_20 : 0 ≤ z30.toInt ∧ z30.toInt ≤ 23 := i_20
      have i_21 : 0 ≤ z31.toInt ∧ z31.toInt ≤ 3 := i_21
      have i_22 : 0 ≤ z32.toInt ∧ z32.toInt ≤ 1000000 := i_22
      have i_23 : 0 ≤ z33.toInt ∧ z33.toInt ≤ 200 := i_23
      have i_24 : PTI z38 := i_24
      obtain ⟨hP, hD⟩ := va_join (wr := []) hP hD [3, 4, 0, 1, 2] [] rfl rfl (by decide) (by decide) hk1 hFc hP1 hD1
      generalize H1 = H at hP hS ⊢
      refine g5_rs [(b_o, (oc12 u_th u_sa b_rf b_ro b_im b_ke u_fd b_tp u_td u_fr u_to u_so u_wo u_fa u_bd u_nc b_nl u_co b_op b_ar u_le b_pi b_pa u_pd u_od b_ws b_hw z25 b_se b_re z26 z27 z28 z29 z30 z31 z32 z33 b_pt z34 z35 b_ip u_ic b_ah b_be b_me u_wd b_tr b_ld u_st b_wn u_id)), (b_ro, (arI G 5740 v_ro)), (b_se, (arJ G 13 z36)), (b_re, (arJ G 400 z37)), (b_pt, (arI G 200 z38))] hP hD (fun hP hD => ?_)
      refine lv_aload_n hx hb dX12_lateness_36 rfl (lv_at hl 3 rfl) ?_
      refine va_get (D := G.1) (ci := 12) (v := .int z33) (C := RX12) (T := TX12) (N := 52) hx hb hts inG_X12 hown hK hP 0 rfl rfl 37 (by decide) (hts _ fl_X12_358) (fun _ h9 => h9) rfl dX12_lateness_37 ?_
      refine lv_if_ne (tgt := 47) hx hb dX12_lateness_40 (by decide) (fun c_39 => ?_) (fun c_39 => ?_)
      ·
        have n_39 : gNe (z33.toInt) (0) := by have z := g5_ne (a := z33.toInt) (b := 0) (by rfl) (by decide) c_39; unfold gNe; omega
        have i_39 : z33.toInt ≥ 1 := by have z := g5_ne (a := z33.toInt) (b := 0) (by rfl) (by decide) c_39; omega
        refine lv_iload_n hx hb dX12_lateness_47 rfl (lv_at hl 6 rfl) ?_
        refine lv_aload_n hx hb dX12_lateness_48 rfl (lv_at hl 3 rfl) ?_
        refine va_get (D := G.1) (ci := 12) (v := .ref b_pt) (C := RX12) (T := TX12) (N := 52) hx hb hts inG_X12 hown hK hP 0 rfl rfl 38 (by decide) (hts _ fl_X12_82) (fun _ h9 => h9) rfl dX12_lateness_49 ?_
        refine lv_aload_n hx hb dX12_lateness_52 rfl (lv_at hl 3 rfl) ?_
        refine va_get (D := G.1) (ci := 12) (v := .int z33) (C := RX12) (T := TX12) (N := 52) hx hb hts inG_X12 hown hK hP 0 rfl rfl 37 (by decide) (hts _ fl_X12_358) (fun _ h9 => h9) rfl dX12_lateness_53 ?_
        refine lv_iconst (v := 1) hx hb dX12_lateness_56 (by decide) ?_
        refine lv_isub hx hb dX12_lateness_57 ?_
        have t_40 : (z33 - 1).toInt = z33.toInt - 1 := g5_isub (a := z33.toInt) (b := 1) (by rfl) (by decide) (by omega) (by omega)
        refine va_iald hx hb hK hP 4 0 rfl rfl (i := (z33 - 1)) (vp_in_iff.mpr ⟨by omega, by omega⟩) dX12_lateness_58 ?_
        have hr_41 : 0 ≤ (z38 (z33 - 1).toNatClampNeg).toInt ∧ (z38 (z33 - 1).toNatClampNeg).toInt ≤ 1535 := i_24 ((z33 - 1).toNatClampNeg)
        refine lv_bipush (v := 64) hx hb dX12_lateness_59 (by decide) ?_
        refine lv_idiv hx hb dX12_lateness_61 (by decide) ?_
        have t_42 : ((z38 (z33 - 1).toNatClampNeg) / 64).toInt = (z38 (z33 - 1).toNatClampNeg).toInt / 64 := g5_idiv (a := (z38 (z33 - 1).toNatClampNeg).toInt) (b := 64) rfl (by decide) (by omega) (by decide)
        refine lv_isub hx hb dX12_lateness_62 ?_
        have t_43 : (p_3 - ((z38 (z33 - 1).toNatClampNeg) / 64)).toInt = p_3.toInt - ((z38 (z33 - 1).toNatClampNeg) / 64).toInt := g5_isub (a := p_3.toInt) (b := ((z38 (z33 - 1).toNatClampNeg) / 64).toInt) (by rfl) (by rfl) (by omega) (by omega)
        refine lv_istore (lv' := [(7, .int (p_3 - ((z38 (z33 - 1).toNatClampNeg) / 64))), (4, .int k14_4), (6, .int k14_6), (5, .int z3), (0, .ref b_o), (1, .int p_1), (2, .int p_2), (3, .int p_3)]) hx hb dX12_lateness_63 hl (by decide) rfl (fun ls hl => ?_)
        refine lv_aload_n hx hb dX12_lateness_65 rfl (lv_at hl 4 rfl) ?_
        refine va_get (D := G.1) (ci := 12) (v := .int z35) (C := RX12) (T := TX12) (N := 52) hx hb hts inG_X12 hown hK hP 0 rfl rfl 40 (by decide) (hts _ fl_X12_371) (fun _ h9 => h9) rfl dX12_lateness_66 ?_
        refine lv_iload_n hx hb dX12_lateness_69 rfl (lv_at hl 6 rfl) ?_
        refine lv_icmp_ne (tgt := 91) hx hb dX12_lateness_70 (by decide) (fun c_44 => ?_) (fun c_44 => ?_)
        ·
          have n_44 : gNe (z35.toInt) (p_2.toInt) := by have z := g5_ne (a := z35.toInt) (b := p_2.toInt) (by rfl) (by rfl) c_44; unfold gNe; omega
          refine lv_iload hx hb dX12_lateness_91 (lv_at hl 1 rfl) ?_
          refine lv_istore (lv' := [(4, .int k14_4), (7, .int (p_3 - ((z38 (z33 - 1).toNatClampNeg) / 64))), (6, .int k14_6), (5, .int z3), (0, .ref b_o), (1, .int p_1), (2, .int p_2), (3, .int p_3)]) hx hb dX12_lateness_93 hl (by decide) rfl (fun ls hl => ?_)
          refine lv_iinc (v := (k14_6 + 1)) (lv' := [(6, .int (k14_6 + 1)), (4, .int k14_4), (7, .int (p_3 - ((z38 (z33 - 1).toNatClampNeg) / 64))), (5, .int z3), (0, .ref b_o), (1, .int p_1), (2, .int p_2), (3, .int p_3)]) hx hb dX12_lateness_95 hl (k := 2) rfl rfl (by decide) rfl (fun ls hl => ?_)
          have t_45 : (k14_6 + 1).toInt = k14_6.toInt + 1 := g5_iadd (a := k14_6.toInt) (b := 1) rfl (by decide) (by omega) (by omega)
          refine lv_goto (tgt := 14) hx hb dX12_lateness_98 (by decide) ?_
          exact ih_14_14 ((k14_6 + 1), k14_4, z25, z26, z27, z28, z29, z30, z31, z32, z33, z34, z35, z36, z37, z38) ls H locs (show Int.toNat (4 - (k14_6 + 1).toInt) < Int.toNat (4 - k14_6.toInt) from g_up (show k14_6.toInt < (k14_6 + 1).toInt by omega) (show k14_6.toInt < 4 by omega)) ⟨lv_sub hl [1, 0, 3, 4, 5, 6, 7] rfl, hP.sub [2, 3, 4, 0, 1] rfl, hD.sub [2, 3, 4, 0, 1] (by decide) rfl, hS, ⟨by omega, by omega⟩, i_17, i_18, i_19, i_20, i_21, i_22, i_23, i_24⟩
        ·
          have i_44 : z35.toInt = p_2.toInt := by have z := g5_neN (a := z35.toInt) (b := p_2.toInt) (by rfl) (by rfl) c_44; omega
          refine lv_iload hx hb dX12_lateness_73 (lv_at hl 1 rfl) ?_
          refine lv_iconst (v := (-1)) hx hb dX12_lateness_75 (by decide) ?_
          refine lv_icmp_eq (tgt := 86) hx hb dX12_lateness_76 (by decide) (fun c_46 => ?_) (fun c_46 => ?_)
          ·
            have i_46 : k14_4.toInt = (-1) := by have z := g5_eq (a := k14_4.toInt) (b := (-1)) (by rfl) (by decide) c_46; omega
            refine lv_iload hx hb dX12_lateness_86 (lv_at hl 0 rfl) ?_
            refine lv_goto (tgt := 93) hx hb dX12_lateness_88 (by decide) ?_
            refine lv_istore (lv' := [(4, .int (p_3 - ((z38 (z33 - 1).toNatClampNeg) / 64))), (7, .int (p_3 - ((z38 (z33 - 1).toNatClampNeg) / 64))), (6, .int k14_6), (5, .int z3), (0, .ref b_o), (1, .int p_1), (2, .int p_2), (3, .int p_3)]) hx hb dX12_lateness_93 hl (by decide) rfl (fun ls hl => ?_)
            refine lv_iinc (v := (k14_6 + 1)) (lv' := [(6, .int (k14_6 + 1)), (4, .int (p_3 - ((z38 (z33 - 1).toNatClampNeg) / 64))), (7, .int (p_3 - ((z38 (z33 - 1).toNatClampNeg) / 64))), (5, .int z3), (0, .ref b_o), (1, .int p_1), (2, .int p_2), (3, .int p_3)]) hx hb dX12_lateness_95 hl (k := 2) rfl rfl (by decide) rfl (fun ls hl => ?_)
            have t_47 : (k14_6 + 1).toInt = k14_6.toInt + 1 := g5_iadd (a := k14_6.toInt) (b := 1) rfl (by decide) (by omega) (by omega)
            refine lv_goto (tgt := 14) hx hb dX12_lateness_98 (by decide) ?_
            exact ih_14_14 ((k14_6 + 1), (p_3 - ((z38 (z33 - 1).toNatClampNeg) / 64)), z25, z26, z27, z28, z29, z30, z31, z32, z33, z34, z35, z36, z37, z38) ls H locs (show Int.toNat (4 - (k14_6 + 1).toInt) < Int.toNat (4 - k14_6.toInt) from g_up (show k14_6.toInt < (k14_6 + 1).toInt by omega) (show k14_6.toInt < 4 by omega)) ⟨lv_sub hl [1, 0, 3, 4, 5, 6, 7] rfl, hP.sub [2, 3, 4, 0, 1] rfl, hD.sub [2, 3, 4, 0, 1] (by decide) rfl, hS, ⟨by omega, by omega⟩, i_17, i_18, i_19, i_20, i_21, i_22, i_23, i_24⟩
          ·
            have n_46 : gNe (k14_4.toInt) ((-1)) := by have z := g5_eqN (a := k14_4.toInt) (b := (-1)) (by rfl) (by decide) c_46; unfold gNe; omega
            refine lv_iload hx hb dX12_lateness_79 (lv_at hl 0 rfl) ?_
            refine lv_iload hx hb dX12_lateness_81 (lv_at hl 1 rfl) ?_
            refine lv_icmp_ge (tgt := 91) hx hb dX12_lateness_83 (by decide) (fun c_48 => ?_) (fun c_48 => ?_)
            ·
              have i_48 : (p_3.toInt - ((z38 (z33 - 1).toNatClampNeg).toInt / 64)) ≥ k14_4.toInt := by have z := g5_ge (a := (p_3 - ((z38 (z33 - 1).toNatClampNeg) / 64)).toInt) (b := k14_4.toInt) (by rfl) (by rfl) c_48; omega
              refine lv_iload hx hb dX12_lateness_91 (lv_at hl 1 rfl) ?_
              refine lv_istore (lv' := [(4, .int k14_4), (7, .int (p_3 - ((z38 (z33 - 1).toNatClampNeg) / 64))), (6, .int k14_6), (5, .int z3), (0, .ref b_o), (1, .int p_1), (2, .int p_2), (3, .int p_3)]) hx hb dX12_lateness_93 hl (by decide) rfl (fun ls hl => ?_)
              refine lv_iinc (v := (k14_6 + 1)) (lv' := [(6, .int (k14_6 + 1)), (4, .int k14_4), (7, .int (p_3 - ((z38 (z33 - 1).toNatClampNeg) / 64))), (5, .int z3), (0, .ref b_o), (1, .int p_1), (2, .int p_2), (3, .int p_3)]) hx hb dX12_lateness_95 hl (k := 2) rfl rfl (by decide) rfl (fun ls hl => ?_)
              have t_49 : (k14_6 + 1).toInt = k14_6.toInt + 1 := g5_iadd (a := k14_6.toInt) (b := 1) rfl (by decide) (by omega) (by omega)
              refine lv_goto (tgt := 14) hx hb dX12_lateness_98 (by decide) ?_
              exact ih_14_14 ((k14_6 + 1), k14_4, z25, z26, z27, z28, z29, z30, z31, z32, z33, z34, z35, z36, z37, z38) ls H locs (show Int.toNat (4 - (k14_6 + 1).toInt) < Int.toNat (4 - k14_6.toInt) from g_up (show k14_6.toInt < (k14_6 + 1).toInt by omega) (show k14_6.toInt < 4 by omega)) ⟨lv_sub hl [1, 0, 3, 4, 5, 6, 7] rfl, hP.sub [2, 3, 4, 0, 1] rfl, hD.sub [2, 3, 4, 0, 1] (by decide) rfl, hS, ⟨by omega, by omega⟩, i_17, i_18, i_19, i_20, i_21, i_22, i_23, i_24⟩
            ·
              have i_48 : (p_3.toInt - ((z38 (z33 - 1).toNatClampNeg).toInt / 64)) < k14_4.toInt := by have z := g5_geN (a := (p_3 - ((z38 (z33 - 1).toNatClampNeg) / 64)).toInt) (b := k14_4.toInt) (by rfl) (by rfl) c_48; omega
              refine lv_iload hx hb dX12_lateness_86 (lv_at hl 0 rfl) ?_
              refine lv_goto (tgt := 93) hx hb dX12_lateness_88 (by decide) ?_
              refine lv_istore (lv' := [(4, .int (p_3 - ((z38 (z33 - 1).toNatClampNeg) / 64))), (7, .int (p_3 - ((z38 (z33 - 1).toNatClampNeg) / 64))), (6, .int k14_6), (5, .int z3), (0, .ref b_o), (1, .int p_1), (2, .int p_2), (3, .int p_3)]) hx hb dX12_lateness_93 hl (by decide) rfl (fun ls hl => ?_)
              refine lv_iinc (v := (k14_6 + 1)) (lv' := [(6, .int (k14_6 + 1)), (4, .int (p_3 - ((z38 (z33 - 1).toNatClampNeg) / 64))), (7, .int (p_3 - ((z38 (z33 - 1).toNatClampNeg) / 64))), (5, .int z3), (0, .ref b_o), (1, .int p_1), (2, .int p_2), (3, .int p_3)]) hx hb dX12_lateness_95 hl (k := 2) rfl rfl (by decide) rfl (fun ls hl => ?_)
              have t_50 : (k14_6 + 1).toInt = k14_6.toInt + 1 := g5_iadd (a := k14_6.toInt) (b := 1) rfl (by decide) (by omega) (by omega)
              refine lv_goto (tgt := 14) hx hb dX12_lateness_98 (by decide) ?_
              exact ih_14_14 ((k14_6 + 1), (p_3 - ((z38 (z33 - 1).toNatClampNeg) / 64)), z25, z26, z27, z28, z29, z30, z31, z32, z33, z34, z35, z36, z37, z38) ls H locs (show Int.toNat (4 - (k14_6 + 1).toInt) < Int.toNat (4 - k14_6.toInt) from g_up (show k14_6.toInt < (k14_6 + 1).toInt by omega) (show k14_6.toInt < 4 by omega)) ⟨lv_sub hl [1, 0, 3, 4, 5, 6, 7] rfl, hP.sub [2, 3, 4, 0, 1] rfl, hD.sub [2, 3, 4, 0, 1] (by decide) rfl, hS, ⟨by omega, by omega⟩, i_17, i_18, i_19, i_20, i_21, i_22, i_23, i_24⟩
      ·
        have i_39 : z33.toInt = 0 := by have z := g5_neN (a := z33.toInt) (b := 0) (by rfl) (by decide) c_39; omega
        refine lv_iconst (v := 0) hx hb dX12_lateness_43 (by decide) ?_
        refine lv_goto (tgt := 63) hx hb dX12_lateness_44 (by decide) ?_
        refine lv_istore (lv' := [(7, .int 0), (4, .int k14_4), (6, .int k14_6), (5, .int z3), (0, .ref b_o), (1, .int p_1), (2, .int p_2), (3, .int p_3)]) hx hb dX12_lateness_63 hl (by decide) rfl (fun ls hl => ?_)
        refine lv_aload_n hx hb dX12_lateness_65 rfl (lv_at hl 4 rfl) ?_
        refine va_get (D := G.1) (ci := 12) (v := .int z35) (C := RX12) (T := TX12) (N := 52) hx hb hts inG_X12 hown hK hP 0 rfl rfl 40 (by decide) (hts _ fl_X12_371) (fun _ h9 => h9) rfl dX12_lateness_66 ?_
        refine lv_iload_n hx hb dX12_lateness_69 rfl (lv_at hl 6 rfl) ?_
        refine lv_icmp_ne (tgt := 91) hx hb dX12_lateness_70 (by decide) (fun c_51 => ?_) (fun c_51 => ?_)
        ·
          have n_51 : gNe (z35.toInt) (p_2.toInt) := by have z := g5_ne (a := z35.toInt) (b := p_2.toInt) (by rfl) (by rfl) c_51; unfold gNe; omega
          refine lv_iload hx hb dX12_lateness_91 (lv_at hl 1 rfl) ?_
          refine lv_istore (lv' := [(4, .int k14_4), (7, .int 0), (6, .int k14_6), (5, .int z3), (0, .ref b_o), (1, .int p_1), (2, .int p_2), (3, .int p_3)]) hx hb dX12_lateness_93 hl (by decide) rfl (fun ls hl => ?_)
          refine lv_iinc (v := (k14_6 + 1)) (lv' := [(6, .int (k14_6 + 1)), (4, .int k14_4), (7, .int 0), (5, .int z3), (0, .ref b_o), (1, .int p_1), (2, .int p_2), (3, .int p_3)]) hx hb dX12_lateness_95 hl (k := 2) rfl rfl (by decide) rfl (fun ls hl => ?_)
          have t_52 : (k14_6 + 1).toInt = k14_6.toInt + 1 := g5_iadd (a := k14_6.toInt) (b := 1) rfl (by decide) (by omega) (by omega)
          refine lv_goto (tgt := 14) hx hb dX12_lateness_98 (by decide) ?_
          exact ih_14_14 ((k14_6 + 1), k14_4, z25, z26, z27, z28, z29, z30, z31, z32, z33, z34, z35, z36, z37, z38) ls H locs (show Int.toNat (4 - (k14_6 + 1).toInt) < Int.toNat (4 - k14_6.toInt) from g_up (show k14_6.toInt < (k14_6 + 1).toInt by omega) (show k14_6.toInt < 4 by omega)) ⟨lv_sub hl [1, 0, 3, 4, 5, 6, 7] rfl, hP.sub [2, 3, 4, 0, 1] rfl, hD.sub [2, 3, 4, 0, 1] (by decide) rfl, hS, ⟨by omega, by omega⟩, i_17, i_18, i_19, i_20, i_21, i_22, i_23, i_24⟩
        ·
          have i_51 : z35.toInt = p_2.toInt := by have z := g5_neN (a := z35.toInt) (b := p_2.toInt) (by rfl) (by rfl) c_51; omega
          refine lv_iload hx hb dX12_lateness_73 (lv_at hl 1 rfl) ?_
          refine lv_iconst (v := (-1)) hx hb dX12_lateness_75 (by decide) ?_
          refine lv_icmp_eq (tgt := 86) hx hb dX12_lateness_76 (by decide) (fun c_53 => ?_) (fun c_53 => ?_)
          ·
            have i_53 : k14_4.toInt = (-1) := by have z := g5_eq (a := k14_4.toInt) (b := (-1)) (by rfl) (by decide) c_53; omega
            refine lv_iload hx hb dX12_lateness_86 (lv_at hl 0 rfl) ?_
            refine lv_goto (tgt := 93) hx hb dX12_lateness_88 (by decide) ?_
            refine lv_istore (lv' := [(4, .int 0), (7, .int 0), (6, .int k14_6), (5, .int z3), (0, .ref b_o), (1, .int p_1), (2, .int p_2), (3, .int p_3)]) hx hb dX12_lateness_93 hl (by decide) rfl (fun ls hl => ?_)
            refine lv_iinc (v := (k14_6 + 1)) (lv' := [(6, .int (k14_6 + 1)), (4, .int 0), (7, .int 0), (5, .int z3), (0, .ref b_o), (1, .int p_1), (2, .int p_2), (3, .int p_3)]) hx hb dX12_lateness_95 hl (k := 2) rfl rfl (by decide) rfl (fun ls hl => ?_)
            have t_54 : (k14_6 + 1).toInt = k14_6.toInt + 1 := g5_iadd (a := k14_6.toInt) (b := 1) rfl (by decide) (by omega) (by omega)
            refine lv_goto (tgt := 14) hx hb dX12_lateness_98 (by decide) ?_
            exact ih_14_14 ((k14_6 + 1), 0, z25, z26, z27, z28, z29, z30, z31, z32, z33, z34, z35, z36, z37, z38) ls H locs (show Int.toNat (4 - (k14_6 + 1).toInt) < Int.toNat (4 - k14_6.toInt) from g_up (show k14_6.toInt < (k14_6 + 1).toInt by omega) (show k14_6.toInt < 4 by omega)) ⟨lv_sub hl [1, 0, 3, 4, 5, 6, 7] rfl, hP.sub [2, 3, 4, 0, 1] rfl, hD.sub [2, 3, 4, 0, 1] (by decide) rfl, hS, ⟨by omega, by omega⟩, i_17, i_18, i_19, i_20, i_21, i_22, i_23, i_24⟩
          ·
            have n_53 : gNe (k14_4.toInt) ((-1)) := by have z := g5_eqN (a := k14_4.toInt) (b := (-1)) (by rfl) (by decide) c_53; unfold gNe; omega
            refine lv_iload hx hb dX12_lateness_79 (lv_at hl 0 rfl) ?_
            refine lv_iload hx hb dX12_lateness_81 (lv_at hl 1 rfl) ?_
            refine lv_icmp_ge (tgt := 91) hx hb dX12_lateness_83 (by decide) (fun c_55 => ?_) (fun c_55 => ?_)
            ·
              have i_55 : 0 ≥ k14_4.toInt := by have z := g5_ge (a := 0) (b := k14_4.toInt) (by decide) (by rfl) c_55; omega
              refine lv_iload hx hb dX12_lateness_91 (lv_at hl 1 rfl) ?_
              refine lv_istore (lv' := [(4, .int k14_4), (7, .int 0), (6, .int k14_6), (5, .int z3), (0, .ref b_o), (1, .int p_1), (2, .int p_2), (3, .int p_3)]) hx hb dX12_lateness_93 hl (by decide) rfl (fun ls hl => ?_)
              refine lv_iinc (v := (k14_6 + 1)) (lv' := [(6, .int (k14_6 + 1)), (4, .int k14_4), (7, .int 0), (5, .int z3), (0, .ref b_o), (1, .int p_1), (2, .int p_2), (3, .int p_3)]) hx hb dX12_lateness_95 hl (k := 2) rfl rfl (by decide) rfl (fun ls hl => ?_)
              have t_56 : (k14_6 + 1).toInt = k14_6.toInt + 1 := g5_iadd (a := k14_6.toInt) (b := 1) rfl (by decide) (by omega) (by omega)
              refine lv_goto (tgt := 14) hx hb dX12_lateness_98 (by decide) ?_
              exact ih_14_14 ((k14_6 + 1), k14_4, z25, z26, z27, z28, z29, z30, z31, z32, z33, z34, z35, z36, z37, z38) ls H locs (show Int.toNat (4 - (k14_6 + 1).toInt) < Int.toNat (4 - k14_6.toInt) from g_up (show k14_6.toInt < (k14_6 + 1).toInt by omega) (show k14_6.toInt < 4 by omega)) ⟨lv_sub hl [1, 0, 3, 4, 5, 6, 7] rfl, hP.sub [2, 3, 4, 0, 1] rfl, hD.sub [2, 3, 4, 0, 1] (by decide) rfl, hS, ⟨by omega, by omega⟩, i_17, i_18, i_19, i_20, i_21, i_22, i_23, i_24⟩
            ·
              have i_55 : 0 < k14_4.toInt := by have z := g5_geN (a := 0) (b := k14_4.toInt) (by decide) (by rfl) c_55; omega
              refine lv_iload hx hb dX12_lateness_86 (lv_at hl 0 rfl) ?_
              refine lv_goto (tgt := 93) hx hb dX12_lateness_88 (by decide) ?_
              refine lv_istore (lv' := [(4, .int 0), (7, .int 0), (6, .int k14_6), (5, .int z3), (0, .ref b_o), (1, .int p_1), (2, .int p_2), (3, .int p_3)]) hx hb dX12_lateness_93 hl (by decide) rfl (fun ls hl => ?_)
              refine lv_iinc (v := (k14_6 + 1)) (lv' := [(6, .int (k14_6 + 1)), (4, .int 0), (7, .int 0), (5, .int z3), (0, .ref b_o), (1, .int p_1), (2, .int p_2), (3, .int p_3)]) hx hb dX12_lateness_95 hl (k := 2) rfl rfl (by decide) rfl (fun ls hl => ?_)
              have t_57 : (k14_6 + 1).toInt = k14_6.toInt + 1 := g5_iadd (a := k14_6.toInt) (b := 1) rfl (by decide) (by omega) (by omega)
              refine lv_goto (tgt := 14) hx hb dX12_lateness_98 (by decide) ?_
              exact ih_14_14 ((k14_6 + 1), 0, z25, z26, z27, z28, z29, z30, z31, z32, z33, z34, z35, z36, z37, z38) ls H locs (show Int.toNat (4 - (k14_6 + 1).toInt) < Int.toNat (4 - k14_6.toInt) from g_up (show k14_6.toInt < (k14_6 + 1).toInt by omega) (show k14_6.toInt < 4 by omega)) ⟨lv_sub hl [1, 0, 3, 4, 5, 6, 7] rfl, hP.sub [2, 3, 4, 0, 1] rfl, hD.sub [2, 3, 4, 0, 1] (by decide) rfl, hS, ⟨by omega, by omega⟩, i_17, i_18, i_19, i_20, i_21, i_22, i_23, i_24⟩
theorem dgX12_late_0 : ∀ r ∈ ([(0, (.aload_n 0, 1)), (1, (.iconst 0, 1)), (2, (.putfield 107, 3)), (5, (.aload_n 0, 1)), (6, (.iload_n 1, 1)), (7, (.invokevirtual 180, 3)), (10, (.ifCond .eq 28, 3)), (13, (.aload_n 0, 1)), (14, (.iload_n 2, 1)), (15, (.invokevirtual 180, 3)), (18, (.ifCond .eq 20, 3)), (21, (.iload_n 3, 1)), (22, (.invokestatic 175, 3)), (25, (.ifCond .eq 13, 3)), (28, (.aload_n 0, 1)), (29, (.iload_n 1, 1)), (30, (.iload_n 2, 1)), (31, (.iload_n 3, 1)), (32, (.invokevirtual 407, 3)), (35, (.goto 4, 3)), (38, (.iconst (-1), 1)), (39, (.ireturn, 1))] : List (Nat × (Instr × Nat))), decode cX12_late r.1 = .ok r.2 := by decide +kernel
theorem dX12_late_0 : decode cX12_late 0 = .ok (.aload_n 0, 1) := dgX12_late_0 (0, (.aload_n 0, 1)) (List.mem_of_getElem? (i := 0) rfl)
theorem dX12_late_1 : decode cX12_late 1 = .ok (.iconst 0, 1) := dgX12_late_0 (1, (.iconst 0, 1)) (List.mem_of_getElem? (i := 1) rfl)
theorem dX12_late_2 : decode cX12_late 2 = .ok (.putfield 107, 3) := dgX12_late_0 (2, (.putfield 107, 3)) (List.mem_of_getElem? (i := 2) rfl)
theorem dX12_late_5 : decode cX12_late 5 = .ok (.aload_n 0, 1) := dgX12_late_0 (5, (.aload_n 0, 1)) (List.mem_of_getElem? (i := 3) rfl)
theorem dX12_late_6 : decode cX12_late 6 = .ok (.iload_n 1, 1) := dgX12_late_0 (6, (.iload_n 1, 1)) (List.mem_of_getElem? (i := 4) rfl)
theorem dX12_late_7 : decode cX12_late 7 = .ok (.invokevirtual 180, 3) := dgX12_late_0 (7, (.invokevirtual 180, 3)) (List.mem_of_getElem? (i := 5) rfl)
theorem dX12_late_10 : decode cX12_late 10 = .ok (.ifCond .eq 28, 3) := dgX12_late_0 (10, (.ifCond .eq 28, 3)) (List.mem_of_getElem? (i := 6) rfl)
theorem dX12_late_13 : decode cX12_late 13 = .ok (.aload_n 0, 1) := dgX12_late_0 (13, (.aload_n 0, 1)) (List.mem_of_getElem? (i := 7) rfl)
theorem dX12_late_14 : decode cX12_late 14 = .ok (.iload_n 2, 1) := dgX12_late_0 (14, (.iload_n 2, 1)) (List.mem_of_getElem? (i := 8) rfl)
theorem dX12_late_15 : decode cX12_late 15 = .ok (.invokevirtual 180, 3) := dgX12_late_0 (15, (.invokevirtual 180, 3)) (List.mem_of_getElem? (i := 9) rfl)
theorem dX12_late_18 : decode cX12_late 18 = .ok (.ifCond .eq 20, 3) := dgX12_late_0 (18, (.ifCond .eq 20, 3)) (List.mem_of_getElem? (i := 10) rfl)
theorem dX12_late_21 : decode cX12_late 21 = .ok (.iload_n 3, 1) := dgX12_late_0 (21, (.iload_n 3, 1)) (List.mem_of_getElem? (i := 11) rfl)
theorem dX12_late_22 : decode cX12_late 22 = .ok (.invokestatic 175, 3) := dgX12_late_0 (22, (.invokestatic 175, 3)) (List.mem_of_getElem? (i := 12) rfl)
theorem dX12_late_25 : decode cX12_late 25 = .ok (.ifCond .eq 13, 3) := dgX12_late_0 (25, (.ifCond .eq 13, 3)) (List.mem_of_getElem? (i := 13) rfl)
theorem dX12_late_28 : decode cX12_late 28 = .ok (.aload_n 0, 1) := dgX12_late_0 (28, (.aload_n 0, 1)) (List.mem_of_getElem? (i := 14) rfl)
theorem dX12_late_29 : decode cX12_late 29 = .ok (.iload_n 1, 1) := dgX12_late_0 (29, (.iload_n 1, 1)) (List.mem_of_getElem? (i := 15) rfl)
theorem dX12_late_30 : decode cX12_late 30 = .ok (.iload_n 2, 1) := dgX12_late_0 (30, (.iload_n 2, 1)) (List.mem_of_getElem? (i := 16) rfl)
theorem dX12_late_31 : decode cX12_late 31 = .ok (.iload_n 3, 1) := dgX12_late_0 (31, (.iload_n 3, 1)) (List.mem_of_getElem? (i := 17) rfl)
theorem dX12_late_32 : decode cX12_late 32 = .ok (.invokevirtual 407, 3) := dgX12_late_0 (32, (.invokevirtual 407, 3)) (List.mem_of_getElem? (i := 18) rfl)
theorem dX12_late_35 : decode cX12_late 35 = .ok (.goto 4, 3) := dgX12_late_0 (35, (.goto 4, 3)) (List.mem_of_getElem? (i := 19) rfl)
theorem dX12_late_38 : decode cX12_late 38 = .ok (.iconst (-1), 1) := dgX12_late_0 (38, (.iconst (-1), 1)) (List.mem_of_getElem? (i := 20) rfl)
theorem dX12_late_39 : decode cX12_late 39 = .ok (.ireturn, 1) := dgX12_late_0 (39, (.ireturn, 1)) (List.mem_of_getElem? (i := 21) rfl)
theorem ml_X12_407 : Cond.methodLink RX12 407 yX12_lateness ∈ tblG := tg 1667 (by decide +kernel) (by decide +kernel)
theorem im_X12_lateness : Cond.instanceMethod yX12_lateness ∈ tblG := tg 1669 (by decide +kernel) (by decide +kernel)
theorem se_X12_lateness : Cond.selects RX12 yX12_lateness yX12_lateness ∈ tblG := tg 71 (by decide +kernel) (by decide +kernel)
theorem cd_X12_lateness : Cond.code yX12_lateness cX12_lateness 8 (some .int) ∈ tblG := tg 1670 (by decide +kernel) (by decide +kernel)
theorem gW_X12_lateness : GoodIn tblG (wsG yX12_lateness cX12_lateness 8 (some .int)) := tgi cd_X12_lateness
theorem gV_X12_407 : GoodIn tblG (wsV RX12 407 RX12 yX12_lateness (wsG yX12_lateness cX12_lateness 8 (some .int))) := tgV ml_X12_407 im_X12_lateness se_X12_lateness ini_X12 gW_X12_lateness
theorem hv_X12_lateness : yX12_lateness.cls = RX12 ∧ yX12_lateness.cls ≠ "java/lang/invoke/MethodHandle" ∧ yX12_lateness.cls ≠ "java/lang/invoke/VarHandle" ∧ (parseMethodDescriptor yX12_lateness.desc).map (fun d => d.parameters.length) = some 3 := by decide +kernel
set_option maxHeartbeats 4000000 in
set_option maxRecDepth 100000 in
theorem n_late (l : Launch) (G : g5_G) (b_o b_ro b_se b_re b_pt b_rf b_im b_ke b_tp b_nl b_op b_ar b_pi b_pa b_ws b_hw b_ip b_ah b_be b_me b_tr b_ld b_wn : Nat) (sz : Nat) (u_th : Int32) (u_sa : Int32) (u_fd : Int32) (u_td : Int32) (u_fr : Int32) (u_to : Int32) (u_so : Int32) (u_fa : Int32) (u_bd : Int32) (u_nc : Int32) (u_co : Int32) (u_le : Int32) (u_pd : Int32) (u_od : Int32) (u_la : Int32) (u_bk : Int32) (u_ce : Int32) (u_ho : Int32) (u_wy : Int32) (u_bt : Int32) (u_ps : Int32) (u_tg : Int32) (u_sn : Int32) (u_ic : Int32) (u_wd : Int32) (u_id : Int32) (p_1 : Int32) (p_2 : Int32) (p_3 : Int32) (u_wo : Int64) (u_va : Int64) (u_su : Int64) (u_st : Int64) (v_ro : Nat → Int32) (v_se : Nat → Int64) (v_re : Nat → Int64) (v_pt : Nat → Int32) (h_u_td : 0 ≤ u_td.toInt ∧ u_td.toInt ≤ 400) (h_u_fr : 0 ≤ u_fr.toInt ∧ u_fr.toInt ≤ 400) (h_u_to : 0 ≤ u_to.toInt ∧ u_to.toInt ≤ 400) (h_u_bd : 0 ≤ u_bd.toInt ∧ u_bd.toInt ≤ 1) (h_u_nc : 0 ≤ u_nc.toInt ∧ u_nc.toInt ≤ 12) (h_u_co : 0 ≤ u_co.toInt ∧ u_co.toInt ≤ 400) (h_u_pd : 0 ≤ u_pd.toInt ∧ u_pd.toInt ≤ 400) (h_u_la : 0 ≤ u_la.toInt ∧ u_la.toInt ≤ 4840) (h_u_bk : 0 ≤ u_bk.toInt ∧ u_bk.toInt ≤ 1) (h_u_ce : 0 ≤ u_ce.toInt ∧ u_ce.toInt ≤ 63) (h_u_ho : 0 ≤ u_ho.toInt ∧ u_ho.toInt ≤ 23) (h_u_wy : 0 ≤ u_wy.toInt ∧ u_wy.toInt ≤ 3) (h_u_bt : 0 ≤ u_bt.toInt ∧ u_bt.toInt ≤ 1000000) (h_u_ps : 0 ≤ u_ps.toInt ∧ u_ps.toInt ≤ 200) (h_u_ic : 0 ≤ u_ic.toInt ∧ u_ic.toInt ≤ 1) (h_u_id : 0 ≤ u_id.toInt ∧ u_id.toInt ≤ 1) (r_ro : MI v_ro) (r_pt : PTI v_pt) : Met l yX12_late (wsG yX12_late cX12_late 4 (some .int)) ({ frames := 8, cells := 0, slots := 0, locals := 203 }) (va_Pc [.ref b_o, .int p_1, .int p_2, .int p_3] (g5_P G [(b_o, (oc12 u_th u_sa b_rf b_ro b_im b_ke u_fd b_tp u_td u_fr u_to u_so u_wo u_fa u_bd u_nc b_nl u_co b_op b_ar u_le b_pi b_pa u_pd u_od b_ws b_hw u_la b_se b_re u_bk u_va u_su u_ce u_ho u_wy u_bt u_ps b_pt u_tg u_sn b_ip u_ic b_ah b_be b_me u_wd b_tr b_ld u_st b_wn u_id)), (b_ro, (arI G 5740 v_ro)), (b_se, (arJ G 13 v_se)), (b_re, (arJ G 400 v_re)), (b_pt, (arI G 200 v_pt))] sz)) (va_Qi (fun (r : Int32) (u : va_W) => (∃ (o_r : Int32) (o_th : Int32) (o_la : Int32) (o_bk : Int32) (o_va : Int64) (o_su : Int64) (o_ce : Int32) (o_ho : Int32) (o_wy : Int32) (o_bt : Int32) (o_ps : Int32) (o_tg : Int32) (o_sn : Int32) (o_se : Nat → Int64) (o_re : Nat → Int64) (o_pt : Nat → Int32), (0 ≤ o_la.toInt ∧ o_la.toInt ≤ 4840) ∧ (0 ≤ o_bk.toInt ∧ o_bk.toInt ≤ 1) ∧ (0 ≤ o_ce.toInt ∧ o_ce.toInt ≤ 63) ∧ (0 ≤ o_ho.toInt ∧ o_ho.toInt ≤ 23) ∧ (0 ≤ o_wy.toInt ∧ o_wy.toInt ≤ 3) ∧ (0 ≤ o_bt.toInt ∧ o_bt.toInt ≤ 1000000) ∧ (0 ≤ o_ps.toInt ∧ o_ps.toInt ≤ 200) ∧ (PTI o_pt) ∧ (r = o_r) ∧ (u = [(b_o, (oc12 o_th u_sa b_rf b_ro b_im b_ke u_fd b_tp u_td u_fr u_to u_so u_wo u_fa u_bd u_nc b_nl u_co b_op b_ar u_le b_pi b_pa u_pd u_od b_ws b_hw o_la b_se b_re o_bk o_va o_su o_ce o_ho o_wy o_bt o_ps b_pt o_tg o_sn b_ip u_ic b_ah b_be b_me u_wd b_tr b_ld u_st b_wn u_id)), (b_ro, (arI G 5740 v_ro)), (b_se, (arJ G 13 o_se)), (b_re, (arJ G 400 o_re)), (b_pt, (arI G 200 o_pt))]))) (g5_B G (va_A [(b_o, (oc12 u_th u_sa b_rf b_ro b_im b_ke u_fd b_tp u_td u_fr u_to u_so u_wo u_fa u_bd u_nc b_nl u_co b_op b_ar u_le b_pi b_pa u_pd u_od b_ws b_hw u_la b_se b_re u_bk u_va u_su u_ce u_ho u_wy u_bt u_ps b_pt u_tg u_sn b_ip u_ic b_ah b_be b_me u_wd b_tr b_ld u_st b_wn u_id)), (b_ro, (arI G 5740 v_ro)), (b_se, (arJ G 13 v_se)), (b_re, (arJ G 400 v_re)), (b_pt, (arI G 200 v_pt))] sz)) (va_A [(b_o, (oc12 u_th u_sa b_rf b_ro b_im b_ke u_fd b_tp u_td u_fr u_to u_so u_wo u_fa u_bd u_nc b_nl u_co b_op b_ar u_le b_pi b_pa u_pd u_od b_ws b_hw u_la b_se b_re u_bk u_va u_su u_ce u_ho u_wy u_bt u_ps b_pt u_tg u_sn b_ip u_ic b_ah b_be b_me u_wd b_tr b_ld u_st b_wn u_id)), (b_ro, (arI G 5740 v_ro)), (b_se, (arJ G 13 v_se)), (b_re, (arJ G 400 v_re)), (b_pt, (arI G 200 v_pt))] sz)) 0 0 (va_A [(b_o, (oc12 u_th u_sa b_rf b_ro b_im b_ke u_fd b_tp u_td u_fr u_to u_so u_wo u_fa u_bd u_nc b_nl u_co b_op b_ar u_le b_pi b_pa u_pd u_od b_ws b_hw u_la b_se b_re u_bk u_va u_su u_ce u_ho u_wy u_bt u_ps b_pt u_tg u_sn b_ip u_ic b_ah b_be b_me u_wd b_tr b_ld u_st b_wn u_id)), (b_ro, (arI G 5740 v_ro)), (b_se, (arJ G 13 v_se)), (b_re, (arJ G 400 v_re)), (b_pt, (arI G 200 v_pt))] sz) := by
  refine Met.ofW (cc := cX12_late) (maxL := 4) (ret := (some .int)) (by decide) rfl ?_
  intro p e s m args below meth c s₁ B hml hv
  obtain ⟨rfl, hsz, hP, hK, hD0, hN, hT⟩ := hv
  have hx := B.exec
  have hb := B.bytes
  have hr := B.returns
  have hts : ∀ w ∈ tblG, w.before _ s = true := fun w h => atoms_spec (ws := (wsG yX12_late cX12_late 4 (some .int))) B.pre w (List.mem_cons_of_mem _ h)
  have hown : s.vm.findClass RX12 = some m.cls := findClass_of_methodNamed B.named
  have hlocks := B.notSynchronized
  subst hsz
  have hD := hD0.self (sz := s.heap.size)
  generalize hAe : va_A [(b_o, (oc12 u_th u_sa b_rf b_ro b_im b_ke u_fd b_tp u_td u_fr u_to u_so u_wo u_fa u_bd u_nc b_nl u_co b_op b_ar u_le b_pi b_pa u_pd u_od b_ws b_hw u_la b_se b_re u_bk u_va u_su u_ce u_ho u_wy u_bt u_ps b_pt u_tg u_sn b_ip u_ic b_ah b_be b_me u_wd b_tr b_ld u_st b_wn u_id)), (b_ro, (arI G 5740 v_ro)), (b_se, (arJ G 13 v_se)), (b_re, (arJ G 400 v_re)), (b_pt, (arI G 200 v_pt))] s.heap.size = A at hD hT ⊢
  have hA : ∀ q : Nat, s.heap.size ≤ q → A q := fun q h => by rw [← hAe]; exact Or.inr h
  have hS : va_S A s.heap s.heap [] := va_S.rf
  have hP : va_P G.1 vwCl [(b_o, (oc12 u_th u_sa b_rf b_ro b_im b_ke u_fd b_tp u_td u_fr u_to u_so u_wo u_fa u_bd u_nc b_nl u_co b_op b_ar u_le b_pi b_pa u_pd u_od b_ws b_hw u_la b_se b_re u_bk u_va u_su u_ce u_ho u_wy u_bt u_ps b_pt u_tg u_sn b_ip u_ic b_ah b_be b_me u_wd b_tr b_ld u_st b_wn u_id)), (b_ro, (arI G 5740 v_ro)), (b_se, (arJ G 13 v_se)), (b_re, (arJ G 400 v_re)), (b_pt, (arI G 200 v_pt))] s.heap := hP
  have hl := lv_entry ([.ref b_o, .int p_1, .int p_2, .int p_3]) (n := 4) (Nat.le_of_ble_eq_true rfl)
  rw [lg_entry_eq]
  generalize (lg_sl ([.ref b_o, .int p_1, .int p_2, .int p_3]) ++ List.replicate (4 - (lg_sl ([.ref b_o, .int p_1, .int p_2, .int p_3])).length) Slot.unset).toArray = ls at hl ⊢
  have hl : lv_has ls 4 [(0, .ref b_o), (1, .int p_1), (2, .int p_2), (3, .int p_3)] := hl
  refine lv_aload_n hx hb dX12_late_0 rfl (lv_at hl 0 rfl) ?_
  refine lv_iconst (v := 0) hx hb dX12_late_1 (by decide) ?_
  refine va_put (D := G.1) (ci := 12) (v := .int 0) (ty := .int) (C := RX12) (T := TX12) (N := 52) hx hb hts inG_X12 tyX12 tyX12_ok nmX12 hown hK hP hD hS 0 rfl rfl 0 (by decide) (hts _ fl_X12_107) (fun _ h9 => h9) rfl (by decide +kernel) rfl rfl (Nat.le_of_ble_eq_true rfl) dX12_late_2 (fun H locs hP hD hS => ?_)
  refine g5_rs [(b_o, (oc12 0 u_sa b_rf b_ro b_im b_ke u_fd b_tp u_td u_fr u_to u_so u_wo u_fa u_bd u_nc b_nl u_co b_op b_ar u_le b_pi b_pa u_pd u_od b_ws b_hw u_la b_se b_re u_bk u_va u_su u_ce u_ho u_wy u_bt u_ps b_pt u_tg u_sn b_ip u_ic b_ah b_be b_me u_wd b_tr b_ld u_st b_wn u_id)), (b_ro, (arI G 5740 v_ro)), (b_se, (arJ G 13 v_se)), (b_re, (arJ G 400 v_re)), (b_pt, (arI G 200 v_pt))] hP hD (fun hP hD => ?_)
  refine lv_aload_n hx hb dX12_late_5 rfl (lv_at hl 0 rfl) ?_
  refine lv_iload_n hx hb dX12_late_6 rfl (lv_at hl 1 rfl) ?_
  obtain ⟨hPc, hDc, hFc⟩ := g5_sub3 (wc := [(b_o, (oc12 0 u_sa b_rf b_ro b_im b_ke u_fd b_tp u_td u_fr u_to u_so u_wo u_fa u_bd u_nc b_nl u_co b_op b_ar u_le b_pi b_pa u_pd u_od b_ws b_hw u_la b_se b_re u_bk u_va u_su u_ce u_ho u_wy u_bt u_ps b_pt u_tg u_sn b_ip u_ic b_ah b_be b_me u_wd b_tr b_ld u_st b_wn u_id)), (b_ro, (arI G 5740 v_ro))]) hP hD hS hA [0, 1] (by decide) rfl
  refine va_calli (va_runV (As := [.int p_1]) (rest := []) ⟨hx, hb, hml, hown, hts⟩ (n_isBody l G b_o b_ro b_rf b_im b_ke b_tp b_nl b_op b_ar b_pi b_pa b_ws b_hw b_se b_re b_pt b_ip b_ah b_be b_me b_tr b_ld b_wn H.size 0 u_sa u_fd u_td u_fr u_to u_so u_fa u_bd u_nc u_co u_le u_pd u_od u_la u_bk u_ce u_ho u_wy u_bt u_ps u_tg u_sn u_ic u_wd u_id p_1 u_wo u_va u_su u_st v_ro h_u_td h_u_fr h_u_to h_u_bd h_u_nc h_u_co h_u_pd h_u_la h_u_bk h_u_ce h_u_ho h_u_wy h_u_bt h_u_ps h_u_ic h_u_id (r_ro)) (cwV 1 hts gV_X12_180 rfl rfl rfl hv_X12_isBody ⟨Nat.le_of_ble_eq_true rfl, Nat.le_of_ble_eq_true rfl⟩) (g5_preV hPc hK hDc hN hT hS hFc (ci := 12) (q0 := 0) rfl rfl) rfl rfl hl.1 rfl (lv_room (Nat.le_of_ble_eq_true rfl)) dX12_late_7 ⟨Nat.le_of_ble_eq_true rfl, Nat.le_of_ble_eq_true rfl⟩) hS (fun q _ h => hFc q h) hFc (fun r u t H1 locs ht hvm hw hB hz1 hk1 hS => ?_)
  obtain ⟨hP1, hD1⟩ := hB
  rw [ht] at hP1
  rcases hw with ⟨i_1, rfl, rfl⟩ | ⟨rfl, rfl⟩
  ·
    have i_1 : 0 ≤ p_1.toInt ∧ p_1.toInt ≤ 4 := i_1
    obtain ⟨hP, hD⟩ := va_join (wr := [(b_se, (arJ G 13 v_se)), (b_re, (arJ G 400 v_re)), (b_pt, (arI G 200 v_pt))]) hP hD [0, 1] [2, 3, 4] rfl rfl (by decide) (by decide) hk1 hFc hP1 hD1
    generalize H1 = H at hP hS ⊢
    refine g5_rs [(b_se, (arJ G 13 v_se)), (b_re, (arJ G 400 v_re)), (b_pt, (arI G 200 v_pt)), (b_o, (oc12 0 u_sa b_rf b_ro b_im b_ke u_fd b_tp u_td u_fr u_to u_so u_wo u_fa u_bd u_nc b_nl u_co b_op b_ar u_le b_pi b_pa u_pd u_od b_ws b_hw u_la b_se b_re u_bk u_va u_su u_ce u_ho u_wy u_bt u_ps b_pt u_tg u_sn b_ip u_ic b_ah b_be b_me u_wd b_tr b_ld u_st b_wn u_id)), (b_ro, (arI G 5740 v_ro))] hP hD (fun hP hD => ?_)
    refine lv_if_eq (tgt := 38) hx hb dX12_late_10 (by decide) (fun c_2 => ?_) (fun c_2 => ?_)
    ·
      exact absurd c_2 (by decide)
    ·
      refine lv_aload_n hx hb dX12_late_13 rfl (lv_at hl 0 rfl) ?_
      refine lv_iload_n hx hb dX12_late_14 rfl (lv_at hl 2 rfl) ?_
      obtain ⟨hPc, hDc, hFc⟩ := g5_sub3 (wc := [(b_o, (oc12 0 u_sa b_rf b_ro b_im b_ke u_fd b_tp u_td u_fr u_to u_so u_wo u_fa u_bd u_nc b_nl u_co b_op b_ar u_le b_pi b_pa u_pd u_od b_ws b_hw u_la b_se b_re u_bk u_va u_su u_ce u_ho u_wy u_bt u_ps b_pt u_tg u_sn b_ip u_ic b_ah b_be b_me u_wd b_tr b_ld u_st b_wn u_id)), (b_ro, (arI G 5740 v_ro))]) hP hD hS hA [3, 4] (by decide) rfl
      refine va_calli (va_runV (As := [.int p_2]) (rest := []) ⟨hx, hb, hml, hown, hts⟩ (n_isBody l G b_o b_ro b_rf b_im b_ke b_tp b_nl b_op b_ar b_pi b_pa b_ws b_hw b_se b_re b_pt b_ip b_ah b_be b_me b_tr b_ld b_wn H.size 0 u_sa u_fd u_td u_fr u_to u_so u_fa u_bd u_nc u_co u_le u_pd u_od u_la u_bk u_ce u_ho u_wy u_bt u_ps u_tg u_sn u_ic u_wd u_id p_2 u_wo u_va u_su u_st v_ro h_u_td h_u_fr h_u_to h_u_bd h_u_nc h_u_co h_u_pd h_u_la h_u_bk h_u_ce h_u_ho h_u_wy h_u_bt h_u_ps h_u_ic h_u_id (r_ro)) (cwV 1 hts gV_X12_180 rfl rfl rfl hv_X12_isBody ⟨Nat.le_of_ble_eq_true rfl, Nat.le_of_ble_eq_true rfl⟩) (g5_preV hPc hK hDc hN hT hS hFc (ci := 12) (q0 := 0) rfl rfl) rfl rfl hl.1 rfl (lv_room (Nat.le_of_ble_eq_true rfl)) dX12_late_15 ⟨Nat.le_of_ble_eq_true rfl, Nat.le_of_ble_eq_true rfl⟩) hS (fun q _ h => hFc q h) hFc (fun r u t H1 locs ht hvm hw hB hz1 hk1 hS => ?_)
      obtain ⟨hP1, hD1⟩ := hB
      rw [ht] at hP1
      rcases hw with ⟨i_3, rfl, rfl⟩ | ⟨rfl, rfl⟩
      ·
        have i_3 : 0 ≤ p_2.toInt ∧ p_2.toInt ≤ 4 := i_3
        obtain ⟨hP, hD⟩ := va_join (wr := [(b_se, (arJ G 13 v_se)), (b_re, (arJ G 400 v_re)), (b_pt, (arI G 200 v_pt))]) hP hD [3, 4] [0, 1, 2] rfl rfl (by decide) (by decide) hk1 hFc hP1 hD1
        generalize H1 = H at hP hS ⊢
        refine g5_rs [(b_se, (arJ G 13 v_se)), (b_re, (arJ G 400 v_re)), (b_pt, (arI G 200 v_pt)), (b_o, (oc12 0 u_sa b_rf b_ro b_im b_ke u_fd b_tp u_td u_fr u_to u_so u_wo u_fa u_bd u_nc b_nl u_co b_op b_ar u_le b_pi b_pa u_pd u_od b_ws b_hw u_la b_se b_re u_bk u_va u_su u_ce u_ho u_wy u_bt u_ps b_pt u_tg u_sn b_ip u_ic b_ah b_be b_me u_wd b_tr b_ld u_st b_wn u_id)), (b_ro, (arI G 5740 v_ro))] hP hD (fun hP hD => ?_)
        refine lv_if_eq (tgt := 38) hx hb dX12_late_18 (by decide) (fun c_4 => ?_) (fun c_4 => ?_)
        ·
          exact absurd c_4 (by decide)
        ·
          refine lv_iload_n hx hb dX12_late_21 rfl (lv_at hl 3 rfl) ?_
          obtain ⟨hPc, hDc, hFc⟩ := g5_sub3 (wc := []) hP hD hS hA [] (by decide) rfl
          refine va_calli (va_runS (As := [.int p_3]) (rest := []) ⟨hx, hb, hml, hown, hts⟩ (n_isHour l G H.size p_3) (va_cwS 1 hts gS_X12_175 rfl rfl rfl hs_X12_isHour ⟨Nat.le_of_ble_eq_true rfl, Nat.le_of_ble_eq_true rfl⟩) (g5_preS hPc hK hDc hN hT hS hFc) rfl rfl hl.1 rfl (lv_room (Nat.le_of_ble_eq_true rfl)) dX12_late_22 ⟨Nat.le_of_ble_eq_true rfl, Nat.le_of_ble_eq_true rfl⟩) hS (fun q _ h => hFc q h) hFc (fun r u t H1 locs ht hvm hw hB hz1 hk1 hS => ?_)
          obtain ⟨hP1, hD1⟩ := hB
          rw [ht] at hP1
          rcases hw with ⟨i_5, rfl, rfl⟩ | ⟨rfl, rfl⟩
          ·
            have i_5 : 0 ≤ p_3.toInt ∧ p_3.toInt ≤ 23 := i_5
            have hP := g5_same hP hk1
            generalize H1 = H at hP hS ⊢
            refine lv_if_eq (tgt := 38) hx hb dX12_late_25 (by decide) (fun c_6 => ?_) (fun c_6 => ?_)
            ·
              exact absurd c_6 (by decide)
            ·
              refine lv_aload_n hx hb dX12_late_28 rfl (lv_at hl 0 rfl) ?_
              refine lv_iload_n hx hb dX12_late_29 rfl (lv_at hl 1 rfl) ?_
              refine lv_iload_n hx hb dX12_late_30 rfl (lv_at hl 2 rfl) ?_
              refine lv_iload_n hx hb dX12_late_31 rfl (lv_at hl 3 rfl) ?_
              obtain ⟨hPc, hDc, hFc⟩ := g5_sub3 (wc := [(b_o, (oc12 0 u_sa b_rf b_ro b_im b_ke u_fd b_tp u_td u_fr u_to u_so u_wo u_fa u_bd u_nc b_nl u_co b_op b_ar u_le b_pi b_pa u_pd u_od b_ws b_hw u_la b_se b_re u_bk u_va u_su u_ce u_ho u_wy u_bt u_ps b_pt u_tg u_sn b_ip u_ic b_ah b_be b_me u_wd b_tr b_ld u_st b_wn u_id)), (b_ro, (arI G 5740 v_ro)), (b_se, (arJ G 13 v_se)), (b_re, (arJ G 400 v_re)), (b_pt, (arI G 200 v_pt))]) hP hD hS hA [3, 4, 0, 1, 2] (by decide) rfl
              refine va_calli (va_runV (As := [.int p_1, .int p_2, .int p_3]) (rest := []) ⟨hx, hb, hml, hown, hts⟩ (n_lateness l G b_o b_ro b_se b_re b_pt b_rf b_im b_ke b_tp b_nl b_op b_ar b_pi b_pa b_ws b_hw b_ip b_ah b_be b_me b_tr b_ld b_wn H.size 0 u_sa u_fd u_td u_fr u_to u_so u_fa u_bd u_nc u_co u_le u_pd u_od u_la u_bk u_ce u_ho u_wy u_bt u_ps u_tg u_sn u_ic u_wd u_id p_1 p_2 p_3 u_wo u_va u_su u_st v_ro v_se v_re v_pt h_u_td h_u_fr h_u_to h_u_bd h_u_nc h_u_co h_u_pd h_u_la h_u_bk h_u_ce h_u_ho h_u_wy h_u_bt h_u_ps h_u_ic h_u_id i_1 i_5 (r_ro) (r_pt)) (cwV 3 hts gV_X12_407 rfl rfl rfl hv_X12_lateness ⟨Nat.le_of_ble_eq_true rfl, Nat.le_of_ble_eq_true rfl⟩) (g5_preV hPc hK hDc hN hT hS hFc (ci := 12) (q0 := 0) rfl rfl) rfl rfl hl.1 rfl (lv_room (Nat.le_of_ble_eq_true rfl)) dX12_late_32 ⟨Nat.le_of_ble_eq_true rfl, Nat.le_of_ble_eq_true rfl⟩) hS (fun q _ h => hFc q h) hFc (fun r u t H1 locs ht hvm hw hB hz1 hk1 hS => ?_)
              obtain ⟨hP1, hD1⟩ := hB
              rw [ht] at hP1
              obtain ⟨z15, z16, z17, z18, z19, z20, z21, z22, z23, z24, z25, z26, z27, z28, z29, i_7, i_8, i_9, i_10, i_11, i_12, i_13, i_14, y30, rfl⟩ := hw
              have i_7 : 0 ≤ z16.toInt ∧ z16.toInt ≤ 4840 := i_7
              have i_8 : 0 ≤ z17.toInt ∧ z17.toInt ≤ 1 := i_8
              have i_9 : 0 ≤ z20.toInt ∧ z20.toInt ≤ 63 := i_9
              have i_10 : 0 ≤ z21.toInt ∧ z21.toInt ≤ 23 := i_10
              have i_11 : 0 ≤ z22.toInt ∧ z22.toInt ≤ 3 := i_11
              have i_12 : 0 ≤ z23.toInt ∧ z23.toInt ≤ 1000000 := i_12
              have i_13 : 0 ≤ z24.toInt ∧ z24.toInt ≤ 200 := i_13
              have i_14 : PTI z29 := i_14
              obtain ⟨hP, hD⟩ := va_join (wr := []) hP hD [3, 4, 0, 1, 2] [] rfl rfl (by decide) (by decide) hk1 hFc hP1 hD1
              generalize H1 = H at hP hS ⊢
              refine g5_rs [(b_o, (oc12 0 u_sa b_rf b_ro b_im b_ke u_fd b_tp u_td u_fr u_to u_so u_wo u_fa u_bd u_nc b_nl u_co b_op b_ar u_le b_pi b_pa u_pd u_od b_ws b_hw z16 b_se b_re z17 z18 z19 z20 z21 z22 z23 z24 b_pt z25 z26 b_ip u_ic b_ah b_be b_me u_wd b_tr b_ld u_st b_wn u_id)), (b_ro, (arI G 5740 v_ro)), (b_se, (arJ G 13 z27)), (b_re, (arJ G 400 z28)), (b_pt, (arI G 200 z29))] hP hD (fun hP hD => ?_)
              refine g5_ti (v := z15) y30 ?_
              refine lv_goto (tgt := 39) hx hb dX12_late_35 (by decide) ?_
              exact W.iret (v := z15) hx hb hr (fun t ht hW => ⟨⟨z15, [(b_o, (oc12 0 u_sa b_rf b_ro b_im b_ke u_fd b_tp u_td u_fr u_to u_so u_wo u_fa u_bd u_nc b_nl u_co b_op b_ar u_le b_pi b_pa u_pd u_od b_ws b_hw z16 b_se b_re z17 z18 z19 z20 z21 z22 z23 z24 b_pt z25 z26 b_ip u_ic b_ah b_be b_me u_wd b_tr b_ld u_st b_wn u_id)), (b_ro, (arI G 5740 v_ro)), (b_se, (arJ G 13 z27)), (b_re, (arJ G 400 z28)), (b_pt, (arI G 200 z29))], rfl, ⟨z15, 0, z16, z17, z18, z19, z20, z21, z22, z23, z24, z25, z26, z27, z28, z29, i_7, i_8, i_9, i_10, i_11, i_12, i_13, i_14, rfl, rfl⟩, by rw [ht]; exact hP.sub [0, 1, 2, 3, 4] rfl, hD.sub [0, 1, 2, 3, 4] (by decide) rfl⟩, hS.F ht⟩) hS.2.2 dX12_late_39
          ·
            have hP := g5_same hP hk1
            generalize H1 = H at hP hS ⊢
            refine lv_if_eq (tgt := 38) hx hb dX12_late_25 (by decide) (fun c_31 => ?_) (fun c_31 => ?_)
            ·
              refine lv_iconst (v := (-1)) hx hb dX12_late_38 (by decide) ?_
              exact W.iret (v := (-1)) hx hb hr (fun t ht hW => ⟨⟨(-1), [(b_o, (oc12 0 u_sa b_rf b_ro b_im b_ke u_fd b_tp u_td u_fr u_to u_so u_wo u_fa u_bd u_nc b_nl u_co b_op b_ar u_le b_pi b_pa u_pd u_od b_ws b_hw u_la b_se b_re u_bk u_va u_su u_ce u_ho u_wy u_bt u_ps b_pt u_tg u_sn b_ip u_ic b_ah b_be b_me u_wd b_tr b_ld u_st b_wn u_id)), (b_ro, (arI G 5740 v_ro)), (b_se, (arJ G 13 v_se)), (b_re, (arJ G 400 v_re)), (b_pt, (arI G 200 v_pt))], rfl, ⟨(-1), 0, u_la, u_bk, u_va, u_su, u_ce, u_ho, u_wy, u_bt, u_ps, u_tg, u_sn, v_se, v_re, v_pt, h_u_la, h_u_bk, h_u_ce, h_u_ho, h_u_wy, h_u_bt, h_u_ps, r_pt, rfl, rfl⟩, by rw [ht]; exact hP.sub [3, 4, 0, 1, 2] rfl, hD.sub [3, 4, 0, 1, 2] (by decide) rfl⟩, hS.F ht⟩) hS.2.2 dX12_late_39
            ·
              exact absurd c_31 (by decide)
      ·
        obtain ⟨hP, hD⟩ := va_join (wr := [(b_se, (arJ G 13 v_se)), (b_re, (arJ G 400 v_re)), (b_pt, (arI G 200 v_pt))]) hP hD [3, 4] [0, 1, 2] rfl rfl (by decide) (by decide) hk1 hFc hP1 hD1
        generalize H1 = H at hP hS ⊢
        refine g5_rs [(b_se, (arJ G 13 v_se)), (b_re, (arJ G 400 v_re)), (b_pt, (arI G 200 v_pt)), (b_o, (oc12 0 u_sa b_rf b_ro b_im b_ke u_fd b_tp u_td u_fr u_to u_so u_wo u_fa u_bd u_nc b_nl u_co b_op b_ar u_le b_pi b_pa u_pd u_od b_ws b_hw u_la b_se b_re u_bk u_va u_su u_ce u_ho u_wy u_bt u_ps b_pt u_tg u_sn b_ip u_ic b_ah b_be b_me u_wd b_tr b_ld u_st b_wn u_id)), (b_ro, (arI G 5740 v_ro))] hP hD (fun hP hD => ?_)
        refine lv_if_eq (tgt := 38) hx hb dX12_late_18 (by decide) (fun c_32 => ?_) (fun c_32 => ?_)
        ·
          refine lv_iconst (v := (-1)) hx hb dX12_late_38 (by decide) ?_
          exact W.iret (v := (-1)) hx hb hr (fun t ht hW => ⟨⟨(-1), [(b_o, (oc12 0 u_sa b_rf b_ro b_im b_ke u_fd b_tp u_td u_fr u_to u_so u_wo u_fa u_bd u_nc b_nl u_co b_op b_ar u_le b_pi b_pa u_pd u_od b_ws b_hw u_la b_se b_re u_bk u_va u_su u_ce u_ho u_wy u_bt u_ps b_pt u_tg u_sn b_ip u_ic b_ah b_be b_me u_wd b_tr b_ld u_st b_wn u_id)), (b_ro, (arI G 5740 v_ro)), (b_se, (arJ G 13 v_se)), (b_re, (arJ G 400 v_re)), (b_pt, (arI G 200 v_pt))], rfl, ⟨(-1), 0, u_la, u_bk, u_va, u_su, u_ce, u_ho, u_wy, u_bt, u_ps, u_tg, u_sn, v_se, v_re, v_pt, h_u_la, h_u_bk, h_u_ce, h_u_ho, h_u_wy, h_u_bt, h_u_ps, r_pt, rfl, rfl⟩, by rw [ht]; exact hP.sub [3, 4, 0, 1, 2] rfl, hD.sub [3, 4, 0, 1, 2] (by decide) rfl⟩, hS.F ht⟩) hS.2.2 dX12_late_39
        ·
          exact absurd c_32 (by decide)
  ·
    obtain ⟨hP, hD⟩ := va_join (wr := [(b_se, (arJ G 13 v_se)), (b_re, (arJ G 400 v_re)), (b_pt, (arI G 200 v_pt))]) hP hD [0, 1] [2, 3, 4] rfl rfl (by decide) (by decide) hk1 hFc hP1 hD1
    generalize H1 = H at hP hS ⊢
    refine g5_rs [(b_se, (arJ G 13 v_se)), (b_re, (arJ G 400 v_re)), (b_pt, (arI G 200 v_pt)), (b_o, (oc12 0 u_sa b_rf b_ro b_im b_ke u_fd b_tp u_td u_fr u_to u_so u_wo u_fa u_bd u_nc b_nl u_co b_op b_ar u_le b_pi b_pa u_pd u_od b_ws b_hw u_la b_se b_re u_bk u_va u_su u_ce u_ho u_wy u_bt u_ps b_pt u_tg u_sn b_ip u_ic b_ah b_be b_me u_wd b_tr b_ld u_st b_wn u_id)), (b_ro, (arI G 5740 v_ro))] hP hD (fun hP hD => ?_)
    refine lv_if_eq (tgt := 38) hx hb dX12_late_10 (by decide) (fun c_33 => ?_) (fun c_33 => ?_)
    ·
      refine lv_iconst (v := (-1)) hx hb dX12_late_38 (by decide) ?_
      exact W.iret (v := (-1)) hx hb hr (fun t ht hW => ⟨⟨(-1), [(b_o, (oc12 0 u_sa b_rf b_ro b_im b_ke u_fd b_tp u_td u_fr u_to u_so u_wo u_fa u_bd u_nc b_nl u_co b_op b_ar u_le b_pi b_pa u_pd u_od b_ws b_hw u_la b_se b_re u_bk u_va u_su u_ce u_ho u_wy u_bt u_ps b_pt u_tg u_sn b_ip u_ic b_ah b_be b_me u_wd b_tr b_ld u_st b_wn u_id)), (b_ro, (arI G 5740 v_ro)), (b_se, (arJ G 13 v_se)), (b_re, (arJ G 400 v_re)), (b_pt, (arI G 200 v_pt))], rfl, ⟨(-1), 0, u_la, u_bk, u_va, u_su, u_ce, u_ho, u_wy, u_bt, u_ps, u_tg, u_sn, v_se, v_re, v_pt, h_u_la, h_u_bk, h_u_ce, h_u_ho, h_u_wy, h_u_bt, h_u_ps, r_pt, rfl, rfl⟩, by rw [ht]; exact hP.sub [3, 4, 0, 1, 2] rfl, hD.sub [3, 4, 0, 1, 2] (by decide) rfl⟩, hS.F ht⟩) hS.2.2 dX12_late_39
    ·
      exact absurd c_33 (by decide)
theorem dgX12_first_0 : ∀ r ∈ ([(0, (.aload_n 0, 1)), (1, (.iconst 0, 1)), (2, (.putfield 107, 3)), (5, (.aload_n 0, 1)), (6, (.iload_n 1, 1)), (7, (.invokevirtual 180, 3)), (10, (.ifCond .eq 15, 3)), (13, (.iload_n 2, 1)), (14, (.i2l, 1)), (15, (.lconst 0, 1)), (16, (.ldc2_w 411, 3)), (19, (.invokestatic 121, 3)), (22, (.ifCond .ne 5, 3)), (25, (.iconst (-1), 1)), (26, (.ireturn, 1)), (27, (.iconst 0, 1)), (28, (.istore_n 3, 1)), (29, (.iload_n 3, 1)), (30, (.bipush 24, 2)), (32, (.if_icmp .ge 76, 3)), (35, (.iconst 0, 1)), (36, (.istore 4, 2)), (38, (.iload 4, 2)), (40, (.aload_n 0, 1)), (41, (.getfield 13, 3)), (44, (.iconst 1, 1)), (45, (.iaload, 1)), (46, (.if_icmp .ge 56, 3)), (49, (.iload 4, 2)), (51, (.iload_n 1, 1)), (52, (.if_icmp .ne 7, 3)), (55, (.iconst (-1), 1)), (56, (.goto 11, 3)), (59, (.aload_n 0, 1)), (60, (.iload 4, 2)), (62, (.iload_n 1, 1)), (63, (.iload_n 3, 1)), (64, (.invokevirtual 407, 3)), (67, (.istore 5, 2)), (69, (.iload 5, 2))] : List (Nat × (Instr × Nat))), decode cX12_first r.1 = .ok r.2 := by decide +kernel
theorem dX12_first_0 : decode cX12_first 0 = .ok (.aload_n 0, 1) := dgX12_first_0 (0, (.aload_n 0, 1)) (List.mem_of_getElem? (i := 0) rfl)
theorem dX12_first_1 : decode cX12_first 1 = .ok (.iconst 0, 1) := dgX12_first_0 (1, (.iconst 0, 1)) (List.mem_of_getElem? (i := 1) rfl)
theorem dX12_first_2 : decode cX12_first 2 = .ok (.putfield 107, 3) := dgX12_first_0 (2, (.putfield 107, 3)) (List.mem_of_getElem? (i := 2) rfl)
theorem dX12_first_5 : decode cX12_first 5 = .ok (.aload_n 0, 1) := dgX12_first_0 (5, (.aload_n 0, 1)) (List.mem_of_getElem? (i := 3) rfl)
theorem dX12_first_6 : decode cX12_first 6 = .ok (.iload_n 1, 1) := dgX12_first_0 (6, (.iload_n 1, 1)) (List.mem_of_getElem? (i := 4) rfl)
theorem dX12_first_7 : decode cX12_first 7 = .ok (.invokevirtual 180, 3) := dgX12_first_0 (7, (.invokevirtual 180, 3)) (List.mem_of_getElem? (i := 5) rfl)
theorem dX12_first_10 : decode cX12_first 10 = .ok (.ifCond .eq 15, 3) := dgX12_first_0 (10, (.ifCond .eq 15, 3)) (List.mem_of_getElem? (i := 6) rfl)
theorem dX12_first_13 : decode cX12_first 13 = .ok (.iload_n 2, 1) := dgX12_first_0 (13, (.iload_n 2, 1)) (List.mem_of_getElem? (i := 7) rfl)
theorem dX12_first_14 : decode cX12_first 14 = .ok (.i2l, 1) := dgX12_first_0 (14, (.i2l, 1)) (List.mem_of_getElem? (i := 8) rfl)
theorem dX12_first_15 : decode cX12_first 15 = .ok (.lconst 0, 1) := dgX12_first_0 (15, (.lconst 0, 1)) (List.mem_of_getElem? (i := 9) rfl)
theorem dX12_first_16 : decode cX12_first 16 = .ok (.ldc2_w 411, 3) := dgX12_first_0 (16, (.ldc2_w 411, 3)) (List.mem_of_getElem? (i := 10) rfl)
theorem dX12_first_19 : decode cX12_first 19 = .ok (.invokestatic 121, 3) := dgX12_first_0 (19, (.invokestatic 121, 3)) (List.mem_of_getElem? (i := 11) rfl)
theorem dX12_first_22 : decode cX12_first 22 = .ok (.ifCond .ne 5, 3) := dgX12_first_0 (22, (.ifCond .ne 5, 3)) (List.mem_of_getElem? (i := 12) rfl)
theorem dX12_first_25 : decode cX12_first 25 = .ok (.iconst (-1), 1) := dgX12_first_0 (25, (.iconst (-1), 1)) (List.mem_of_getElem? (i := 13) rfl)
theorem dX12_first_26 : decode cX12_first 26 = .ok (.ireturn, 1) := dgX12_first_0 (26, (.ireturn, 1)) (List.mem_of_getElem? (i := 14) rfl)
theorem dX12_first_27 : decode cX12_first 27 = .ok (.iconst 0, 1) := dgX12_first_0 (27, (.iconst 0, 1)) (List.mem_of_getElem? (i := 15) rfl)
theorem dX12_first_28 : decode cX12_first 28 = .ok (.istore_n 3, 1) := dgX12_first_0 (28, (.istore_n 3, 1)) (List.mem_of_getElem? (i := 16) rfl)
theorem dX12_first_29 : decode cX12_first 29 = .ok (.iload_n 3, 1) := dgX12_first_0 (29, (.iload_n 3, 1)) (List.mem_of_getElem? (i := 17) rfl)
theorem dX12_first_30 : decode cX12_first 30 = .ok (.bipush 24, 2) := dgX12_first_0 (30, (.bipush 24, 2)) (List.mem_of_getElem? (i := 18) rfl)
theorem dX12_first_32 : decode cX12_first 32 = .ok (.if_icmp .ge 76, 3) := dgX12_first_0 (32, (.if_icmp .ge 76, 3)) (List.mem_of_getElem? (i := 19) rfl)
theorem dX12_first_35 : decode cX12_first 35 = .ok (.iconst 0, 1) := dgX12_first_0 (35, (.iconst 0, 1)) (List.mem_of_getElem? (i := 20) rfl)
theorem dX12_first_36 : decode cX12_first 36 = .ok (.istore 4, 2) := dgX12_first_0 (36, (.istore 4, 2)) (List.mem_of_getElem? (i := 21) rfl)
theorem dX12_first_38 : decode cX12_first 38 = .ok (.iload 4, 2) := dgX12_first_0 (38, (.iload 4, 2)) (List.mem_of_getElem? (i := 22) rfl)
theorem dX12_first_40 : decode cX12_first 40 = .ok (.aload_n 0, 1) := dgX12_first_0 (40, (.aload_n 0, 1)) (List.mem_of_getElem? (i := 23) rfl)
theorem dX12_first_41 : decode cX12_first 41 = .ok (.getfield 13, 3) := dgX12_first_0 (41, (.getfield 13, 3)) (List.mem_of_getElem? (i := 24) rfl)
theorem dX12_first_44 : decode cX12_first 44 = .ok (.iconst 1, 1) := dgX12_first_0 (44, (.iconst 1, 1)) (List.mem_of_getElem? (i := 25) rfl)
theorem dX12_first_45 : decode cX12_first 45 = .ok (.iaload, 1) := dgX12_first_0 (45, (.iaload, 1)) (List.mem_of_getElem? (i := 26) rfl)
theorem dX12_first_46 : decode cX12_first 46 = .ok (.if_icmp .ge 56, 3) := dgX12_first_0 (46, (.if_icmp .ge 56, 3)) (List.mem_of_getElem? (i := 27) rfl)
theorem dX12_first_49 : decode cX12_first 49 = .ok (.iload 4, 2) := dgX12_first_0 (49, (.iload 4, 2)) (List.mem_of_getElem? (i := 28) rfl)
theorem dX12_first_51 : decode cX12_first 51 = .ok (.iload_n 1, 1) := dgX12_first_0 (51, (.iload_n 1, 1)) (List.mem_of_getElem? (i := 29) rfl)
theorem dX12_first_52 : decode cX12_first 52 = .ok (.if_icmp .ne 7, 3) := dgX12_first_0 (52, (.if_icmp .ne 7, 3)) (List.mem_of_getElem? (i := 30) rfl)
theorem dX12_first_55 : decode cX12_first 55 = .ok (.iconst (-1), 1) := dgX12_first_0 (55, (.iconst (-1), 1)) (List.mem_of_getElem? (i := 31) rfl)
theorem dX12_first_56 : decode cX12_first 56 = .ok (.goto 11, 3) := dgX12_first_0 (56, (.goto 11, 3)) (List.mem_of_getElem? (i := 32) rfl)
theorem dX12_first_59 : decode cX12_first 59 = .ok (.aload_n 0, 1) := dgX12_first_0 (59, (.aload_n 0, 1)) (List.mem_of_getElem? (i := 33) rfl)
theorem dX12_first_60 : decode cX12_first 60 = .ok (.iload 4, 2) := dgX12_first_0 (60, (.iload 4, 2)) (List.mem_of_getElem? (i := 34) rfl)
theorem dX12_first_62 : decode cX12_first 62 = .ok (.iload_n 1, 1) := dgX12_first_0 (62, (.iload_n 1, 1)) (List.mem_of_getElem? (i := 35) rfl)
theorem dX12_first_63 : decode cX12_first 63 = .ok (.iload_n 3, 1) := dgX12_first_0 (63, (.iload_n 3, 1)) (List.mem_of_getElem? (i := 36) rfl)
theorem dX12_first_64 : decode cX12_first 64 = .ok (.invokevirtual 407, 3) := dgX12_first_0 (64, (.invokevirtual 407, 3)) (List.mem_of_getElem? (i := 37) rfl)
theorem dX12_first_67 : decode cX12_first 67 = .ok (.istore 5, 2) := dgX12_first_0 (67, (.istore 5, 2)) (List.mem_of_getElem? (i := 38) rfl)
theorem dX12_first_69 : decode cX12_first 69 = .ok (.iload 5, 2) := dgX12_first_0 (69, (.iload 5, 2)) (List.mem_of_getElem? (i := 39) rfl)
theorem dgX12_first_1 : ∀ r ∈ ([(71, (.iconst (-1), 1)), (72, (.if_icmp .eq 24, 3)), (75, (.iload_n 2, 1)), (76, (.ifCond .ne 7, 3)), (79, (.iload_n 3, 1)), (80, (.goto 15, 3)), (83, (.iload_n 2, 1)), (84, (.iconst 1, 1)), (85, (.if_icmp .ne 8, 3)), (88, (.iload 4, 2)), (90, (.goto 5, 3)), (93, (.iload 5, 2)), (95, (.ireturn, 1)), (96, (.iinc 4 1, 3)), (99, (.goto (-61), 3)), (102, (.iinc 3 1, 3)), (105, (.goto (-76), 3)), (108, (.iconst (-1), 1)), (109, (.ireturn, 1))] : List (Nat × (Instr × Nat))), decode cX12_first r.1 = .ok r.2 := by decide +kernel
theorem dX12_first_71 : decode cX12_first 71 = .ok (.iconst (-1), 1) := dgX12_first_1 (71, (.iconst (-1), 1)) (List.mem_of_getElem? (i := 0) rfl)
theorem dX12_first_72 : decode cX12_first 72 = .ok (.if_icmp .eq 24, 3) := dgX12_first_1 (72, (.if_icmp .eq 24, 3)) (List.mem_of_getElem? (i := 1) rfl)
theorem dX12_first_75 : decode cX12_first 75 = .ok (.iload_n 2, 1) := dgX12_first_1 (75, (.iload_n 2, 1)) (List.mem_of_getElem? (i := 2) rfl)
theorem dX12_first_76 : decode cX12_first 76 = .ok (.ifCond .ne 7, 3) := dgX12_first_1 (76, (.ifCond .ne 7, 3)) (List.mem_of_getElem? (i := 3) rfl)
theorem dX12_first_79 : decode cX12_first 79 = .ok (.iload_n 3, 1) := dgX12_first_1 (79, (.iload_n 3, 1)) (List.mem_of_getElem? (i := 4) rfl)
theorem dX12_first_80 : decode cX12_first 80 = .ok (.goto 15, 3) := dgX12_first_1 (80, (.goto 15, 3)) (List.mem_of_getElem? (i := 5) rfl)
theorem dX12_first_83 : decode cX12_first 83 = .ok (.iload_n 2, 1) := dgX12_first_1 (83, (.iload_n 2, 1)) (List.mem_of_getElem? (i := 6) rfl)
theorem dX12_first_84 : decode cX12_first 84 = .ok (.iconst 1, 1) := dgX12_first_1 (84, (.iconst 1, 1)) (List.mem_of_getElem? (i := 7) rfl)
theorem dX12_first_85 : decode cX12_first 85 = .ok (.if_icmp .ne 8, 3) := dgX12_first_1 (85, (.if_icmp .ne 8, 3)) (List.mem_of_getElem? (i := 8) rfl)
theorem dX12_first_88 : decode cX12_first 88 = .ok (.iload 4, 2) := dgX12_first_1 (88, (.iload 4, 2)) (List.mem_of_getElem? (i := 9) rfl)
theorem dX12_first_90 : decode cX12_first 90 = .ok (.goto 5, 3) := dgX12_first_1 (90, (.goto 5, 3)) (List.mem_of_getElem? (i := 10) rfl)
theorem dX12_first_93 : decode cX12_first 93 = .ok (.iload 5, 2) := dgX12_first_1 (93, (.iload 5, 2)) (List.mem_of_getElem? (i := 11) rfl)
theorem dX12_first_95 : decode cX12_first 95 = .ok (.ireturn, 1) := dgX12_first_1 (95, (.ireturn, 1)) (List.mem_of_getElem? (i := 12) rfl)
theorem dX12_first_96 : decode cX12_first 96 = .ok (.iinc 4 1, 3) := dgX12_first_1 (96, (.iinc 4 1, 3)) (List.mem_of_getElem? (i := 13) rfl)
theorem dX12_first_99 : decode cX12_first 99 = .ok (.goto (-61), 3) := dgX12_first_1 (99, (.goto (-61), 3)) (List.mem_of_getElem? (i := 14) rfl)
theorem dX12_first_102 : decode cX12_first 102 = .ok (.iinc 3 1, 3) := dgX12_first_1 (102, (.iinc 3 1, 3)) (List.mem_of_getElem? (i := 15) rfl)
theorem dX12_first_105 : decode cX12_first 105 = .ok (.goto (-76), 3) := dgX12_first_1 (105, (.goto (-76), 3)) (List.mem_of_getElem? (i := 16) rfl)
theorem dX12_first_108 : decode cX12_first 108 = .ok (.iconst (-1), 1) := dgX12_first_1 (108, (.iconst (-1), 1)) (List.mem_of_getElem? (i := 17) rfl)
theorem dX12_first_109 : decode cX12_first 109 = .ok (.ireturn, 1) := dgX12_first_1 (109, (.ireturn, 1)) (List.mem_of_getElem? (i := 18) rfl)
theorem kl_X12_411 : Cond.constantLong RX12 411 2 ∈ tblG := tg 1675 (by decide +kernel) (by decide +kernel)
set_option maxHeartbeats 4000000 in
set_option maxRecDepth 100000 in
theorem n_in_0_2 (l : Launch) (G : g5_G) (sz : Nat) (p_x : Int32) : Met l yX12_in (wsG yX12_in cX12_in 6 (some .boolean)) ({ frames := 0, cells := 0, slots := 0, locals := 0 }) (va_Pc [.long p_x.toInt64, .long 0, .long 2] (g5_P G [] sz)) (va_Qi (fun (r : Int32) (u : va_W) => ((p_x.toInt < 0 ∨ 2 < p_x.toInt) ∧ (r = 0) ∧ (u = [])) ∨ ((0 ≤ p_x.toInt ∧ p_x.toInt ≤ 2) ∧ (r = 1) ∧ (u = []))) (g5_B G (va_A [] sz)) (va_A [] sz)) 0 0 (va_A [] sz) := by
  refine Met.ofW (cc := cX12_in) (maxL := 6) (ret := (some .boolean)) (by decide) rfl ?_
  intro p e s m args below meth c s₁ B hml hv
  obtain ⟨rfl, hsz, hP, hK, hD0, hN, hT⟩ := hv
  have hx := B.exec
  have hb := B.bytes
  have hr := B.returns
  have hts : ∀ w ∈ tblG, w.before _ s = true := fun w h => atoms_spec (ws := (wsG yX12_in cX12_in 6 (some .boolean))) B.pre w (List.mem_cons_of_mem _ h)
  have hown : s.vm.findClass RX12 = some m.cls := findClass_of_methodNamed B.named
  have hlocks := B.notSynchronized
  subst hsz
  have hD := hD0.self (sz := s.heap.size)
  generalize hAe : va_A [] s.heap.size = A at hD hT ⊢
  have hA : ∀ q : Nat, s.heap.size ≤ q → A q := fun q h => by rw [← hAe]; exact Or.inr h
  have hS : va_S A s.heap s.heap [] := va_S.rf
  have hP : va_P G.1 vwCl [] s.heap := hP
  have hl := lv_entry ([.long p_x.toInt64, .long 0, .long 2]) (n := 6) (Nat.le_of_ble_eq_true rfl)
  rw [lg_entry_eq]
  generalize (lg_sl ([.long p_x.toInt64, .long 0, .long 2]) ++ List.replicate (6 - (lg_sl ([.long p_x.toInt64, .long 0, .long 2])).length) Slot.unset).toArray = ls at hl ⊢
  have hl : lv_has ls 6 [(0, .long p_x.toInt64), (2, .long 0), (4, .long 2)] := hl
  refine lv_lload_n hx hb dX12_in_0 rfl (lv_at hl 0 rfl) ?_
  refine lv_lload_n hx hb dX12_in_1 rfl (lv_at hl 1 rfl) ?_
  have tl_1 : p_x.toInt64.toInt = p_x.toInt := Int32.toInt_toInt64 _
  have tl_2 : (0 : Int64).toInt = 0 := (by decide)
  have tc_3 := g5_cmpI p_x.toInt64 0
  refine W.lcmp hx hb dX12_in_2 ?_
  refine lv_if_lt (tgt := 17) hx hb dX12_in_3 (by decide) (fun c_4 => ?_) (fun c_4 => ?_)
  ·
    have i_4 : (lg_cmp p_x.toInt64 0).toInt < 0 := by have z := g5_lt (a := (lg_cmp p_x.toInt64 0).toInt) (b := 0) (by rfl) (by decide) c_4; omega
    refine lv_iconst (v := 0) hx hb dX12_in_17 (by decide) ?_
    exact W.zret (v := 0) hx hb hr rfl (fun t ht hW => ⟨⟨0, [], rfl, Or.inl (⟨by omega, rfl, rfl⟩), by rw [ht]; exact hP.sub [] rfl, hD.sub [] (by decide) rfl⟩, hS.F ht⟩) hS.2.2 dX12_in_18
  ·
    have i_4 : (lg_cmp p_x.toInt64 0).toInt ≥ 0 := by have z := g5_ltN (a := (lg_cmp p_x.toInt64 0).toInt) (b := 0) (by rfl) (by decide) c_4; omega
    refine lv_lload_n hx hb dX12_in_6 rfl (lv_at hl 0 rfl) ?_
    refine lv_lload hx hb dX12_in_7 (lv_at hl 2 rfl) ?_
    have tl_5 : p_x.toInt64.toInt = p_x.toInt := Int32.toInt_toInt64 _
    have tl_6 : (2 : Int64).toInt = 2 := (by decide)
    have tc_7 := g5_cmpI p_x.toInt64 2
    refine W.lcmp hx hb dX12_in_9 ?_
    refine lv_if_gt (tgt := 17) hx hb dX12_in_10 (by decide) (fun c_8 => ?_) (fun c_8 => ?_)
    ·
      have i_8 : (lg_cmp p_x.toInt64 2).toInt > 0 := by have z := g5_gt (a := (lg_cmp p_x.toInt64 2).toInt) (b := 0) (by rfl) (by decide) c_8; omega
      refine lv_iconst (v := 0) hx hb dX12_in_17 (by decide) ?_
      exact W.zret (v := 0) hx hb hr rfl (fun t ht hW => ⟨⟨0, [], rfl, Or.inl (⟨by omega, rfl, rfl⟩), by rw [ht]; exact hP.sub [] rfl, hD.sub [] (by decide) rfl⟩, hS.F ht⟩) hS.2.2 dX12_in_18
    ·
      have i_8 : (lg_cmp p_x.toInt64 2).toInt ≤ 0 := by have z := g5_gtN (a := (lg_cmp p_x.toInt64 2).toInt) (b := 0) (by rfl) (by decide) c_8; omega
      refine lv_iconst (v := 1) hx hb dX12_in_13 (by decide) ?_
      refine lv_goto (tgt := 18) hx hb dX12_in_14 (by decide) ?_
      exact W.zret (v := 1) hx hb hr rfl (fun t ht hW => ⟨⟨1, [], rfl, Or.inr (⟨by omega, rfl, rfl⟩), by rw [ht]; exact hP.sub [] rfl, hD.sub [] (by decide) rfl⟩, hS.F ht⟩) hS.2.2 dX12_in_18
