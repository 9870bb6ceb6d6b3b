theorem dgX12_lateness_0 : ∀ r ∈ ([(0, (.iconst (-1), 1)), (1, (.istore 4, 2)), (3, (.aload_n 0, 1)), (4, (.iload_n 1, 1)), (5, (.iload_n 3, 1)), (6, (.invokevirtual 187, 3)), (9, (.istore 5, 2)), (11, (.iconst 0, 1)), (12, (.istore 6, 2)), (14, (.iload 6, 2)), (16, (.iconst 4, 1)), (17, (.if_icmp .ge 84, 3)), (20, (.iload 5, 2)), (22, (.iconst (-1), 1)), (23, (.if_icmp .eq 78, 3)), (26, (.aload_n 0, 1)), (27, (.iload 5, 2)), (29, (.iload 6, 2)), (31, (.iload_n 3, 1)), (32, (.iconst 0, 1)), (33, (.invokevirtual 401, 3)), (36, (.aload_n 0, 1)), (37, (.getfield 358, 3)), (40, (.ifCond .ne 7, 3)), (43, (.iconst 0, 1)), (44, (.goto 19, 3)), (47, (.iload_n 3, 1)), (48, (.aload_n 0, 1)), (49, (.getfield 82, 3)), (52, (.aload_n 0, 1)), (53, (.getfield 358, 3)), (56, (.iconst 1, 1)), (57, (.isub, 1)), (58, (.iaload, 1)), (59, (.bipush 64, 2)), (61, (.idiv, 1)), (62, (.isub, 1)), (63, (.istore 7, 2)), (65, (.aload_n 0, 1)), (66, (.getfield 371, 3))] : List (Nat × (Instr × Nat))), decode cX12_lateness r.1 = .ok r.2 := by decide +kernel
theorem dX12_lateness_0 : decode cX12_lateness 0 = .ok (.iconst (-1), 1) := dgX12_lateness_0 (0, (.iconst (-1), 1)) (List.mem_of_getElem? (i := 0) rfl)
theorem dX12_lateness_1 : decode cX12_lateness 1 = .ok (.istore 4, 2) := dgX12_lateness_0 (1, (.istore 4, 2)) (List.mem_of_getElem? (i := 1) rfl)
theorem dX12_lateness_3 : decode cX12_lateness 3 = .ok (.aload_n 0, 1) := dgX12_lateness_0 (3, (.aload_n 0, 1)) (List.mem_of_getElem? (i := 2) rfl)
theorem dX12_lateness_4 : decode cX12_lateness 4 = .ok (.iload_n 1, 1) := dgX12_lateness_0 (4, (.iload_n 1, 1)) (List.mem_of_getElem? (i := 3) rfl)
theorem dX12_lateness_5 : decode cX12_lateness 5 = .ok (.iload_n 3, 1) := dgX12_lateness_0 (5, (.iload_n 3, 1)) (List.mem_of_getElem? (i := 4) rfl)
theorem dX12_lateness_6 : decode cX12_lateness 6 = .ok (.invokevirtual 187, 3) := dgX12_lateness_0 (6, (.invokevirtual 187, 3)) (List.mem_of_getElem? (i := 5) rfl)
theorem dX12_lateness_9 : decode cX12_lateness 9 = .ok (.istore 5, 2) := dgX12_lateness_0 (9, (.istore 5, 2)) (List.mem_of_getElem? (i := 6) rfl)
theorem dX12_lateness_11 : decode cX12_lateness 11 = .ok (.iconst 0, 1) := dgX12_lateness_0 (11, (.iconst 0, 1)) (List.mem_of_getElem? (i := 7) rfl)
theorem dX12_lateness_12 : decode cX12_lateness 12 = .ok (.istore 6, 2) := dgX12_lateness_0 (12, (.istore 6, 2)) (List.mem_of_getElem? (i := 8) rfl)
theorem dX12_lateness_14 : decode cX12_lateness 14 = .ok (.iload 6, 2) := dgX12_lateness_0 (14, (.iload 6, 2)) (List.mem_of_getElem? (i := 9) rfl)
theorem dX12_lateness_16 : decode cX12_lateness 16 = .ok (.iconst 4, 1) := dgX12_lateness_0 (16, (.iconst 4, 1)) (List.mem_of_getElem? (i := 10) rfl)
theorem dX12_lateness_17 : decode cX12_lateness 17 = .ok (.if_icmp .ge 84, 3) := dgX12_lateness_0 (17, (.if_icmp .ge 84, 3)) (List.mem_of_getElem? (i := 11) rfl)
theorem dX12_lateness_20 : decode cX12_lateness 20 = .ok (.iload 5, 2) := dgX12_lateness_0 (20, (.iload 5, 2)) (List.mem_of_getElem? (i := 12) rfl)
theorem dX12_lateness_22 : decode cX12_lateness 22 = .ok (.iconst (-1), 1) := dgX12_lateness_0 (22, (.iconst (-1), 1)) (List.mem_of_getElem? (i := 13) rfl)
theorem dX12_lateness_23 : decode cX12_lateness 23 = .ok (.if_icmp .eq 78, 3) := dgX12_lateness_0 (23, (.if_icmp .eq 78, 3)) (List.mem_of_getElem? (i := 14) rfl)
theorem dX12_lateness_26 : decode cX12_lateness 26 = .ok (.aload_n 0, 1) := dgX12_lateness_0 (26, (.aload_n 0, 1)) (List.mem_of_getElem? (i := 15) rfl)
theorem dX12_lateness_27 : decode cX12_lateness 27 = .ok (.iload 5, 2) := dgX12_lateness_0 (27, (.iload 5, 2)) (List.mem_of_getElem? (i := 16) rfl)
theorem dX12_lateness_29 : decode cX12_lateness 29 = .ok (.iload 6, 2) := dgX12_lateness_0 (29, (.iload 6, 2)) (List.mem_of_getElem? (i := 17) rfl)
theorem dX12_lateness_31 : decode cX12_lateness 31 = .ok (.iload_n 3, 1) := dgX12_lateness_0 (31, (.iload_n 3, 1)) (List.mem_of_getElem? (i := 18) rfl)
theorem dX12_lateness_32 : decode cX12_lateness 32 = .ok (.iconst 0, 1) := dgX12_lateness_0 (32, (.iconst 0, 1)) (List.mem_of_getElem? (i := 19) rfl)
theorem dX12_lateness_33 : decode cX12_lateness 33 = .ok (.invokevirtual 401, 3) := dgX12_lateness_0 (33, (.invokevirtual 401, 3)) (List.mem_of_getElem? (i := 20) rfl)
theorem dX12_lateness_36 : decode cX12_lateness 36 = .ok (.aload_n 0, 1) := dgX12_lateness_0 (36, (.aload_n 0, 1)) (List.mem_of_getElem? (i := 21) rfl)
theorem dX12_lateness_37 : decode cX12_lateness 37 = .ok (.getfield 358, 3) := dgX12_lateness_0 (37, (.getfield 358, 3)) (List.mem_of_getElem? (i := 22) rfl)
theorem dX12_lateness_40 : decode cX12_lateness 40 = .ok (.ifCond .ne 7, 3) := dgX12_lateness_0 (40, (.ifCond .ne 7, 3)) (List.mem_of_getElem? (i := 23) rfl)
theorem dX12_lateness_43 : decode cX12_lateness 43 = .ok (.iconst 0, 1) := dgX12_lateness_0 (43, (.iconst 0, 1)) (List.mem_of_getElem? (i := 24) rfl)
theorem dX12_lateness_44 : decode cX12_lateness 44 = .ok (.goto 19, 3) := dgX12_lateness_0 (44, (.goto 19, 3)) (List.mem_of_getElem? (i := 25) rfl)
theorem dX12_lateness_47 : decode cX12_lateness 47 = .ok (.iload_n 3, 1) := dgX12_lateness_0 (47, (.iload_n 3, 1)) (List.mem_of_getElem? (i := 26) rfl)
theorem dX12_lateness_48 : decode cX12_lateness 48 = .ok (.aload_n 0, 1) := dgX12_lateness_0 (48, (.aload_n 0, 1)) (List.mem_of_getElem? (i := 27) rfl)
theorem dX12_lateness_49 : decode cX12_lateness 49 = .ok (.getfield 82, 3) := dgX12_lateness_0 (49, (.getfield 82, 3)) (List.mem_of_getElem? (i := 28) rfl)
theorem dX12_lateness_52 : decode cX12_lateness 52 = .ok (.aload_n 0, 1) := dgX12_lateness_0 (52, (.aload_n 0, 1)) (List.mem_of_getElem? (i := 29) rfl)
theorem dX12_lateness_53 : decode cX12_lateness 53 = .ok (.getfield 358, 3) := dgX12_lateness_0 (53, (.getfield 358, 3)) (List.mem_of_getElem? (i := 30) rfl)
theorem dX12_lateness_56 : decode cX12_lateness 56 = .ok (.iconst 1, 1) := dgX12_lateness_0 (56, (.iconst 1, 1)) (List.mem_of_getElem? (i := 31) rfl)
theorem dX12_lateness_57 : decode cX12_lateness 57 = .ok (.isub, 1) := dgX12_lateness_0 (57, (.isub, 1)) (List.mem_of_getElem? (i := 32) rfl)
theorem dX12_lateness_58 : decode cX12_lateness 58 = .ok (.iaload, 1) := dgX12_lateness_0 (58, (.iaload, 1)) (List.mem_of_getElem? (i := 33) rfl)
theorem dX12_lateness_59 : decode cX12_lateness 59 = .ok (.bipush 64, 2) := dgX12_lateness_0 (59, (.bipush 64, 2)) (List.mem_of_getElem? (i := 34) rfl)
theorem dX12_lateness_61 : decode cX12_lateness 61 = .ok (.idiv, 1) := dgX12_lateness_0 (61, (.idiv, 1)) (List.mem_of_getElem? (i := 35) rfl)
theorem dX12_lateness_62 : decode cX12_lateness 62 = .ok (.isub, 1) := dgX12_lateness_0 (62, (.isub, 1)) (List.mem_of_getElem? (i := 36) rfl)
theorem dX12_lateness_63 : decode cX12_lateness 63 = .ok (.istore 7, 2) := dgX12_lateness_0 (63, (.istore 7, 2)) (List.mem_of_getElem? (i := 37) rfl)
theorem dX12_lateness_65 : decode cX12_lateness 65 = .ok (.aload_n 0, 1) := dgX12_lateness_0 (65, (.aload_n 0, 1)) (List.mem_of_getElem? (i := 38) rfl)
theorem dX12_lateness_66 : decode cX12_lateness 66 = .ok (.getfield 371, 3) := dgX12_lateness_0 (66, (.getfield 371, 3)) (List.mem_of_getElem? (i := 39) rfl)
theorem dgX12_lateness_1 : ∀ r ∈ ([(69, (.iload_n 2, 1)), (70, (.if_icmp .ne 21, 3)), (73, (.iload 4, 2)), (75, (.iconst (-1), 1)), (76, (.if_icmp .eq 10, 3)), (79, (.iload 7, 2)), (81, (.iload 4, 2)), (83, (.if_icmp .ge 8, 3)), (86, (.iload 7, 2)), (88, (.goto 5, 3)), (91, (.iload 4, 2)), (93, (.istore 4, 2)), (95, (.iinc 6 1, 3)), (98, (.goto (-84), 3)), (101, (.iload 4, 2)), (103, (.ireturn, 1))] : List (Nat × (Instr × Nat))), decode cX12_lateness r.1 = .ok r.2 := by decide +kernel
theorem dX12_lateness_69 : decode cX12_lateness 69 = .ok (.iload_n 2, 1) := dgX12_lateness_1 (69, (.iload_n 2, 1)) (List.mem_of_getElem? (i := 0) rfl)
theorem dX12_lateness_70 : decode cX12_lateness 70 = .ok (.if_icmp .ne 21, 3) := dgX12_lateness_1 (70, (.if_icmp .ne 21, 3)) (List.mem_of_getElem? (i := 1) rfl)
theorem dX12_lateness_73 : decode cX12_lateness 73 = .ok (.iload 4, 2) := dgX12_lateness_1 (73, (.iload 4, 2)) (List.mem_of_getElem? (i := 2) rfl)
theorem dX12_lateness_75 : decode cX12_lateness 75 = .ok (.iconst (-1), 1) := dgX12_lateness_1 (75, (.iconst (-1), 1)) (List.mem_of_getElem? (i := 3) rfl)
theorem dX12_lateness_76 : decode cX12_lateness 76 = .ok (.if_icmp .eq 10, 3) := dgX12_lateness_1 (76, (.if_icmp .eq 10, 3)) (List.mem_of_getElem? (i := 4) rfl)
theorem dX12_lateness_79 : decode cX12_lateness 79 = .ok (.iload 7, 2) := dgX12_lateness_1 (79, (.iload 7, 2)) (List.mem_of_getElem? (i := 5) rfl)
theorem dX12_lateness_81 : decode cX12_lateness 81 = .ok (.iload 4, 2) := dgX12_lateness_1 (81, (.iload 4, 2)) (List.mem_of_getElem? (i := 6) rfl)
theorem dX12_lateness_83 : decode cX12_lateness 83 = .ok (.if_icmp .ge 8, 3) := dgX12_lateness_1 (83, (.if_icmp .ge 8, 3)) (List.mem_of_getElem? (i := 7) rfl)
theorem dX12_lateness_86 : decode cX12_lateness 86 = .ok (.iload 7, 2) := dgX12_lateness_1 (86, (.iload 7, 2)) (List.mem_of_getElem? (i := 8) rfl)
theorem dX12_lateness_88 : decode cX12_lateness 88 = .ok (.goto 5, 3) := dgX12_lateness_1 (88, (.goto 5, 3)) (List.mem_of_getElem? (i := 9) rfl)
theorem dX12_lateness_91 : decode cX12_lateness 91 = .ok (.iload 4, 2) := dgX12_lateness_1 (91, (.iload 4, 2)) (List.mem_of_getElem? (i := 10) rfl)
theorem dX12_lateness_93 : decode cX12_lateness 93 = .ok (.istore 4, 2) := dgX12_lateness_1 (93, (.istore 4, 2)) (List.mem_of_getElem? (i := 11) rfl)
theorem dX12_lateness_95 : decode cX12_lateness 95 = .ok (.iinc 6 1, 3) := dgX12_lateness_1 (95, (.iinc 6 1, 3)) (List.mem_of_getElem? (i := 12) rfl)
theorem dX12_lateness_98 : decode cX12_lateness 98 = .ok (.goto (-84), 3) := dgX12_lateness_1 (98, (.goto (-84), 3)) (List.mem_of_getElem? (i := 13) rfl)
theorem dX12_lateness_101 : decode cX12_lateness 101 = .ok (.iload 4, 2) := dgX12_lateness_1 (101, (.iload 4, 2)) (List.mem_of_getElem? (i := 14) rfl)
theorem dX12_lateness_103 : decode cX12_lateness 103 = .ok (.ireturn, 1) := dgX12_lateness_1 (103, (.ireturn, 1)) (List.mem_of_getElem? (i := 15) rfl)
set_option maxHeartbeats 4000000 in
set_option maxRecDepth 100000 in
theorem n_lateness (l : Launch) (G : g5_G) (b_o b_ro b_se b_re b_pt b_rf b_im b_ke b_tp b_nl b_op b_ar b_pi b_pa b_ws b_hw b_ip b_ah b_be b_me b_tr b_ld b_wn : Nat) (sz : Nat) (u_th : Int32) (u_sa : Int32) (u_fd : Int32) (u_td : Int32) (u_fr : Int32) (u_to : Int32) (u_so : Int32) (u_fa : Int32) (u_bd : Int32) (u_nc : Int32) (u_co : Int32) (u_le : Int32) (u_pd : Int32) (u_od : Int32) (u_la : Int32) (u_bk : Int32) (u_ce : Int32) (u_ho : Int32) (u_wy : Int32) (u_bt : Int32) (u_ps : Int32) (u_tg : Int32) (u_sn : Int32) (u_ic : Int32) (u_wd : Int32) (u_id : Int32) (p_1 : Int32) (p_2 : Int32) (p_3 : Int32) (u_wo : Int64) (u_va : Int64) (u_su : Int64) (u_st : Int64) (v_ro : Nat → Int32) (v_se : Nat → Int64) (v_re : Nat → Int64) (v_pt : Nat → Int32) (h_u_td : 0 ≤ u_td.toInt ∧ u_td.toInt ≤ 400) (h_u_fr : 0 ≤ u_fr.toInt ∧ u_fr.toInt ≤ 400) (h_u_to : 0 ≤ u_to.toInt ∧ u_to.toInt ≤ 400) (h_u_bd : 0 ≤ u_bd.toInt ∧ u_bd.toInt ≤ 1) (h_u_nc : 0 ≤ u_nc.toInt ∧ u_nc.toInt ≤ 12) (h_u_co : 0 ≤ u_co.toInt ∧ u_co.toInt ≤ 400) (h_u_pd : 0 ≤ u_pd.toInt ∧ u_pd.toInt ≤ 400) (h_u_la : 0 ≤ u_la.toInt ∧ u_la.toInt ≤ 4840) (h_u_bk : 0 ≤ u_bk.toInt ∧ u_bk.toInt ≤ 1) (h_u_ce : 0 ≤ u_ce.toInt ∧ u_ce.toInt ≤ 63) (h_u_ho : 0 ≤ u_ho.toInt ∧ u_ho.toInt ≤ 23) (h_u_wy : 0 ≤ u_wy.toInt ∧ u_wy.toInt ≤ 3) (h_u_bt : 0 ≤ u_bt.toInt ∧ u_bt.toInt ≤ 1000000) (h_u_ps : 0 ≤ u_ps.toInt ∧ u_ps.toInt ≤ 200) (h_u_ic : 0 ≤ u_ic.toInt ∧ u_ic.toInt ≤ 1) (h_u_id : 0 ≤ u_id.toInt ∧ u_id.toInt ≤ 1) (h_p_1 : 0 ≤ p_1.toInt ∧ p_1.toInt ≤ 4) (h_p_3 : 0 ≤ p_3.toInt ∧ p_3.toInt ≤ 23) (r_ro : MI v_ro) (r_pt : PTI v_pt) : Met l yX12_lateness (wsG yX12_lateness cX12_lateness 8 (some .int)) ({ frames := 7, cells := 0, slots := 0, locals := 176 }) (va_Pc [.ref b_o, .int p_1, .int p_2, .int p_3] (g5_P G [(b_o, (oc12 u_th u_sa b_rf b_ro b_im b_ke u_fd b_tp u_td u_fr u_to u_so u_wo u_fa u_bd u_nc b_nl u_co b_op b_ar u_le b_pi b_pa u_pd u_od b_ws b_hw u_la b_se b_re u_bk u_va u_su u_ce u_ho u_wy u_bt u_ps b_pt u_tg u_sn b_ip u_ic b_ah b_be b_me u_wd b_tr b_ld u_st b_wn u_id)), (b_ro, (arI G 5740 v_ro)), (b_se, (arJ G 13 v_se)), (b_re, (arJ G 400 v_re)), (b_pt, (arI G 200 v_pt))] sz)) (va_Qi (fun (r : Int32) (u : va_W) => (∃ (o_r : Int32) (o_la : Int32) (o_bk : Int32) (o_va : Int64) (o_su : Int64) (o_ce : Int32) (o_ho : Int32) (o_wy : Int32) (o_bt : Int32) (o_ps : Int32) (o_tg : Int32) (o_sn : Int32) (o_se : Nat → Int64) (o_re : Nat → Int64) (o_pt : Nat → Int32), (0 ≤ o_la.toInt ∧ o_la.toInt ≤ 4840) ∧ (0 ≤ o_bk.toInt ∧ o_bk.toInt ≤ 1) ∧ (0 ≤ o_ce.toInt ∧ o_ce.toInt ≤ 63) ∧ (0 ≤ o_ho.toInt ∧ o_ho.toInt ≤ 23) ∧ (0 ≤ o_wy.toInt ∧ o_wy.toInt ≤ 3) ∧ (0 ≤ o_bt.toInt ∧ o_bt.toInt ≤ 1000000) ∧ (0 ≤ o_ps.toInt ∧ o_ps.toInt ≤ 200) ∧ (PTI o_pt) ∧ (r = o_r) ∧ (u = [(b_o, (oc12 u_th u_sa b_rf b_ro b_im b_ke u_fd b_tp u_td u_fr u_to u_so u_wo u_fa u_bd u_nc b_nl u_co b_op b_ar u_le b_pi b_pa u_pd u_od b_ws b_hw o_la b_se b_re o_bk o_va o_su o_ce o_ho o_wy o_bt o_ps b_pt o_tg o_sn b_ip u_ic b_ah b_be b_me u_wd b_tr b_ld u_st b_wn u_id)), (b_ro, (arI G 5740 v_ro)), (b_se, (arJ G 13 o_se)), (b_re, (arJ G 400 o_re)), (b_pt, (arI G 200 o_pt))]))) (g5_B G (va_A [(b_o, (oc12 u_th u_sa b_rf b_ro b_im b_ke u_fd b_tp u_td u_fr u_to u_so u_wo u_fa u_bd u_nc b_nl u_co b_op b_ar u_le b_pi b_pa u_pd u_od b_ws b_hw u_la b_se b_re u_bk u_va u_su u_ce u_ho u_wy u_bt u_ps b_pt u_tg u_sn b_ip u_ic b_ah b_be b_me u_wd b_tr b_ld u_st b_wn u_id)), (b_ro, (arI G 5740 v_ro)), (b_se, (arJ G 13 v_se)), (b_re, (arJ G 400 v_re)), (b_pt, (arI G 200 v_pt))] sz)) (va_A [(b_o, (oc12 u_th u_sa b_rf b_ro b_im b_ke u_fd b_tp u_td u_fr u_to u_so u_wo u_fa u_bd u_nc b_nl u_co b_op b_ar u_le b_pi b_pa u_pd u_od b_ws b_hw u_la b_se b_re u_bk u_va u_su u_ce u_ho u_wy u_bt u_ps b_pt u_tg u_sn b_ip u_ic b_ah b_be b_me u_wd b_tr b_ld u_st b_wn u_id)), (b_ro, (arI G 5740 v_ro)), (b_se, (arJ G 13 v_se)), (b_re, (arJ G 400 v_re)), (b_pt, (arI G 200 v_pt))] sz)) 0 0 (va_A [(b_o, (oc12 u_th u_sa b_rf b_ro b_im b_ke u_fd b_tp u_td u_fr u_to u_so u_wo u_fa u_bd u_nc b_nl u_co b_op b_ar u_le b_pi b_pa u_pd u_od b_ws b_hw u_la b_se b_re u_bk u_va u_su u_ce u_ho u_wy u_bt u_ps b_pt u_tg u_sn b_ip u_ic b_ah b_be b_me u_wd b_tr b_ld u_st b_wn u_id)), (b_ro, (arI G 5740 v_ro)), (b_se, (arJ G 13 v_se)), (b_re, (arJ G 400 v_re)), (b_pt, (arI G 200 v_pt))] sz) := by
  refine Met.ofW (cc := cX12_lateness) (maxL := 8) (ret := (some .int)) (by decide +kernel) rfl ?_
  intro p e s m args below meth c s₁ B hml hv
  obtain ⟨rfl, hsz, hP, hK, hD0, hN, hT⟩ := hv
  have hx := B.exec
  have hb := B.bytes
  have hr := B.returns
  have hts : ∀ w ∈ tblG, w.before _ s = true := fun w h => atoms_spec (ws := (wsG yX12_lateness cX12_lateness 8 (some .int))) B.pre w (List.mem_cons_of_mem _ h)
  have hown : s.vm.findClass RX12 = some m.cls := findClass_of_methodNamed B.named
  have hlocks := B.notSynchronized
  subst hsz
  have hD := hD0.self (sz := s.heap.size)
  generalize hAe : va_A [(b_o, (oc12 u_th u_sa b_rf b_ro b_im b_ke u_fd b_tp u_td u_fr u_to u_so u_wo u_fa u_bd u_nc b_nl u_co b_op b_ar u_le b_pi b_pa u_pd u_od b_ws b_hw u_la b_se b_re u_bk u_va u_su u_ce u_ho u_wy u_bt u_ps b_pt u_tg u_sn b_ip u_ic b_ah b_be b_me u_wd b_tr b_ld u_st b_wn u_id)), (b_ro, (arI G 5740 v_ro)), (b_se, (arJ G 13 v_se)), (b_re, (arJ G 400 v_re)), (b_pt, (arI G 200 v_pt))] s.heap.size = A at hD hT ⊢
  have hA : ∀ q : Nat, s.heap.size ≤ q → A q := fun q h => by rw [← hAe]; exact Or.inr h
  have hS : va_S A s.heap s.heap [] := va_S.rf
  replace hP : va_P G.1 vwCl [(b_o, (oc12 u_th u_sa b_rf b_ro b_im b_ke u_fd b_tp u_td u_fr u_to u_so u_wo u_fa u_bd u_nc b_nl u_co b_op b_ar u_le b_pi b_pa u_pd u_od b_ws b_hw u_la b_se b_re u_bk u_va u_su u_ce u_ho u_wy u_bt u_ps b_pt u_tg u_sn b_ip u_ic b_ah b_be b_me u_wd b_tr b_ld u_st b_wn u_id)), (b_ro, (arI G 5740 v_ro)), (b_se, (arJ G 13 v_se)), (b_re, (arJ G 400 v_re)), (b_pt, (arI G 200 v_pt))] s.heap := hP
  have hl := lv_entry ([.ref b_o, .int p_1, .int p_2, .int p_3]) (n := 8) (Nat.le_of_ble_eq_true rfl)
  rw [lg_entry_eq]
  generalize (lg_sl ([.ref b_o, .int p_1, .int p_2, .int p_3]) ++ List.replicate (8 - (lg_sl ([.ref b_o, .int p_1, .int p_2, .int p_3])).length) Slot.unset).toArray = ls at hl ⊢
  replace hl : lv_has ls 8 [(0, .ref b_o), (1, .int p_1), (2, .int p_2), (3, .int p_3)] := hl
  refine lv_iconst (v := (-1)) hx hb dX12_lateness_0 (by decide +kernel) ?_
  refine lv_istore (lv' := [(4, .int (-1)), (0, .ref b_o), (1, .int p_1), (2, .int p_2), (3, .int p_3)]) hx hb dX12_lateness_1 hl (by decide +kernel) rfl ?_
  clear hl
  intro ls hl
  refine lv_aload_n hx hb dX12_lateness_3 rfl (lv_at hl 1 rfl) ?_
  refine lv_iload_n hx hb dX12_lateness_4 rfl (lv_at hl 2 rfl) ?_
  refine lv_iload_n hx hb dX12_lateness_5 rfl (lv_at hl 4 rfl) ?_
  obtain ⟨hPc, hDc, hFc⟩ := g5_sub3 (wc := [(b_o, (oc12 u_th u_sa b_rf b_ro b_im b_ke u_fd b_tp u_td u_fr u_to u_so u_wo u_fa u_bd u_nc b_nl u_co b_op b_ar u_le b_pi b_pa u_pd u_od b_ws b_hw u_la b_se b_re u_bk u_va u_su u_ce u_ho u_wy u_bt u_ps b_pt u_tg u_sn b_ip u_ic b_ah b_be b_me u_wd b_tr b_ld u_st b_wn u_id)), (b_ro, (arI G 5740 v_ro))]) hP hD hS hA [0, 1] (by decide +kernel) rfl
  refine va_calli (va_runV (As := [.int p_1, .int p_3]) (rest := []) ⟨hx, hb, hml, hown, hts⟩ (n_whereIsX l G b_o b_ro b_rf b_im b_ke b_tp b_nl b_op b_ar b_pi b_pa b_ws b_hw b_se b_re b_pt b_ip b_ah b_be b_me b_tr b_ld b_wn s.heap.size u_th u_sa u_fd u_td u_fr u_to u_so u_fa u_bd u_nc u_co u_le u_pd u_od u_la u_bk u_ce u_ho u_wy u_bt u_ps u_tg u_sn u_ic u_wd u_id p_1 p_3 u_wo u_va u_su u_st v_ro h_u_td h_u_fr h_u_to h_u_bd h_u_nc h_u_co h_u_pd h_u_la h_u_bk h_u_ce h_u_ho h_u_wy h_u_bt h_u_ps h_u_ic h_u_id h_p_1 h_p_3 (r_ro)) (cwV 2 hts gV_X12_187 rfl rfl rfl hv_X12_whereIs ⟨Nat.le_of_ble_eq_true rfl, Nat.le_of_ble_eq_true rfl⟩) (g5_preV hPc hK hDc hN hT hS hFc (ci := 12) (q0 := 0) rfl rfl) rfl rfl hl.1 rfl (lv_room (Nat.le_of_ble_eq_true rfl)) dX12_lateness_6 ⟨Nat.le_of_ble_eq_true rfl, Nat.le_of_ble_eq_true rfl⟩) hS (fun q _ h => hFc q h) hFc (fun r u t H locs ht hvm hw hB hz1 hk1 hS => ?_)
  obtain ⟨hP1, hD1⟩ := hB
  have hP1 := g5_ht ht hP1
  obtain ⟨z3, (i_1 : (-1) ≤ z3.toInt ∧ z3.toInt ≤ 63), (i_2 : z3.toInt = (v_ro ((110 + (24 * p_1)) + p_3).toNatClampNeg).toInt), y4, rfl⟩ := hw
  have hJ9 := va_join (wr := [(b_se, (arJ G 13 v_se)), (b_re, (arJ G 400 v_re)), (b_pt, (arI G 200 v_pt))]) hP hD [0, 1] [2, 3, 4] rfl rfl (by decide +kernel) (by decide +kernel) hk1 hFc hP1 hD1
  clear hP hD hPc hDc hFc ht hvm hz1 hk1 hP1 hD1
  obtain ⟨hP, hD⟩ := hJ9
  refine g5_rs [(b_se, (arJ G 13 v_se)), (b_re, (arJ G 400 v_re)), (b_pt, (arI G 200 v_pt)), (b_o, (oc12 u_th u_sa b_rf b_ro b_im b_ke u_fd b_tp u_td u_fr u_to u_so u_wo u_fa u_bd u_nc b_nl u_co b_op b_ar u_le b_pi b_pa u_pd u_od b_ws b_hw u_la b_se b_re u_bk u_va u_su u_ce u_ho u_wy u_bt u_ps b_pt u_tg u_sn b_ip u_ic b_ah b_be b_me u_wd b_tr b_ld u_st b_wn u_id)), (b_ro, (arI G 5740 v_ro))] hP hD ?_
  clear hP hD
  intro hP hD
  refine g5_ti (v := z3) y4 ?_
  refine lv_istore (lv' := [(5, .int z3), (4, .int (-1)), (0, .ref b_o), (1, .int p_1), (2, .int p_2), (3, .int p_3)]) hx hb dX12_lateness_9 hl (by decide +kernel) rfl ?_
  clear hl
  intro ls hl
  refine lv_iconst (v := 0) hx hb dX12_lateness_11 (by decide +kernel) ?_
  refine lv_istore (lv' := [(6, .int 0), (5, .int z3), (4, .int (-1)), (0, .ref b_o), (1, .int p_1), (2, .int p_2), (3, .int p_3)]) hx hb dX12_lateness_12 hl (by decide +kernel) rfl ?_
  clear hl
  intro ls hl
  refine g5_loop (α := (Int32) × (Int32) × (Int32) × (Int32) × (Int64) × (Int64) × (Int32) × (Int32) × (Int32) × (Int32) × (Int32) × (Int32) × (Int32) × (Nat → Int64) × (Nat → Int64) × (Nat → Int32)) (fun (q : (Int32) × (Int32) × (Int32) × (Int32) × (Int64) × (Int64) × (Int32) × (Int32) × (Int32) × (Int32) × (Int32) × (Int32) × (Int32) × (Nat → Int64) × (Nat → Int64) × (Nat → Int32)) (ls : Array Slot) (H : Heap) (locs : List Loc) => match q with | (k14_6, k14_4, k14_la, k14_bk, k14_va, k14_su, k14_ce, k14_ho, k14_wy, k14_bt, k14_ps, k14_tg, k14_sn, k14_se, k14_re, k14_pt) => lv_has ls 8 [(4, .int k14_4), (6, .int k14_6), (5, .int z3), (0, .ref b_o), (1, .int p_1), (2, .int p_2), (3, .int p_3)] ∧ va_P G.1 vwCl [(b_se, (arJ G 13 k14_se)), (b_re, (arJ G 400 k14_re)), (b_pt, (arI G 200 k14_pt)), (b_o, (oc12 u_th u_sa b_rf b_ro b_im b_ke u_fd b_tp u_td u_fr u_to u_so u_wo u_fa u_bd u_nc b_nl u_co b_op b_ar u_le b_pi b_pa u_pd u_od b_ws b_hw k14_la b_se b_re k14_bk k14_va k14_su k14_ce k14_ho k14_wy k14_bt k14_ps b_pt k14_tg k14_sn b_ip u_ic b_ah b_be b_me u_wd b_tr b_ld u_st b_wn u_id)), (b_ro, (arI G 5740 v_ro))] H ∧ va_D A [(b_se, (arJ G 13 k14_se)), (b_re, (arJ G 400 k14_re)), (b_pt, (arI G 200 k14_pt)), (b_o, (oc12 u_th u_sa b_rf b_ro b_im b_ke u_fd b_tp u_td u_fr u_to u_so u_wo u_fa u_bd u_nc b_nl u_co b_op b_ar u_le b_pi b_pa u_pd u_od b_ws b_hw k14_la b_se b_re k14_bk k14_va k14_su k14_ce k14_ho k14_wy k14_bt k14_ps b_pt k14_tg k14_sn b_ip u_ic b_ah b_be b_me u_wd b_tr b_ld u_st b_wn u_id)), (b_ro, (arI G 5740 v_ro))] ∧ va_S A s.heap H locs ∧ (0 ≤ k14_6.toInt ∧ k14_6.toInt ≤ 4) ∧ (0 ≤ k14_la.toInt ∧ k14_la.toInt ≤ 4840) ∧ (0 ≤ k14_bk.toInt ∧ k14_bk.toInt ≤ 1) ∧ (0 ≤ k14_ce.toInt ∧ k14_ce.toInt ≤ 63) ∧ (0 ≤ k14_ho.toInt ∧ k14_ho.toInt ≤ 23) ∧ (0 ≤ k14_wy.toInt ∧ k14_wy.toInt ≤ 3) ∧ (0 ≤ k14_bt.toInt ∧ k14_bt.toInt ≤ 1000000) ∧ (0 ≤ k14_ps.toInt ∧ k14_ps.toInt ≤ 200) ∧ (PTI k14_pt)) (fun (q : (Int32) × (Int32) × (Int32) × (Int32) × (Int64) × (Int64) × (Int32) × (Int32) × (Int32) × (Int32) × (Int32) × (Int32) × (Int32) × (Nat → Int64) × (Nat → Int64) × (Nat → Int32)) => match q with | (k14_6, k14_4, k14_la, k14_bk, k14_va, k14_su, k14_ce, k14_ho, k14_wy, k14_bt, k14_ps, k14_tg, k14_sn, k14_se, k14_re, k14_pt) => Int.toNat (4 - k14_6.toInt)) (0, (-1), u_la, u_bk, u_va, u_su, u_ce, u_ho, u_wy, u_bt, u_ps, u_tg, u_sn, v_se, v_re, v_pt) ⟨lv_sub hl [2, 0, 1, 3, 4, 5, 6] rfl, hP, hD, hS, ⟨by decide, by decide⟩, h_u_la, h_u_bk, h_u_ce, h_u_ho, h_u_wy, h_u_bt, h_u_ps, r_pt⟩ ?_
  rintro ⟨k14_6, k14_4, k14_la, k14_bk, k14_va, k14_su, k14_ce, k14_ho, k14_wy, k14_bt, k14_ps, k14_tg, k14_sn, k14_se, k14_re, k14_pt⟩ ls H locs ⟨hl, hP, hD, hS, (i_5 : 0 ≤ k14_6.toInt ∧ k14_6.toInt ≤ 4), (i_6 : 0 ≤ k14_la.toInt ∧ k14_la.toInt ≤ 4840), (i_7 : 0 ≤ k14_bk.toInt ∧ k14_bk.toInt ≤ 1), (i_8 : 0 ≤ k14_ce.toInt ∧ k14_ce.toInt ≤ 63), (i_9 : 0 ≤ k14_ho.toInt ∧ k14_ho.toInt ≤ 23), (i_10 : 0 ≤ k14_wy.toInt ∧ k14_wy.toInt ≤ 3), (i_11 : 0 ≤ k14_bt.toInt ∧ k14_bt.toInt ≤ 1000000), (i_12 : 0 ≤ k14_ps.toInt ∧ k14_ps.toInt ≤ 200), (i_13 : PTI k14_pt)⟩ ih_14_14
  replace hl : lv_has ls 8 [(4, .int k14_4), (6, .int k14_6), (5, .int z3), (0, .ref b_o), (1, .int p_1), (2, .int p_2), (3, .int p_3)] := hl
  refine g5_rs [(b_se, (arJ G 13 k14_se)), (b_re, (arJ G 400 k14_re)), (b_pt, (arI G 200 k14_pt)), (b_o, (oc12 u_th u_sa b_rf b_ro b_im b_ke u_fd b_tp u_td u_fr u_to u_so u_wo u_fa u_bd u_nc b_nl u_co b_op b_ar u_le b_pi b_pa u_pd u_od b_ws b_hw k14_la b_se b_re k14_bk k14_va k14_su k14_ce k14_ho k14_wy k14_bt k14_ps b_pt k14_tg k14_sn b_ip u_ic b_ah b_be b_me u_wd b_tr b_ld u_st b_wn u_id)), (b_ro, (arI G 5740 v_ro))] hP hD ?_
  clear hP hD
  intro hP hD
  refine lv_iload hx hb dX12_lateness_14 (lv_at hl 1 rfl) ?_
  refine lv_iconst (v := 4) hx hb dX12_lateness_16 (by decide +kernel) ?_
  refine lv_icmp_ge (tgt := 101) hx hb dX12_lateness_17 (by decide +kernel) (fun c_15 => ?_) (fun c_15 => ?_)
  ·
    have i_15 : k14_6.toInt ≥ 4 := g5_ge (a := k14_6.toInt) (b := 4) rfl (by decide +kernel) c_15
    refine lv_iload hx hb dX12_lateness_101 (lv_at hl 0 rfl) ?_
    exact W.iret (v := k14_4) hx hb hr (fun t ht hW => ⟨⟨k14_4, [(b_o, (oc12 u_th u_sa b_rf b_ro b_im b_ke u_fd b_tp u_td u_fr u_to u_so u_wo u_fa u_bd u_nc b_nl u_co b_op b_ar u_le b_pi b_pa u_pd u_od b_ws b_hw k14_la b_se b_re k14_bk k14_va k14_su k14_ce k14_ho k14_wy k14_bt k14_ps b_pt k14_tg k14_sn b_ip u_ic b_ah b_be b_me u_wd b_tr b_ld u_st b_wn u_id)), (b_ro, (arI G 5740 v_ro)), (b_se, (arJ G 13 k14_se)), (b_re, (arJ G 400 k14_re)), (b_pt, (arI G 200 k14_pt))], rfl, ⟨k14_4, k14_la, k14_bk, k14_va, k14_su, k14_ce, k14_ho, k14_wy, k14_bt, k14_ps, k14_tg, k14_sn, k14_se, k14_re, k14_pt, i_6, i_7, i_8, i_9, i_10, i_11, i_12, i_13, rfl, rfl⟩, by rw [ht]; exact hP.sub [3, 4, 0, 1, 2] rfl, hD.sub [3, 4, 0, 1, 2] (by decide +kernel) rfl⟩, hS.F ht⟩) hS.2.2 dX12_lateness_103
  ·
    have i_15 : k14_6.toInt < 4 := g5_geN (a := k14_6.toInt) (b := 4) rfl (by decide +kernel) c_15
    refine lv_iload hx hb dX12_lateness_20 (lv_at hl 2 rfl) ?_
    refine lv_iconst (v := (-1)) hx hb dX12_lateness_22 (by decide +kernel) ?_
    refine lv_icmp_eq (tgt := 101) hx hb dX12_lateness_23 (by decide +kernel) (fun c_16 => ?_) (fun c_16 => ?_)
    ·
      have i_16 : z3.toInt = (-1) := g5_eq (a := z3.toInt) (b := (-1)) rfl (by decide +kernel) c_16
      refine lv_iload hx hb dX12_lateness_101 (lv_at hl 0 rfl) ?_
      exact W.iret (v := k14_4) hx hb hr (fun t ht hW => ⟨⟨k14_4, [(b_o, (oc12 u_th u_sa b_rf b_ro b_im b_ke u_fd b_tp u_td u_fr u_to u_so u_wo u_fa u_bd u_nc b_nl u_co b_op b_ar u_le b_pi b_pa u_pd u_od b_ws b_hw k14_la b_se b_re k14_bk k14_va k14_su k14_ce k14_ho k14_wy k14_bt k14_ps b_pt k14_tg k14_sn b_ip u_ic b_ah b_be b_me u_wd b_tr b_ld u_st b_wn u_id)), (b_ro, (arI G 5740 v_ro)), (b_se, (arJ G 13 k14_se)), (b_re, (arJ G 400 k14_re)), (b_pt, (arI G 200 k14_pt))], rfl, ⟨k14_4, k14_la, k14_bk, k14_va, k14_su, k14_ce, k14_ho, k14_wy, k14_bt, k14_ps, k14_tg, k14_sn, k14_se, k14_re, k14_pt, i_6, i_7, i_8, i_9, i_10, i_11, i_12, i_13, rfl, rfl⟩, by rw [ht]; exact hP.sub [3, 4, 0, 1, 2] rfl, hD.sub [3, 4, 0, 1, 2] (by decide +kernel) rfl⟩, hS.F ht⟩) hS.2.2 dX12_lateness_103
    ·
      have n_16 : gNe (z3.toInt) ((-1)) := g5_eqN (a := z3.toInt) (b := (-1)) rfl (by decide +kernel) c_16
      have i_16 : z3.toInt ≥ 0 := by have z := g5_eqN (a := z3.toInt) (b := (-1)) (by rfl) (by decide +kernel) c_16; omega
      refine lv_aload_n hx hb dX12_lateness_26 rfl (lv_at hl 3 rfl) ?_
      refine lv_iload hx hb dX12_lateness_27 (lv_at hl 2 rfl) ?_
      refine lv_iload hx hb dX12_lateness_29 (lv_at hl 1 rfl) ?_
      refine lv_iload_n hx hb dX12_lateness_31 rfl (lv_at hl 6 rfl) ?_
      refine lv_iconst (v := 0) hx hb dX12_lateness_32 (by decide +kernel) ?_
      obtain ⟨hPc, hDc, hFc⟩ := g5_sub3 (wc := [(b_o, (oc12 u_th u_sa b_rf b_ro b_im b_ke u_fd b_tp u_td u_fr u_to u_so u_wo u_fa u_bd u_nc b_nl u_co b_op b_ar u_le b_pi b_pa u_pd u_od b_ws b_hw k14_la b_se b_re k14_bk k14_va k14_su k14_ce k14_ho k14_wy k14_bt k14_ps b_pt k14_tg k14_sn b_ip u_ic b_ah b_be b_me u_wd b_tr b_ld u_st b_wn u_id)), (b_ro, (arI G 5740 v_ro)), (b_se, (arJ G 13 k14_se)), (b_re, (arJ G 400 k14_re)), (b_pt, (arI G 200 k14_pt))]) hP hD hS hA [3, 4, 0, 1, 2] (by decide +kernel) rfl
      refine va_callv (va_runV (As := [.int z3, .int k14_6, .int p_3, .int 0]) (rest := []) ⟨hx, hb, hml, hown, hts⟩ (n_go l G b_o b_ro b_se b_re b_pt b_rf b_im b_ke b_tp b_nl b_op b_ar b_pi b_pa b_ws b_hw b_ip b_ah b_be b_me b_tr b_ld b_wn H.size u_th u_sa u_fd u_td u_fr u_to u_so u_fa u_bd u_nc u_co u_le u_pd u_od k14_la k14_bk k14_ce k14_ho k14_wy k14_bt k14_ps k14_tg k14_sn u_ic u_wd u_id z3 k14_6 p_3 0 u_wo k14_va k14_su u_st v_ro k14_se k14_re k14_pt h_u_td h_u_fr h_u_to h_u_bd h_u_nc h_u_co h_u_pd i_6 i_7 i_8 i_9 i_10 i_11 i_12 h_u_ic h_u_id ⟨by omega, by omega⟩ ⟨by omega, by omega⟩ h_p_3 (r_ro) (i_13)) (cwV 4 hts gV_X12_401 rfl rfl rfl hv_X12_go ⟨Nat.le_of_ble_eq_true rfl, Nat.le_of_ble_eq_true rfl⟩) (g5_preV hPc hK hDc hN hT hS hFc (ci := 12) (q0 := 0) rfl rfl) rfl rfl hl.1 rfl (lv_room (Nat.le_of_ble_eq_true rfl)) dX12_lateness_33 ⟨Nat.le_of_ble_eq_true rfl, Nat.le_of_ble_eq_true rfl⟩) hS (fun q _ h => hFc q h) hFc (fun u t H locs ht hvm hw hB hz1 hk1 hS => ?_)
      obtain ⟨hP1, hD1⟩ := hB
      have hP1 := g5_ht ht hP1
      obtain ⟨z25, z26, z27, z28, z29, z30, z31, z32, z33, z34, z35, z36, z37, z38, (i_17 : 0 ≤ z25.toInt ∧ z25.toInt ≤ 4840), (i_18 : 0 ≤ z26.toInt ∧ z26.toInt ≤ 1), (i_19 : 0 ≤ z29.toInt ∧ z29.toInt ≤ 63), (i_20 : 0 ≤ z30.toInt ∧ z30.toInt ≤ 23), (i_21 : 0 ≤ z31.toInt ∧ z31.toInt ≤ 3), (i_22 : 0 ≤ z32.toInt ∧ z32.toInt ≤ 1000000), (i_23 : 0 ≤ z33.toInt ∧ z33.toInt ≤ 200), (i_24 : PTI z38), rfl⟩ := hw
      have hJ9 := va_join (wr := []) hP hD [3, 4, 0, 1, 2] [] rfl rfl (by decide +kernel) (by decide +kernel) hk1 hFc hP1 hD1
      clear hP hD hPc hDc hFc ht hvm hz1 hk1 hP1 hD1
      obtain ⟨hP, hD⟩ := hJ9
      refine g5_rs [(b_o, (oc12 u_th u_sa b_rf b_ro b_im b_ke u_fd b_tp u_td u_fr u_to u_so u_wo u_fa u_bd u_nc b_nl u_co b_op b_ar u_le b_pi b_pa u_pd u_od b_ws b_hw z25 b_se b_re z26 z27 z28 z29 z30 z31 z32 z33 b_pt z34 z35 b_ip u_ic b_ah b_be b_me u_wd b_tr b_ld u_st b_wn u_id)), (b_ro, (arI G 5740 v_ro)), (b_se, (arJ G 13 z36)), (b_re, (arJ G 400 z37)), (b_pt, (arI G 200 z38))] hP hD ?_
      clear hP hD
      intro hP hD
      refine lv_aload_n hx hb dX12_lateness_36 rfl (lv_at hl 3 rfl) ?_
      refine va_get (D := G.1) (ci := 12) (v := .int z33) (C := RX12) (T := TX12) (N := 52) hx hb hts inG_X12 hown hK hP 0 rfl rfl 37 (by decide +kernel) (hts _ fl_X12_358) (fun _ h9 => h9) rfl dX12_lateness_37 ?_
      refine lv_if_ne (tgt := 47) hx hb dX12_lateness_40 (by decide +kernel) (fun c_39 => ?_) (fun c_39 => ?_)
      ·
        have n_39 : gNe (z33.toInt) (0) := g5_ne (a := z33.toInt) (b := 0) rfl (by decide +kernel) c_39
        have i_39 : z33.toInt ≥ 1 := by have z := g5_ne (a := z33.toInt) (b := 0) (by rfl) (by decide +kernel) c_39; omega
        refine lv_iload_n hx hb dX12_lateness_47 rfl (lv_at hl 6 rfl) ?_
        refine lv_aload_n hx hb dX12_lateness_48 rfl (lv_at hl 3 rfl) ?_
        refine va_get (D := G.1) (ci := 12) (v := .ref b_pt) (C := RX12) (T := TX12) (N := 52) hx hb hts inG_X12 hown hK hP 0 rfl rfl 38 (by decide +kernel) (hts _ fl_X12_82) (fun _ h9 => h9) rfl dX12_lateness_49 ?_
        refine lv_aload_n hx hb dX12_lateness_52 rfl (lv_at hl 3 rfl) ?_
        refine va_get (D := G.1) (ci := 12) (v := .int z33) (C := RX12) (T := TX12) (N := 52) hx hb hts inG_X12 hown hK hP 0 rfl rfl 37 (by decide +kernel) (hts _ fl_X12_358) (fun _ h9 => h9) rfl dX12_lateness_53 ?_
        refine lv_iconst (v := 1) hx hb dX12_lateness_56 (by decide +kernel) ?_
        refine lv_isub hx hb dX12_lateness_57 ?_
        have t_40 : (z33 - 1).toInt = z33.toInt - 1 := g5_isub (a := z33.toInt) (b := 1) (by rfl) (by decide +kernel) (by omega) (by omega)
        refine va_iald hx hb hK hP 4 0 rfl rfl (i := (z33 - 1)) (vp_in_iff.mpr ⟨by omega, by omega⟩) dX12_lateness_58 ?_
        have hr_41 : 0 ≤ (z38 (z33 - 1).toNatClampNeg).toInt ∧ (z38 (z33 - 1).toNatClampNeg).toInt ≤ 1535 := i_24 ((z33 - 1).toNatClampNeg)
        refine lv_bipush (v := 64) hx hb dX12_lateness_59 (by decide +kernel) ?_
        refine lv_idiv hx hb dX12_lateness_61 (by decide +kernel) ?_
        have t_42 : ((z38 (z33 - 1).toNatClampNeg) / 64).toInt = (z38 (z33 - 1).toNatClampNeg).toInt / 64 := g5_idiv (a := (z38 (z33 - 1).toNatClampNeg).toInt) (b := 64) rfl (by decide +kernel) (by omega) (by decide +kernel)
        refine lv_isub hx hb dX12_lateness_62 ?_
        have t_43 : (p_3 - ((z38 (z33 - 1).toNatClampNeg) / 64)).toInt = p_3.toInt - ((z38 (z33 - 1).toNatClampNeg) / 64).toInt := g5_isub (a := p_3.toInt) (b := ((z38 (z33 - 1).toNatClampNeg) / 64).toInt) (by rfl) (by rfl) (by omega) (by omega)
        refine lv_istore (lv' := [(7, .int (p_3 - ((z38 (z33 - 1).toNatClampNeg) / 64))), (4, .int k14_4), (6, .int k14_6), (5, .int z3), (0, .ref b_o), (1, .int p_1), (2, .int p_2), (3, .int p_3)]) hx hb dX12_lateness_63 hl (by decide +kernel) rfl ?_
        clear hl
        intro ls hl
        refine lv_aload_n hx hb dX12_lateness_65 rfl (lv_at hl 4 rfl) ?_
        refine va_get (D := G.1) (ci := 12) (v := .int z35) (C := RX12) (T := TX12) (N := 52) hx hb hts inG_X12 hown hK hP 0 rfl rfl 40 (by decide +kernel) (hts _ fl_X12_371) (fun _ h9 => h9) rfl dX12_lateness_66 ?_
        refine lv_iload_n hx hb dX12_lateness_69 rfl (lv_at hl 6 rfl) ?_
        refine lv_icmp_ne (tgt := 91) hx hb dX12_lateness_70 (by decide +kernel) (fun c_44 => ?_) (fun c_44 => ?_)
        ·
          have n_44 : gNe (z35.toInt) (p_2.toInt) := g5_ne (a := z35.toInt) (b := p_2.toInt) rfl rfl c_44
          refine lv_iload hx hb dX12_lateness_91 (lv_at hl 1 rfl) ?_
          refine lv_istore (lv' := [(4, .int k14_4), (7, .int (p_3 - ((z38 (z33 - 1).toNatClampNeg) / 64))), (6, .int k14_6), (5, .int z3), (0, .ref b_o), (1, .int p_1), (2, .int p_2), (3, .int p_3)]) hx hb dX12_lateness_93 hl (by decide +kernel) rfl ?_
          clear hl
          intro ls hl
          refine lv_iinc (v := (k14_6 + 1)) (lv' := [(6, .int (k14_6 + 1)), (4, .int k14_4), (7, .int (p_3 - ((z38 (z33 - 1).toNatClampNeg) / 64))), (5, .int z3), (0, .ref b_o), (1, .int p_1), (2, .int p_2), (3, .int p_3)]) hx hb dX12_lateness_95 hl (k := 2) rfl rfl (by decide +kernel) rfl ?_
          clear hl
          intro ls hl
          have t_45 : (k14_6 + 1).toInt = k14_6.toInt + 1 := g5_iadd (a := k14_6.toInt) (b := 1) rfl (by decide +kernel) (by omega) (by omega)
          refine lv_goto (tgt := 14) hx hb dX12_lateness_98 (by decide +kernel) ?_
          exact ih_14_14 ((k14_6 + 1), k14_4, z25, z26, z27, z28, z29, z30, z31, z32, z33, z34, z35, z36, z37, z38) ls H locs (show Int.toNat (4 - (k14_6 + 1).toInt) < Int.toNat (4 - k14_6.toInt) from g_up (show k14_6.toInt < (k14_6 + 1).toInt by omega) (show k14_6.toInt < 4 by omega)) ⟨lv_sub hl [1, 0, 3, 4, 5, 6, 7] rfl, hP.sub [2, 3, 4, 0, 1] rfl, hD.sub [2, 3, 4, 0, 1] (by decide +kernel) rfl, hS, ⟨by omega, by omega⟩, i_17, i_18, i_19, i_20, i_21, i_22, i_23, i_24⟩
        ·
          have i_44 : z35.toInt = p_2.toInt := g5_neN (a := z35.toInt) (b := p_2.toInt) rfl rfl c_44
          refine lv_iload hx hb dX12_lateness_73 (lv_at hl 1 rfl) ?_
          refine lv_iconst (v := (-1)) hx hb dX12_lateness_75 (by decide +kernel) ?_
          refine lv_icmp_eq (tgt := 86) hx hb dX12_lateness_76 (by decide +kernel) (fun c_46 => ?_) (fun c_46 => ?_)
          ·
            have i_46 : k14_4.toInt = (-1) := g5_eq (a := k14_4.toInt) (b := (-1)) rfl (by decide +kernel) c_46
            refine lv_iload hx hb dX12_lateness_86 (lv_at hl 0 rfl) ?_
            refine lv_goto (tgt := 93) hx hb dX12_lateness_88 (by decide +kernel) ?_
            refine lv_istore (lv' := [(4, .int (p_3 - ((z38 (z33 - 1).toNatClampNeg) / 64))), (7, .int (p_3 - ((z38 (z33 - 1).toNatClampNeg) / 64))), (6, .int k14_6), (5, .int z3), (0, .ref b_o), (1, .int p_1), (2, .int p_2), (3, .int p_3)]) hx hb dX12_lateness_93 hl (by decide +kernel) rfl ?_
            clear hl
            intro ls hl
            refine lv_iinc (v := (k14_6 + 1)) (lv' := [(6, .int (k14_6 + 1)), (4, .int (p_3 - ((z38 (z33 - 1).toNatClampNeg) / 64))), (7, .int (p_3 - ((z38 (z33 - 1).toNatClampNeg) / 64))), (5, .int z3), (0, .ref b_o), (1, .int p_1), (2, .int p_2), (3, .int p_3)]) hx hb dX12_lateness_95 hl (k := 2) rfl rfl (by decide +kernel) rfl ?_
            clear hl
            intro ls hl
            have t_47 : (k14_6 + 1).toInt = k14_6.toInt + 1 := g5_iadd (a := k14_6.toInt) (b := 1) rfl (by decide +kernel) (by omega) (by omega)
            refine lv_goto (tgt := 14) hx hb dX12_lateness_98 (by decide +kernel) ?_
            exact ih_14_14 ((k14_6 + 1), (p_3 - ((z38 (z33 - 1).toNatClampNeg) / 64)), z25, z26, z27, z28, z29, z30, z31, z32, z33, z34, z35, z36, z37, z38) ls H locs (show Int.toNat (4 - (k14_6 + 1).toInt) < Int.toNat (4 - k14_6.toInt) from g_up (show k14_6.toInt < (k14_6 + 1).toInt by omega) (show k14_6.toInt < 4 by omega)) ⟨lv_sub hl [1, 0, 3, 4, 5, 6, 7] rfl, hP.sub [2, 3, 4, 0, 1] rfl, hD.sub [2, 3, 4, 0, 1] (by decide +kernel) rfl, hS, ⟨by omega, by omega⟩, i_17, i_18, i_19, i_20, i_21, i_22, i_23, i_24⟩
          ·
            have n_46 : gNe (k14_4.toInt) ((-1)) := g5_eqN (a := k14_4.toInt) (b := (-1)) rfl (by decide +kernel) c_46
            refine lv_iload hx hb dX12_lateness_79 (lv_at hl 0 rfl) ?_
            refine lv_iload hx hb dX12_lateness_81 (lv_at hl 1 rfl) ?_
            refine lv_icmp_ge (tgt := 91) hx hb dX12_lateness_83 (by decide +kernel) (fun c_48 => ?_) (fun c_48 => ?_)
            ·
              have i_48 : (p_3.toInt - ((z38 (z33 - 1).toNatClampNeg).toInt / 64)) ≥ k14_4.toInt := by have z := g5_ge (a := (p_3 - ((z38 (z33 - 1).toNatClampNeg) / 64)).toInt) (b := k14_4.toInt) (by rfl) (by rfl) c_48; omega
              refine lv_iload hx hb dX12_lateness_91 (lv_at hl 1 rfl) ?_
              refine lv_istore (lv' := [(4, .int k14_4), (7, .int (p_3 - ((z38 (z33 - 1).toNatClampNeg) / 64))), (6, .int k14_6), (5, .int z3), (0, .ref b_o), (1, .int p_1), (2, .int p_2), (3, .int p_3)]) hx hb dX12_lateness_93 hl (by decide +kernel) rfl ?_
              clear hl
              intro ls hl
              refine lv_iinc (v := (k14_6 + 1)) (lv' := [(6, .int (k14_6 + 1)), (4, .int k14_4), (7, .int (p_3 - ((z38 (z33 - 1).toNatClampNeg) / 64))), (5, .int z3), (0, .ref b_o), (1, .int p_1), (2, .int p_2), (3, .int p_3)]) hx hb dX12_lateness_95 hl (k := 2) rfl rfl (by decide +kernel) rfl ?_
              clear hl
              intro ls hl
              have t_49 : (k14_6 + 1).toInt = k14_6.toInt + 1 := g5_iadd (a := k14_6.toInt) (b := 1) rfl (by decide +kernel) (by omega) (by omega)
              refine lv_goto (tgt := 14) hx hb dX12_lateness_98 (by decide +kernel) ?_
              exact ih_14_14 ((k14_6 + 1), k14_4, z25, z26, z27, z28, z29, z30, z31, z32, z33, z34, z35, z36, z37, z38) ls H locs (show Int.toNat (4 - (k14_6 + 1).toInt) < Int.toNat (4 - k14_6.toInt) from g_up (show k14_6.toInt < (k14_6 + 1).toInt by omega) (show k14_6.toInt < 4 by omega)) ⟨lv_sub hl [1, 0, 3, 4, 5, 6, 7] rfl, hP.sub [2, 3, 4, 0, 1] rfl, hD.sub [2, 3, 4, 0, 1] (by decide +kernel) rfl, hS, ⟨by omega, by omega⟩, i_17, i_18, i_19, i_20, i_21, i_22, i_23, i_24⟩
            ·
              have i_48 : (p_3.toInt - ((z38 (z33 - 1).toNatClampNeg).toInt / 64)) < k14_4.toInt := by have z := g5_geN (a := (p_3 - ((z38 (z33 - 1).toNatClampNeg) / 64)).toInt) (b := k14_4.toInt) (by rfl) (by rfl) c_48; omega
              refine lv_iload hx hb dX12_lateness_86 (lv_at hl 0 rfl) ?_
              refine lv_goto (tgt := 93) hx hb dX12_lateness_88 (by decide +kernel) ?_
              refine lv_istore (lv' := [(4, .int (p_3 - ((z38 (z33 - 1).toNatClampNeg) / 64))), (7, .int (p_3 - ((z38 (z33 - 1).toNatClampNeg) / 64))), (6, .int k14_6), (5, .int z3), (0, .ref b_o), (1, .int p_1), (2, .int p_2), (3, .int p_3)]) hx hb dX12_lateness_93 hl (by decide +kernel) rfl ?_
              clear hl
              intro ls hl
              refine lv_iinc (v := (k14_6 + 1)) (lv' := [(6, .int (k14_6 + 1)), (4, .int (p_3 - ((z38 (z33 - 1).toNatClampNeg) / 64))), (7, .int (p_3 - ((z38 (z33 - 1).toNatClampNeg) / 64))), (5, .int z3), (0, .ref b_o), (1, .int p_1), (2, .int p_2), (3, .int p_3)]) hx hb dX12_lateness_95 hl (k := 2) rfl rfl (by decide +kernel) rfl ?_
              clear hl
              intro ls hl
              have t_50 : (k14_6 + 1).toInt = k14_6.toInt + 1 := g5_iadd (a := k14_6.toInt) (b := 1) rfl (by decide +kernel) (by omega) (by omega)
              refine lv_goto (tgt := 14) hx hb dX12_lateness_98 (by decide +kernel) ?_
              exact ih_14_14 ((k14_6 + 1), (p_3 - ((z38 (z33 - 1).toNatClampNeg) / 64)), z25, z26, z27, z28, z29, z30, z31, z32, z33, z34, z35, z36, z37, z38) ls H locs (show Int.toNat (4 - (k14_6 + 1).toInt) < Int.toNat (4 - k14_6.toInt) from g_up (show k14_6.toInt < (k14_6 + 1).toInt by omega) (show k14_6.toInt < 4 by omega)) ⟨lv_sub hl [1, 0, 3, 4, 5, 6, 7] rfl, hP.sub [2, 3, 4, 0, 1] rfl, hD.sub [2, 3, 4, 0, 1] (by decide +kernel) rfl, hS, ⟨by omega, by omega⟩, i_17, i_18, i_19, i_20, i_21, i_22, i_23, i_24⟩
      ·
        have i_39 : z33.toInt = 0 := g5_neN (a := z33.toInt) (b := 0) rfl (by decide +kernel) c_39
        refine lv_iconst (v := 0) hx hb dX12_lateness_43 (by decide +kernel) ?_
        refine lv_goto (tgt := 63) hx hb dX12_lateness_44 (by decide +kernel) ?_
        refine lv_istore (lv' := [(7, .int 0), (4, .int k14_4), (6, .int k14_6), (5, .int z3), (0, .ref b_o), (1, .int p_1), (2, .int p_2), (3, .int p_3)]) hx hb dX12_lateness_63 hl (by decide +kernel) rfl ?_
        clear hl
        intro ls hl
        refine lv_aload_n hx hb dX12_lateness_65 rfl (lv_at hl 4 rfl) ?_
        refine va_get (D := G.1) (ci := 12) (v := .int z35) (C := RX12) (T := TX12) (N := 52) hx hb hts inG_X12 hown hK hP 0 rfl rfl 40 (by decide +kernel) (hts _ fl_X12_371) (fun _ h9 => h9) rfl dX12_lateness_66 ?_
        refine lv_iload_n hx hb dX12_lateness_69 rfl (lv_at hl 6 rfl) ?_
        refine lv_icmp_ne (tgt := 91) hx hb dX12_lateness_70 (by decide +kernel) (fun c_51 => ?_) (fun c_51 => ?_)
        ·
          have n_51 : gNe (z35.toInt) (p_2.toInt) := g5_ne (a := z35.toInt) (b := p_2.toInt) rfl rfl c_51
          refine lv_iload hx hb dX12_lateness_91 (lv_at hl 1 rfl) ?_
          refine lv_istore (lv' := [(4, .int k14_4), (7, .int 0), (6, .int k14_6), (5, .int z3), (0, .ref b_o), (1, .int p_1), (2, .int p_2), (3, .int p_3)]) hx hb dX12_lateness_93 hl (by decide +kernel) rfl ?_
          clear hl
          intro ls hl
          refine lv_iinc (v := (k14_6 + 1)) (lv' := [(6, .int (k14_6 + 1)), (4, .int k14_4), (7, .int 0), (5, .int z3), (0, .ref b_o), (1, .int p_1), (2, .int p_2), (3, .int p_3)]) hx hb dX12_lateness_95 hl (k := 2) rfl rfl (by decide +kernel) rfl ?_
          clear hl
          intro ls hl
          have t_52 : (k14_6 + 1).toInt = k14_6.toInt + 1 := g5_iadd (a := k14_6.toInt) (b := 1) rfl (by decide +kernel) (by omega) (by omega)
          refine lv_goto (tgt := 14) hx hb dX12_lateness_98 (by decide +kernel) ?_
          exact ih_14_14 ((k14_6 + 1), k14_4, z25, z26, z27, z28, z29, z30, z31, z32, z33, z34, z35, z36, z37, z38) ls H locs (show Int.toNat (4 - (k14_6 + 1).toInt) < Int.toNat (4 - k14_6.toInt) from g_up (show k14_6.toInt < (k14_6 + 1).toInt by omega) (show k14_6.toInt < 4 by omega)) ⟨lv_sub hl [1, 0, 3, 4, 5, 6, 7] rfl, hP.sub [2, 3, 4, 0, 1] rfl, hD.sub [2, 3, 4, 0, 1] (by decide +kernel) rfl, hS, ⟨by omega, by omega⟩, i_17, i_18, i_19, i_20, i_21, i_22, i_23, i_24⟩
        ·
          have i_51 : z35.toInt = p_2.toInt := g5_neN (a := z35.toInt) (b := p_2.toInt) rfl rfl c_51
          refine lv_iload hx hb dX12_lateness_73 (lv_at hl 1 rfl) ?_
          refine lv_iconst (v := (-1)) hx hb dX12_lateness_75 (by decide +kernel) ?_
          refine lv_icmp_eq (tgt := 86) hx hb dX12_lateness_76 (by decide +kernel) (fun c_53 => ?_) (fun c_53 => ?_)
          ·
            have i_53 : k14_4.toInt = (-1) := g5_eq (a := k14_4.toInt) (b := (-1)) rfl (by decide +kernel) c_53
            refine lv_iload hx hb dX12_lateness_86 (lv_at hl 0 rfl) ?_
            refine lv_goto (tgt := 93) hx hb dX12_lateness_88 (by decide +kernel) ?_
            refine lv_istore (lv' := [(4, .int 0), (7, .int 0), (6, .int k14_6), (5, .int z3), (0, .ref b_o), (1, .int p_1), (2, .int p_2), (3, .int p_3)]) hx hb dX12_lateness_93 hl (by decide +kernel) rfl ?_
            clear hl
            intro ls hl
            refine lv_iinc (v := (k14_6 + 1)) (lv' := [(6, .int (k14_6 + 1)), (4, .int 0), (7, .int 0), (5, .int z3), (0, .ref b_o), (1, .int p_1), (2, .int p_2), (3, .int p_3)]) hx hb dX12_lateness_95 hl (k := 2) rfl rfl (by decide +kernel) rfl ?_
            clear hl
            intro ls hl
            have t_54 : (k14_6 + 1).toInt = k14_6.toInt + 1 := g5_iadd (a := k14_6.toInt) (b := 1) rfl (by decide +kernel) (by omega) (by omega)
            refine lv_goto (tgt := 14) hx hb dX12_lateness_98 (by decide +kernel) ?_
            exact ih_14_14 ((k14_6 + 1), 0, z25, z26, z27, z28, z29, z30, z31, z32, z33, z34, z35, z36, z37, z38) ls H locs (show Int.toNat (4 - (k14_6 + 1).toInt) < Int.toNat (4 - k14_6.toInt) from g_up (show k14_6.toInt < (k14_6 + 1).toInt by omega) (show k14_6.toInt < 4 by omega)) ⟨lv_sub hl [1, 0, 3, 4, 5, 6, 7] rfl, hP.sub [2, 3, 4, 0, 1] rfl, hD.sub [2, 3, 4, 0, 1] (by decide +kernel) rfl, hS, ⟨by omega, by omega⟩, i_17, i_18, i_19, i_20, i_21, i_22, i_23, i_24⟩
          ·
            have n_53 : gNe (k14_4.toInt) ((-1)) := g5_eqN (a := k14_4.toInt) (b := (-1)) rfl (by decide +kernel) c_53
            refine lv_iload hx hb dX12_lateness_79 (lv_at hl 0 rfl) ?_
            refine lv_iload hx hb dX12_lateness_81 (lv_at hl 1 rfl) ?_
            refine lv_icmp_ge (tgt := 91) hx hb dX12_lateness_83 (by decide +kernel) (fun c_55 => ?_) (fun c_55 => ?_)
            ·
              have i_55 : 0 ≥ k14_4.toInt := g5_ge (a := 0) (b := k14_4.toInt) (by decide +kernel) rfl c_55
              refine lv_iload hx hb dX12_lateness_91 (lv_at hl 1 rfl) ?_
              refine lv_istore (lv' := [(4, .int k14_4), (7, .int 0), (6, .int k14_6), (5, .int z3), (0, .ref b_o), (1, .int p_1), (2, .int p_2), (3, .int p_3)]) hx hb dX12_lateness_93 hl (by decide +kernel) rfl ?_
              clear hl
              intro ls hl
              refine lv_iinc (v := (k14_6 + 1)) (lv' := [(6, .int (k14_6 + 1)), (4, .int k14_4), (7, .int 0), (5, .int z3), (0, .ref b_o), (1, .int p_1), (2, .int p_2), (3, .int p_3)]) hx hb dX12_lateness_95 hl (k := 2) rfl rfl (by decide +kernel) rfl ?_
              clear hl
              intro ls hl
              have t_56 : (k14_6 + 1).toInt = k14_6.toInt + 1 := g5_iadd (a := k14_6.toInt) (b := 1) rfl (by decide +kernel) (by omega) (by omega)
              refine lv_goto (tgt := 14) hx hb dX12_lateness_98 (by decide +kernel) ?_
              exact ih_14_14 ((k14_6 + 1), k14_4, z25, z26, z27, z28, z29, z30, z31, z32, z33, z34, z35, z36, z37, z38) ls H locs (show Int.toNat (4 - (k14_6 + 1).toInt) < Int.toNat (4 - k14_6.toInt) from g_up (show k14_6.toInt < (k14_6 + 1).toInt by omega) (show k14_6.toInt < 4 by omega)) ⟨lv_sub hl [1, 0, 3, 4, 5, 6, 7] rfl, hP.sub [2, 3, 4, 0, 1] rfl, hD.sub [2, 3, 4, 0, 1] (by decide +kernel) rfl, hS, ⟨by omega, by omega⟩, i_17, i_18, i_19, i_20, i_21, i_22, i_23, i_24⟩
            ·
              have i_55 : 0 < k14_4.toInt := g5_geN (a := 0) (b := k14_4.toInt) (by decide +kernel) rfl c_55
              refine lv_iload hx hb dX12_lateness_86 (lv_at hl 0 rfl) ?_
              refine lv_goto (tgt := 93) hx hb dX12_lateness_88 (by decide +kernel) ?_
              refine lv_istore (lv' := [(4, .int 0), (7, .int 0), (6, .int k14_6), (5, .int z3), (0, .ref b_o), (1, .int p_1), (2, .int p_2), (3, .int p_3)]) hx hb dX12_lateness_93 hl (by decide +kernel) rfl ?_
              clear hl
              intro ls hl
              refine lv_iinc (v := (k14_6 + 1)) (lv' := [(6, .int (k14_6 + 1)), (4, .int 0), (7, .int 0), (5, .int z3), (0, .ref b_o), (1, .int p_1), (2, .int p_2), (3, .int p_3)]) hx hb dX12_lateness_95 hl (k := 2) rfl rfl (by decide +kernel) rfl ?_
              clear hl
              intro ls hl
              have t_57 : (k14_6 + 1).toInt = k14_6.toInt + 1 := g5_iadd (a := k14_6.toInt) (b := 1) rfl (by decide +kernel) (by omega) (by omega)
              refine lv_goto (tgt := 14) hx hb dX12_lateness_98 (by decide +kernel) ?_
              exact ih_14_14 ((k14_6 + 1), 0, z25, z26, z27, z28, z29, z30, z31, z32, z33, z34, z35, z36, z37, z38) ls H locs (show Int.toNat (4 - (k14_6 + 1).toInt) < Int.toNat (4 - k14_6.toInt) from g_up (show k14_6.toInt < (k14_6 + 1).toInt by omega) (show k14_6.toInt < 4 by omega)) ⟨lv_sub hl [1, 0, 3, 4, 5, 6, 7] rfl, hP.sub [2, 3, 4, 0, 1] rfl, hD.sub [2, 3, 4, 0, 1] (by decide +kernel) rfl, hS, ⟨by omega, by omega⟩, i_17, i_18, i_19, i_20, i_21, i_22, i_23, i_24⟩
theorem dgX12_late_0 : ∀ r ∈ ([(0, (.aload_n 0, 1)), (1, (.iconst 0, 1)), (2, (.putfield 107, 3)), (5, (.aload_n 0, 1)), (6, (.iload_n 1, 1)), (7, (.invokevirtual 180, 3)), (10, (.ifCond .eq 28, 3)), (13, (.aload_n 0, 1)), (14, (.iload_n 2, 1)), (15, (.invokevirtual 180, 3)), (18, (.ifCond .eq 20, 3)), (21, (.iload_n 3, 1)), (22, (.invokestatic 175, 3)), (25, (.ifCond .eq 13, 3)), (28, (.aload_n 0, 1)), (29, (.iload_n 1, 1)), (30, (.iload_n 2, 1)), (31, (.iload_n 3, 1)), (32, (.invokevirtual 407, 3)), (35, (.goto 4, 3)), (38, (.iconst (-1), 1)), (39, (.ireturn, 1))] : List (Nat × (Instr × Nat))), decode cX12_late r.1 = .ok r.2 := by decide +kernel
theorem dX12_late_0 : decode cX12_late 0 = .ok (.aload_n 0, 1) := dgX12_late_0 (0, (.aload_n 0, 1)) (List.mem_of_getElem? (i := 0) rfl)
theorem dX12_late_1 : decode cX12_late 1 = .ok (.iconst 0, 1) := dgX12_late_0 (1, (.iconst 0, 1)) (List.mem_of_getElem? (i := 1) rfl)
theorem dX12_late_2 : decode cX12_late 2 = .ok (.putfield 107, 3) := dgX12_late_0 (2, (.putfield 107, 3)) (List.mem_of_getElem? (i := 2) rfl)
theorem dX12_late_5 : decode cX12_late 5 = .ok (.aload_n 0, 1) := dgX12_late_0 (5, (.aload_n 0, 1)) (List.mem_of_getElem? (i := 3) rfl)
theorem dX12_late_6 : decode cX12_late 6 = .ok (.iload_n 1, 1) := dgX12_late_0 (6, (.iload_n 1, 1)) (List.mem_of_getElem? (i := 4) rfl)
theorem dX12_late_7 : decode cX12_late 7 = .ok (.invokevirtual 180, 3) := dgX12_late_0 (7, (.invokevirtual 180, 3)) (List.mem_of_getElem? (i := 5) rfl)
theorem dX12_late_10 : decode cX12_late 10 = .ok (.ifCond .eq 28, 3) := dgX12_late_0 (10, (.ifCond .eq 28, 3)) (List.mem_of_getElem? (i := 6) rfl)
theorem dX12_late_13 : decode cX12_late 13 = .ok (.aload_n 0, 1) := dgX12_late_0 (13, (.aload_n 0, 1)) (List.mem_of_getElem? (i := 7) rfl)
theorem dX12_late_14 : decode cX12_late 14 = .ok (.iload_n 2, 1) := dgX12_late_0 (14, (.iload_n 2, 1)) (List.mem_of_getElem? (i := 8) rfl)
theorem dX12_late_15 : decode cX12_late 15 = .ok (.invokevirtual 180, 3) := dgX12_late_0 (15, (.invokevirtual 180, 3)) (List.mem_of_getElem? (i := 9) rfl)
theorem dX12_late_18 : decode cX12_late 18 = .ok (.ifCond .eq 20, 3) := dgX12_late_0 (18, (.ifCond .eq 20, 3)) (List.mem_of_getElem? (i := 10) rfl)
theorem dX12_late_21 : decode cX12_late 21 = .ok (.iload_n 3, 1) := dgX12_late_0 (21, (.iload_n 3, 1)) (List.mem_of_getElem? (i := 11) rfl)
theorem dX12_late_22 : decode cX12_late 22 = .ok (.invokestatic 175, 3) := dgX12_late_0 (22, (.invokestatic 175, 3)) (List.mem_of_getElem? (i := 12) rfl)
theorem dX12_late_25 : decode cX12_late 25 = .ok (.ifCond .eq 13, 3) := dgX12_late_0 (25, (.ifCond .eq 13, 3)) (List.mem_of_getElem? (i := 13) rfl)
theorem dX12_late_28 : decode cX12_late 28 = .ok (.aload_n 0, 1) := dgX12_late_0 (28, (.aload_n 0, 1)) (List.mem_of_getElem? (i := 14) rfl)
theorem dX12_late_29 : decode cX12_late 29 = .ok (.iload_n 1, 1) := dgX12_late_0 (29, (.iload_n 1, 1)) (List.mem_of_getElem? (i := 15) rfl)
theorem dX12_late_30 : decode cX12_late 30 = .ok (.iload_n 2, 1) := dgX12_late_0 (30, (.iload_n 2, 1)) (List.mem_of_getElem? (i := 16) rfl)
theorem dX12_late_31 : decode cX12_late 31 = .ok (.iload_n 3, 1) := dgX12_late_0 (31, (.iload_n 3, 1)) (List.mem_of_getElem? (i := 17) rfl)
theorem dX12_late_32 : decode cX12_late 32 = .ok (.invokevirtual 407, 3) := dgX12_late_0 (32, (.invokevirtual 407, 3)) (List.mem_of_getElem? (i := 18) rfl)
theorem dX12_late_35 : decode cX12_late 35 = .ok (.goto 4, 3) := dgX12_late_0 (35, (.goto 4, 3)) (List.mem_of_getElem? (i := 19) rfl)
theorem dX12_late_38 : decode cX12_late 38 = .ok (.iconst (-1), 1) := dgX12_late_0 (38, (.iconst (-1), 1)) (List.mem_of_getElem? (i := 20) rfl)
theorem dX12_late_39 : decode cX12_late 39 = .ok (.ireturn, 1) := dgX12_late_0 (39, (.ireturn, 1)) (List.mem_of_getElem? (i := 21) rfl)
theorem ml_X12_407 : Cond.methodLink RX12 407 yX12_lateness ∈ tblG := tg 1667 (by decide +kernel) (by decide +kernel)
theorem im_X12_lateness : Cond.instanceMethod yX12_lateness ∈ tblG := tg 1669 (by decide +kernel) (by decide +kernel)
theorem se_X12_lateness : Cond.selects RX12 yX12_lateness yX12_lateness ∈ tblG := tg 71 (by decide +kernel) (by decide +kernel)
theorem cd_X12_lateness : Cond.code yX12_lateness cX12_lateness 8 (some .int) ∈ tblG := tg 1670 (by decide +kernel) (by decide +kernel)
theorem gW_X12_lateness : GoodIn tblG (wsG yX12_lateness cX12_lateness 8 (some .int)) := tgi cd_X12_lateness
theorem gV_X12_407 : GoodIn tblG (wsV RX12 407 RX12 yX12_lateness (wsG yX12_lateness cX12_lateness 8 (some .int))) := tgV ml_X12_407 im_X12_lateness se_X12_lateness ini_X12 gW_X12_lateness
theorem hv_X12_lateness : yX12_lateness.cls = RX12 ∧ yX12_lateness.cls ≠ "java/lang/invoke/MethodHandle" ∧ yX12_lateness.cls ≠ "java/lang/invoke/VarHandle" ∧ (parseMethodDescriptor yX12_lateness.desc).map (fun d => d.parameters.length) = some 3 := by decide +kernel
set_option maxHeartbeats 4000000 in
set_option maxRecDepth 100000 in
theorem n_late (l : Launch) (G : g5_G) (b_o b_ro b_se b_re b_pt b_rf b_im b_ke b_tp b_nl b_op b_ar b_pi b_pa b_ws b_hw b_ip b_ah b_be b_me b_tr b_ld b_wn : Nat) (sz : Nat) (u_th : Int32) (u_sa : Int32) (u_fd : Int32) (u_td : Int32) (u_fr : Int32) (u_to : Int32) (u_so : Int32) (u_fa : Int32) (u_bd : Int32) (u_nc : Int32) (u_co : Int32) (u_le : Int32) (u_pd : Int32) (u_od : Int32) (u_la : Int32) (u_bk : Int32) (u_ce : Int32) (u_ho : Int32) (u_wy : Int32) (u_bt : Int32) (u_ps : Int32) (u_tg : Int32) (u_sn : Int32) (u_ic : Int32) (u_wd : Int32) (u_id : Int32) (p_1 : Int32) (p_2 : Int32) (p_3 : Int32) (u_wo : Int64) (u_va : Int64) (u_su : Int64) (u_st : Int64) (v_ro : Nat → Int32) (v_se : Nat → Int64) (v_re : Nat → Int64) (v_pt : Nat → Int32) (h_u_td : 0 ≤ u_td.toInt ∧ u_td.toInt ≤ 400) (h_u_fr : 0 ≤ u_fr.toInt ∧ u_fr.toInt ≤ 400) (h_u_to : 0 ≤ u_to.toInt ∧ u_to.toInt ≤ 400) (h_u_bd : 0 ≤ u_bd.toInt ∧ u_bd.toInt ≤ 1) (h_u_nc : 0 ≤ u_nc.toInt ∧ u_nc.toInt ≤ 12) (h_u_co : 0 ≤ u_co.toInt ∧ u_co.toInt ≤ 400) (h_u_pd : 0 ≤ u_pd.toInt ∧ u_pd.toInt ≤ 400) (h_u_la : 0 ≤ u_la.toInt ∧ u_la.toInt ≤ 4840) (h_u_bk : 0 ≤ u_bk.toInt ∧ u_bk.toInt ≤ 1) (h_u_ce : 0 ≤ u_ce.toInt ∧ u_ce.toInt ≤ 63) (h_u_ho : 0 ≤ u_ho.toInt ∧ u_ho.toInt ≤ 23) (h_u_wy : 0 ≤ u_wy.toInt ∧ u_wy.toInt ≤ 3) (h_u_bt : 0 ≤ u_bt.toInt ∧ u_bt.toInt ≤ 1000000) (h_u_ps : 0 ≤ u_ps.toInt ∧ u_ps.toInt ≤ 200) (h_u_ic : 0 ≤ u_ic.toInt ∧ u_ic.toInt ≤ 1) (h_u_id : 0 ≤ u_id.toInt ∧ u_id.toInt ≤ 1) (r_ro : MI v_ro) (r_pt : PTI v_pt) : Met l yX12_late (wsG yX12_late cX12_late 4 (some .int)) ({ frames := 8, cells := 0, slots := 0, locals := 203 }) (va_Pc [.ref b_o, .int p_1, .int p_2, .int p_3] (g5_P G [(b_o, (oc12 u_th u_sa b_rf b_ro b_im b_ke u_fd b_tp u_td u_fr u_to u_so u_wo u_fa u_bd u_nc b_nl u_co b_op b_ar u_le b_pi b_pa u_pd u_od b_ws b_hw u_la b_se b_re u_bk u_va u_su u_ce u_ho u_wy u_bt u_ps b_pt u_tg u_sn b_ip u_ic b_ah b_be b_me u_wd b_tr b_ld u_st b_wn u_id)), (b_ro, (arI G 5740 v_ro)), (b_se, (arJ G 13 v_se)), (b_re, (arJ G 400 v_re)), (b_pt, (arI G 200 v_pt))] sz)) (va_Qi (fun (r : Int32) (u : va_W) => (∃ (o_r : Int32) (o_th : Int32) (o_la : Int32) (o_bk : Int32) (o_va : Int64) (o_su : Int64) (o_ce : Int32) (o_ho : Int32) (o_wy : Int32) (o_bt : Int32) (o_ps : Int32) (o_tg : Int32) (o_sn : Int32) (o_se : Nat → Int64) (o_re : Nat → Int64) (o_pt : Nat → Int32), (0 ≤ o_la.toInt ∧ o_la.toInt ≤ 4840) ∧ (0 ≤ o_bk.toInt ∧ o_bk.toInt ≤ 1) ∧ (0 ≤ o_ce.toInt ∧ o_ce.toInt ≤ 63) ∧ (0 ≤ o_ho.toInt ∧ o_ho.toInt ≤ 23) ∧ (0 ≤ o_wy.toInt ∧ o_wy.toInt ≤ 3) ∧ (0 ≤ o_bt.toInt ∧ o_bt.toInt ≤ 1000000) ∧ (0 ≤ o_ps.toInt ∧ o_ps.toInt ≤ 200) ∧ (PTI o_pt) ∧ (r = o_r) ∧ (u = [(b_o, (oc12 o_th u_sa b_rf b_ro b_im b_ke u_fd b_tp u_td u_fr u_to u_so u_wo u_fa u_bd u_nc b_nl u_co b_op b_ar u_le b_pi b_pa u_pd u_od b_ws b_hw o_la b_se b_re o_bk o_va o_su o_ce o_ho o_wy o_bt o_ps b_pt o_tg o_sn b_ip u_ic b_ah b_be b_me u_wd b_tr b_ld u_st b_wn u_id)), (b_ro, (arI G 5740 v_ro)), (b_se, (arJ G 13 o_se)), (b_re, (arJ G 400 o_re)), (b_pt, (arI G 200 o_pt))]))) (g5_B G (va_A [(b_o, (oc12 u_th u_sa b_rf b_ro b_im b_ke u_fd b_tp u_td u_fr u_to u_so u_wo u_fa u_bd u_nc b_nl u_co b_op b_ar u_le b_pi b_pa u_pd u_od b_ws b_hw u_la b_se b_re u_bk u_va u_su u_ce u_ho u_wy u_bt u_ps b_pt u_tg u_sn b_ip u_ic b_ah b_be b_me u_wd b_tr b_ld u_st b_wn u_id)), (b_ro, (arI G 5740 v_ro)), (b_se, (arJ G 13 v_se)), (b_re, (arJ G 400 v_re)), (b_pt, (arI G 200 v_pt))] sz)) (va_A [(b_o, (oc12 u_th u_sa b_rf b_ro b_im b_ke u_fd b_tp u_td u_fr u_to u_so u_wo u_fa u_bd u_nc b_nl u_co b_op b_ar u_le b_pi b_pa u_pd u_od b_ws b_hw u_la b_se b_re u_bk u_va u_su u_ce u_ho u_wy u_bt u_ps b_pt u_tg u_sn b_ip u_ic b_ah b_be b_me u_wd b_tr b_ld u_st b_wn u_id)), (b_ro, (arI G 5740 v_ro)), (b_se, (arJ G 13 v_se)), (b_re, (arJ G 400 v_re)), (b_pt, (arI G 200 v_pt))] sz)) 0 0 (va_A [(b_o, (oc12 u_th u_sa b_rf b_ro b_im b_ke u_fd b_tp u_td u_fr u_to u_so u_wo u_fa u_bd u_nc b_nl u_co b_op b_ar u_le b_pi b_pa u_pd u_od b_ws b_hw u_la b_se b_re u_bk u_va u_su u_ce u_ho u_wy u_bt u_ps b_pt u_tg u_sn b_ip u_ic b_ah b_be b_me u_wd b_tr b_ld u_st b_wn u_id)), (b_ro, (arI G 5740 v_ro)), (b_se, (arJ G 13 v_se)), (b_re, (arJ G 400 v_re)), (b_pt, (arI G 200 v_pt))] sz) := by
  refine Met.ofW (cc := cX12_late) (maxL := 4) (ret := (some .int)) (by decide +kernel) rfl ?_
  intro p e s m args below meth c s₁ B hml hv
  obtain ⟨rfl, hsz, hP, hK, hD0, hN, hT⟩ := hv
  have hx := B.exec
  have hb := B.bytes
  have hr := B.returns
  have hts : ∀ w ∈ tblG, w.before _ s = true := fun w h => atoms_spec (ws := (wsG yX12_late cX12_late 4 (some .int))) B.pre w (List.mem_cons_of_mem _ h)
  have hown : s.vm.findClass RX12 = some m.cls := findClass_of_methodNamed B.named
  have hlocks := B.notSynchronized
  subst hsz
  have hD := hD0.self (sz := s.heap.size)
  generalize hAe : va_A [(b_o, (oc12 u_th u_sa b_rf b_ro b_im b_ke u_fd b_tp u_td u_fr u_to u_so u_wo u_fa u_bd u_nc b_nl u_co b_op b_ar u_le b_pi b_pa u_pd u_od b_ws b_hw u_la b_se b_re u_bk u_va u_su u_ce u_ho u_wy u_bt u_ps b_pt u_tg u_sn b_ip u_ic b_ah b_be b_me u_wd b_tr b_ld u_st b_wn u_id)), (b_ro, (arI G 5740 v_ro)), (b_se, (arJ G 13 v_se)), (b_re, (arJ G 400 v_re)), (b_pt, (arI G 200 v_pt))] s.heap.size = A at hD hT ⊢
  have hA : ∀ q : Nat, s.heap.size ≤ q → A q := fun q h => by rw [← hAe]; exact Or.inr h
  have hS : va_S A s.heap s.heap [] := va_S.rf
  replace hP : va_P G.1 vwCl [(b_o, (oc12 u_th u_sa b_rf b_ro b_im b_ke u_fd b_tp u_td u_fr u_to u_so u_wo u_fa u_bd u_nc b_nl u_co b_op b_ar u_le b_pi b_pa u_pd u_od b_ws b_hw u_la b_se b_re u_bk u_va u_su u_ce u_ho u_wy u_bt u_ps b_pt u_tg u_sn b_ip u_ic b_ah b_be b_me u_wd b_tr b_ld u_st b_wn u_id)), (b_ro, (arI G 5740 v_ro)), (b_se, (arJ G 13 v_se)), (b_re, (arJ G 400 v_re)), (b_pt, (arI G 200 v_pt))] s.heap := hP
  have hl := lv_entry ([.ref b_o, .int p_1, .int p_2, .int p_3]) (n := 4) (Nat.le_of_ble_eq_true rfl)
  rw [lg_entry_eq]
  generalize (lg_sl ([.ref b_o, .int p_1, .int p_2, .int p_3]) ++ List.replicate (4 - (lg_sl ([.ref b_o, .int p_1, .int p_2, .int p_3])).length) Slot.unset).toArray = ls at hl ⊢
  replace hl : lv_has ls 4 [(0, .ref b_o), (1, .int p_1), (2, .int p_2), (3, .int p_3)] := hl
  refine lv_aload_n hx hb dX12_late_0 rfl (lv_at hl 0 rfl) ?_
  refine lv_iconst (v := 0) hx hb dX12_late_1 (by decide +kernel) ?_
  refine va_put (D := G.1) (ci := 12) (v := .int 0) (ty := .int) (C := RX12) (T := TX12) (N := 52) hx hb hts inG_X12 tyX12 tyX12_ok nmX12 hown hK hP hD hS 0 rfl rfl 0 (by decide +kernel) (hts _ fl_X12_107) (fun _ h9 => h9) rfl (by decide +kernel) rfl rfl (Nat.le_of_ble_eq_true rfl) dX12_late_2 ?_
  clear hP hD hS
  intro H locs hP hD hS
  refine g5_rs [(b_o, (oc12 0 u_sa b_rf b_ro b_im b_ke u_fd b_tp u_td u_fr u_to u_so u_wo u_fa u_bd u_nc b_nl u_co b_op b_ar u_le b_pi b_pa u_pd u_od b_ws b_hw u_la b_se b_re u_bk u_va u_su u_ce u_ho u_wy u_bt u_ps b_pt u_tg u_sn b_ip u_ic b_ah b_be b_me u_wd b_tr b_ld u_st b_wn u_id)), (b_ro, (arI G 5740 v_ro)), (b_se, (arJ G 13 v_se)), (b_re, (arJ G 400 v_re)), (b_pt, (arI G 200 v_pt))] hP hD ?_
  clear hP hD
  intro hP hD
  refine lv_aload_n hx hb dX12_late_5 rfl (lv_at hl 0 rfl) ?_
  refine lv_iload_n hx hb dX12_late_6 rfl (lv_at hl 1 rfl) ?_
  obtain ⟨hPc, hDc, hFc⟩ := g5_sub3 (wc := [(b_o, (oc12 0 u_sa b_rf b_ro b_im b_ke u_fd b_tp u_td u_fr u_to u_so u_wo u_fa u_bd u_nc b_nl u_co b_op b_ar u_le b_pi b_pa u_pd u_od b_ws b_hw u_la b_se b_re u_bk u_va u_su u_ce u_ho u_wy u_bt u_ps b_pt u_tg u_sn b_ip u_ic b_ah b_be b_me u_wd b_tr b_ld u_st b_wn u_id)), (b_ro, (arI G 5740 v_ro))]) hP hD hS hA [0, 1] (by decide +kernel) rfl
  refine va_calli (va_runV (As := [.int p_1]) (rest := []) ⟨hx, hb, hml, hown, hts⟩ (n_isBody l G b_o b_ro b_rf b_im b_ke b_tp b_nl b_op b_ar b_pi b_pa b_ws b_hw b_se b_re b_pt b_ip b_ah b_be b_me b_tr b_ld b_wn H.size 0 u_sa u_fd u_td u_fr u_to u_so u_fa u_bd u_nc u_co u_le u_pd u_od u_la u_bk u_ce u_ho u_wy u_bt u_ps u_tg u_sn u_ic u_wd u_id p_1 u_wo u_va u_su u_st v_ro h_u_td h_u_fr h_u_to h_u_bd h_u_nc h_u_co h_u_pd h_u_la h_u_bk h_u_ce h_u_ho h_u_wy h_u_bt h_u_ps h_u_ic h_u_id (r_ro)) (cwV 1 hts gV_X12_180 rfl rfl rfl hv_X12_isBody ⟨Nat.le_of_ble_eq_true rfl, Nat.le_of_ble_eq_true rfl⟩) (g5_preV hPc hK hDc hN hT hS hFc (ci := 12) (q0 := 0) rfl rfl) rfl rfl hl.1 rfl (lv_room (Nat.le_of_ble_eq_true rfl)) dX12_late_7 ⟨Nat.le_of_ble_eq_true rfl, Nat.le_of_ble_eq_true rfl⟩) hS (fun q _ h => hFc q h) hFc (fun r u t H locs ht hvm hw hB hz1 hk1 hS => ?_)
  obtain ⟨hP1, hD1⟩ := hB
  have hP1 := g5_ht ht hP1
  rcases hw with ⟨(i_1 : 0 ≤ p_1.toInt ∧ p_1.toInt ≤ 4), rfl, rfl⟩ | ⟨rfl, rfl⟩
  ·
    have hJ9 := va_join (wr := [(b_se, (arJ G 13 v_se)), (b_re, (arJ G 400 v_re)), (b_pt, (arI G 200 v_pt))]) hP hD [0, 1] [2, 3, 4] rfl rfl (by decide +kernel) (by decide +kernel) hk1 hFc hP1 hD1
    clear hP hD hPc hDc hFc ht hvm hz1 hk1 hP1 hD1
    obtain ⟨hP, hD⟩ := hJ9
    refine g5_rs [(b_se, (arJ G 13 v_se)), (b_re, (arJ G 400 v_re)), (b_pt, (arI G 200 v_pt)), (b_o, (oc12 0 u_sa b_rf b_ro b_im b_ke u_fd b_tp u_td u_fr u_to u_so u_wo u_fa u_bd u_nc b_nl u_co b_op b_ar u_le b_pi b_pa u_pd u_od b_ws b_hw u_la b_se b_re u_bk u_va u_su u_ce u_ho u_wy u_bt u_ps b_pt u_tg u_sn b_ip u_ic b_ah b_be b_me u_wd b_tr b_ld u_st b_wn u_id)), (b_ro, (arI G 5740 v_ro))] hP hD ?_
    clear hP hD
    intro hP hD
    refine lv_if_eq (tgt := 38) hx hb dX12_late_10 (by decide +kernel) (fun c_2 => ?_) (fun c_2 => ?_)
    ·
      exact absurd c_2 (by decide +kernel)
    ·
      refine lv_aload_n hx hb dX12_late_13 rfl (lv_at hl 0 rfl) ?_
      refine lv_iload_n hx hb dX12_late_14 rfl (lv_at hl 2 rfl) ?_
      obtain ⟨hPc, hDc, hFc⟩ := g5_sub3 (wc := [(b_o, (oc12 0 u_sa b_rf b_ro b_im b_ke u_fd b_tp u_td u_fr u_to u_so u_wo u_fa u_bd u_nc b_nl u_co b_op b_ar u_le b_pi b_pa u_pd u_od b_ws b_hw u_la b_se b_re u_bk u_va u_su u_ce u_ho u_wy u_bt u_ps b_pt u_tg u_sn b_ip u_ic b_ah b_be b_me u_wd b_tr b_ld u_st b_wn u_id)), (b_ro, (arI G 5740 v_ro))]) hP hD hS hA [3, 4] (by decide +kernel) rfl
      refine va_calli (va_runV (As := [.int p_2]) (rest := []) ⟨hx, hb, hml, hown, hts⟩ (n_isBody l G b_o b_ro b_rf b_im b_ke b_tp b_nl b_op b_ar b_pi b_pa b_ws b_hw b_se b_re b_pt b_ip b_ah b_be b_me b_tr b_ld b_wn H.size 0 u_sa u_fd u_td u_fr u_to u_so u_fa u_bd u_nc u_co u_le u_pd u_od u_la u_bk u_ce u_ho u_wy u_bt u_ps u_tg u_sn u_ic u_wd u_id p_2 u_wo u_va u_su u_st v_ro h_u_td h_u_fr h_u_to h_u_bd h_u_nc h_u_co h_u_pd h_u_la h_u_bk h_u_ce h_u_ho h_u_wy h_u_bt h_u_ps h_u_ic h_u_id (r_ro)) (cwV 1 hts gV_X12_180 rfl rfl rfl hv_X12_isBody ⟨Nat.le_of_ble_eq_true rfl, Nat.le_of_ble_eq_true rfl⟩) (g5_preV hPc hK hDc hN hT hS hFc (ci := 12) (q0 := 0) rfl rfl) rfl rfl hl.1 rfl (lv_room (Nat.le_of_ble_eq_true rfl)) dX12_late_15 ⟨Nat.le_of_ble_eq_true rfl, Nat.le_of_ble_eq_true rfl⟩) hS (fun q _ h => hFc q h) hFc (fun r u t H locs ht hvm hw hB hz1 hk1 hS => ?_)
      obtain ⟨hP1, hD1⟩ := hB
      have hP1 := g5_ht ht hP1
      rcases hw with ⟨(i_3 : 0 ≤ p_2.toInt ∧ p_2.toInt ≤ 4), rfl, rfl⟩ | ⟨rfl, rfl⟩
      ·
        have hJ9 := va_join (wr := [(b_se, (arJ G 13 v_se)), (b_re, (arJ G 400 v_re)), (b_pt, (arI G 200 v_pt))]) hP hD [3, 4] [0, 1, 2] rfl rfl (by decide +kernel) (by decide +kernel) hk1 hFc hP1 hD1
        clear hP hD hPc hDc hFc ht hvm hz1 hk1 hP1 hD1
        obtain ⟨hP, hD⟩ := hJ9
        refine g5_rs [(b_se, (arJ G 13 v_se)), (b_re, (arJ G 400 v_re)), (b_pt, (arI G 200 v_pt)), (b_o, (oc12 0 u_sa b_rf b_ro b_im b_ke u_fd b_tp u_td u_fr u_to u_so u_wo u_fa u_bd u_nc b_nl u_co b_op b_ar u_le b_pi b_pa u_pd u_od b_ws b_hw u_la b_se b_re u_bk u_va u_su u_ce u_ho u_wy u_bt u_ps b_pt u_tg u_sn b_ip u_ic b_ah b_be b_me u_wd b_tr b_ld u_st b_wn u_id)), (b_ro, (arI G 5740 v_ro))] hP hD ?_
        clear hP hD
        intro hP hD
        refine lv_if_eq (tgt := 38) hx hb dX12_late_18 (by decide +kernel) (fun c_4 => ?_) (fun c_4 => ?_)
        ·
          exact absurd c_4 (by decide +kernel)
        ·
          refine lv_iload_n hx hb dX12_late_21 rfl (lv_at hl 3 rfl) ?_
          obtain ⟨hPc, hDc, hFc⟩ := g5_sub3 (wc := []) hP hD hS hA [] (by decide +kernel) rfl
          refine va_calli (va_runS (As := [.int p_3]) (rest := []) ⟨hx, hb, hml, hown, hts⟩ (n_isHour l G H.size p_3) (va_cwS 1 hts gS_X12_175 rfl rfl rfl hs_X12_isHour ⟨Nat.le_of_ble_eq_true rfl, Nat.le_of_ble_eq_true rfl⟩) (g5_preS hPc hK hDc hN hT hS hFc) rfl rfl hl.1 rfl (lv_room (Nat.le_of_ble_eq_true rfl)) dX12_late_22 ⟨Nat.le_of_ble_eq_true rfl, Nat.le_of_ble_eq_true rfl⟩) hS (fun q _ h => hFc q h) hFc (fun r u t H locs ht hvm hw hB hz1 hk1 hS => ?_)
          obtain ⟨hP1, hD1⟩ := hB
          have hP1 := g5_ht ht hP1
          rcases hw with ⟨(i_5 : 0 ≤ p_3.toInt ∧ p_3.toInt ≤ 23), rfl, rfl⟩ | ⟨rfl, rfl⟩
          ·
            have hJ9 := g5_same hP hk1
            clear hP hPc hDc hFc ht hvm hz1 hk1 hP1 hD1
            have hP := hJ9
            clear hJ9
            refine lv_if_eq (tgt := 38) hx hb dX12_late_25 (by decide +kernel) (fun c_6 => ?_) (fun c_6 => ?_)
            ·
              exact absurd c_6 (by decide +kernel)
            ·
              refine lv_aload_n hx hb dX12_late_28 rfl (lv_at hl 0 rfl) ?_
              refine lv_iload_n hx hb dX12_late_29 rfl (lv_at hl 1 rfl) ?_
              refine lv_iload_n hx hb dX12_late_30 rfl (lv_at hl 2 rfl) ?_
              refine lv_iload_n hx hb dX12_late_31 rfl (lv_at hl 3 rfl) ?_
              obtain ⟨hPc, hDc, hFc⟩ := g5_sub3 (wc := [(b_o, (oc12 0 u_sa b_rf b_ro b_im b_ke u_fd b_tp u_td u_fr u_to u_so u_wo u_fa u_bd u_nc b_nl u_co b_op b_ar u_le b_pi b_pa u_pd u_od b_ws b_hw u_la b_se b_re u_bk u_va u_su u_ce u_ho u_wy u_bt u_ps b_pt u_tg u_sn b_ip u_ic b_ah b_be b_me u_wd b_tr b_ld u_st b_wn u_id)), (b_ro, (arI G 5740 v_ro)), (b_se, (arJ G 13 v_se)), (b_re, (arJ G 400 v_re)), (b_pt, (arI G 200 v_pt))]) hP hD hS hA [3, 4, 0, 1, 2] (by decide +kernel) rfl
              refine va_calli (va_runV (As := [.int p_1, .int p_2, .int p_3]) (rest := []) ⟨hx, hb, hml, hown, hts⟩ (n_lateness l G b_o b_ro b_se b_re b_pt b_rf b_im b_ke b_tp b_nl b_op b_ar b_pi b_pa b_ws b_hw b_ip b_ah b_be b_me b_tr b_ld b_wn H.size 0 u_sa u_fd u_td u_fr u_to u_so u_fa u_bd u_nc u_co u_le u_pd u_od u_la u_bk u_ce u_ho u_wy u_bt u_ps u_tg u_sn u_ic u_wd u_id p_1 p_2 p_3 u_wo u_va u_su u_st v_ro v_se v_re v_pt h_u_td h_u_fr h_u_to h_u_bd h_u_nc h_u_co h_u_pd h_u_la h_u_bk h_u_ce h_u_ho h_u_wy h_u_bt h_u_ps h_u_ic h_u_id i_1 i_5 (r_ro) (r_pt)) (cwV 3 hts gV_X12_407 rfl rfl rfl hv_X12_lateness ⟨Nat.le_of_ble_eq_true rfl, Nat.le_of_ble_eq_true rfl⟩) (g5_preV hPc hK hDc hN hT hS hFc (ci := 12) (q0 := 0) rfl rfl) rfl rfl hl.1 rfl (lv_room (Nat.le_of_ble_eq_true rfl)) dX12_late_32 ⟨Nat.le_of_ble_eq_true rfl, Nat.le_of_ble_eq_true rfl⟩) hS (fun q _ h => hFc q h) hFc (fun r u t H locs ht hvm hw hB hz1 hk1 hS => ?_)
              obtain ⟨hP1, hD1⟩ := hB
              have hP1 := g5_ht ht hP1
              obtain ⟨z15, z16, z17, z18, z19, z20, z21, z22, z23, z24, z25, z26, z27, z28, z29, (i_7 : 0 ≤ z16.toInt ∧ z16.toInt ≤ 4840), (i_8 : 0 ≤ z17.toInt ∧ z17.toInt ≤ 1), (i_9 : 0 ≤ z20.toInt ∧ z20.toInt ≤ 63), (i_10 : 0 ≤ z21.toInt ∧ z21.toInt ≤ 23), (i_11 : 0 ≤ z22.toInt ∧ z22.toInt ≤ 3), (i_12 : 0 ≤ z23.toInt ∧ z23.toInt ≤ 1000000), (i_13 : 0 ≤ z24.toInt ∧ z24.toInt ≤ 200), (i_14 : PTI z29), y30, rfl⟩ := hw
              have hJ9 := va_join (wr := []) hP hD [3, 4, 0, 1, 2] [] rfl rfl (by decide +kernel) (by decide +kernel) hk1 hFc hP1 hD1
              clear hP hD hPc hDc hFc ht hvm hz1 hk1 hP1 hD1
              obtain ⟨hP, hD⟩ := hJ9
              refine g5_rs [(b_o, (oc12 0 u_sa b_rf b_ro b_im b_ke u_fd b_tp u_td u_fr u_to u_so u_wo u_fa u_bd u_nc b_nl u_co b_op b_ar u_le b_pi b_pa u_pd u_od b_ws b_hw z16 b_se b_re z17 z18 z19 z20 z21 z22 z23 z24 b_pt z25 z26 b_ip u_ic b_ah b_be b_me u_wd b_tr b_ld u_st b_wn u_id)), (b_ro, (arI G 5740 v_ro)), (b_se, (arJ G 13 z27)), (b_re, (arJ G 400 z28)), (b_pt, (arI G 200 z29))] hP hD ?_
              clear hP hD
              intro hP hD
              refine g5_ti (v := z15) y30 ?_
              refine lv_goto (tgt := 39) hx hb dX12_late_35 (by decide +kernel) ?_
              exact W.iret (v := z15) hx hb hr (fun t ht hW => ⟨⟨z15, [(b_o, (oc12 0 u_sa b_rf b_ro b_im b_ke u_fd b_tp u_td u_fr u_to u_so u_wo u_fa u_bd u_nc b_nl u_co b_op b_ar u_le b_pi b_pa u_pd u_od b_ws b_hw z16 b_se b_re z17 z18 z19 z20 z21 z22 z23 z24 b_pt z25 z26 b_ip u_ic b_ah b_be b_me u_wd b_tr b_ld u_st b_wn u_id)), (b_ro, (arI G 5740 v_ro)), (b_se, (arJ G 13 z27)), (b_re, (arJ G 400 z28)), (b_pt, (arI G 200 z29))], rfl, ⟨z15, 0, z16, z17, z18, z19, z20, z21, z22, z23, z24, z25, z26, z27, z28, z29, i_7, i_8, i_9, i_10, i_11, i_12, i_13, i_14, rfl, rfl⟩, by rw [ht]; exact hP.sub [0, 1, 2, 3, 4] rfl, hD.sub [0, 1, 2, 3, 4] (by decide +kernel) rfl⟩, hS.F ht⟩) hS.2.2 dX12_late_39
          ·
            have hJ9 := g5_same hP hk1
            clear hP hPc hDc hFc ht hvm hz1 hk1 hP1 hD1
            have hP := hJ9
            clear hJ9
            refine lv_if_eq (tgt := 38) hx hb dX12_late_25 (by decide +kernel) (fun c_31 => ?_) (fun c_31 => ?_)
            ·
              refine lv_iconst (v := (-1)) hx hb dX12_late_38 (by decide +kernel) ?_
              exact W.iret (v := (-1)) hx hb hr (fun t ht hW => ⟨⟨(-1), [(b_o, (oc12 0 u_sa b_rf b_ro b_im b_ke u_fd b_tp u_td u_fr u_to u_so u_wo u_fa u_bd u_nc b_nl u_co b_op b_ar u_le b_pi b_pa u_pd u_od b_ws b_hw u_la b_se b_re u_bk u_va u_su u_ce u_ho u_wy u_bt u_ps b_pt u_tg u_sn b_ip u_ic b_ah b_be b_me u_wd b_tr b_ld u_st b_wn u_id)), (b_ro, (arI G 5740 v_ro)), (b_se, (arJ G 13 v_se)), (b_re, (arJ G 400 v_re)), (b_pt, (arI G 200 v_pt))], rfl, ⟨(-1), 0, u_la, u_bk, u_va, u_su, u_ce, u_ho, u_wy, u_bt, u_ps, u_tg, u_sn, v_se, v_re, v_pt, h_u_la, h_u_bk, h_u_ce, h_u_ho, h_u_wy, h_u_bt, h_u_ps, r_pt, rfl, rfl⟩, by rw [ht]; exact hP.sub [3, 4, 0, 1, 2] rfl, hD.sub [3, 4, 0, 1, 2] (by decide +kernel) rfl⟩, hS.F ht⟩) hS.2.2 dX12_late_39
            ·
              exact absurd c_31 (by decide +kernel)
      ·
        have hJ9 := va_join (wr := [(b_se, (arJ G 13 v_se)), (b_re, (arJ G 400 v_re)), (b_pt, (arI G 200 v_pt))]) hP hD [3, 4] [0, 1, 2] rfl rfl (by decide +kernel) (by decide +kernel) hk1 hFc hP1 hD1
        clear hP hD hPc hDc hFc ht hvm hz1 hk1 hP1 hD1
        obtain ⟨hP, hD⟩ := hJ9
        refine g5_rs [(b_se, (arJ G 13 v_se)), (b_re, (arJ G 400 v_re)), (b_pt, (arI G 200 v_pt)), (b_o, (oc12 0 u_sa b_rf b_ro b_im b_ke u_fd b_tp u_td u_fr u_to u_so u_wo u_fa u_bd u_nc b_nl u_co b_op b_ar u_le b_pi b_pa u_pd u_od b_ws b_hw u_la b_se b_re u_bk u_va u_su u_ce u_ho u_wy u_bt u_ps b_pt u_tg u_sn b_ip u_ic b_ah b_be b_me u_wd b_tr b_ld u_st b_wn u_id)), (b_ro, (arI G 5740 v_ro))] hP hD ?_
        clear hP hD
        intro hP hD
        refine lv_if_eq (tgt := 38) hx hb dX12_late_18 (by decide +kernel) (fun c_32 => ?_) (fun c_32 => ?_)
        ·
          refine lv_iconst (v := (-1)) hx hb dX12_late_38 (by decide +kernel) ?_
          exact W.iret (v := (-1)) hx hb hr (fun t ht hW => ⟨⟨(-1), [(b_o, (oc12 0 u_sa b_rf b_ro b_im b_ke u_fd b_tp u_td u_fr u_to u_so u_wo u_fa u_bd u_nc b_nl u_co b_op b_ar u_le b_pi b_pa u_pd u_od b_ws b_hw u_la b_se b_re u_bk u_va u_su u_ce u_ho u_wy u_bt u_ps b_pt u_tg u_sn b_ip u_ic b_ah b_be b_me u_wd b_tr b_ld u_st b_wn u_id)), (b_ro, (arI G 5740 v_ro)), (b_se, (arJ G 13 v_se)), (b_re, (arJ G 400 v_re)), (b_pt, (arI G 200 v_pt))], rfl, ⟨(-1), 0, u_la, u_bk, u_va, u_su, u_ce, u_ho, u_wy, u_bt, u_ps, u_tg, u_sn, v_se, v_re, v_pt, h_u_la, h_u_bk, h_u_ce, h_u_ho, h_u_wy, h_u_bt, h_u_ps, r_pt, rfl, rfl⟩, by rw [ht]; exact hP.sub [3, 4, 0, 1, 2] rfl, hD.sub [3, 4, 0, 1, 2] (by decide +kernel) rfl⟩, hS.F ht⟩) hS.2.2 dX12_late_39
        ·
          exact absurd c_32 (by decide +kernel)
  ·
    have hJ9 := va_join (wr := [(b_se, (arJ G 13 v_se)), (b_re, (arJ G 400 v_re)), (b_pt, (arI G 200 v_pt))]) hP hD [0, 1] [2, 3, 4] rfl rfl (by decide +kernel) (by decide +kernel) hk1 hFc hP1 hD1
    clear hP hD hPc hDc hFc ht hvm hz1 hk1 hP1 hD1
    obtain ⟨hP, hD⟩ := hJ9
    refine g5_rs [(b_se, (arJ G 13 v_se)), (b_re, (arJ G 400 v_re)), (b_pt, (arI G 200 v_pt)), (b_o, (oc12 0 u_sa b_rf b_ro b_im b_ke u_fd b_tp u_td u_fr u_to u_so u_wo u_fa u_bd u_nc b_nl u_co b_op b_ar u_le b_pi b_pa u_pd u_od b_ws b_hw u_la b_se b_re u_bk u_va u_su u_ce u_ho u_wy u_bt u_ps b_pt u_tg u_sn b_ip u_ic b_ah b_be b_me u_wd b_tr b_ld u_st b_wn u_id)), (b_ro, (arI G 5740 v_ro))] hP hD ?_
    clear hP hD
    intro hP hD
    refine lv_if_eq (tgt := 38) hx hb dX12_late_10 (by decide +kernel) (fun c_33 => ?_) (fun c_33 => ?_)
    ·
      refine lv_iconst (v := (-1)) hx hb dX12_late_38 (by decide +kernel) ?_
      exact W.iret (v := (-1)) hx hb hr (fun t ht hW => ⟨⟨(-1), [(b_o, (oc12 0 u_sa b_rf b_ro b_im b_ke u_fd b_tp u_td u_fr u_to u_so u_wo u_fa u_bd u_nc b_nl u_co b_op b_ar u_le b_pi b_pa u_pd u_od b_ws b_hw u_la b_se b_re u_bk u_va u_su u_ce u_ho u_wy u_bt u_ps b_pt u_tg u_sn b_ip u_ic b_ah b_be b_me u_wd b_tr b_ld u_st b_wn u_id)), (b_ro, (arI G 5740 v_ro)), (b_se, (arJ G 13 v_se)), (b_re, (arJ G 400 v_re)), (b_pt, (arI G 200 v_pt))], rfl, ⟨(-1), 0, u_la, u_bk, u_va, u_su, u_ce, u_ho, u_wy, u_bt, u_ps, u_tg, u_sn, v_se, v_re, v_pt, h_u_la, h_u_bk, h_u_ce, h_u_ho, h_u_wy, h_u_bt, h_u_ps, r_pt, rfl, rfl⟩, by rw [ht]; exact hP.sub [3, 4, 0, 1, 2] rfl, hD.sub [3, 4, 0, 1, 2] (by decide +kernel) rfl⟩, hS.F ht⟩) hS.2.2 dX12_late_39
    ·
      exact absurd c_33 (by decide +kernel)
theorem dgX12_first_0 : ∀ r ∈ ([(0, (.aload_n 0, 1)), (1, (.iconst 0, 1)), (2, (.putfield 107, 3)), (5, (.aload_n 0, 1)), (6, (.iload_n 1, 1)), (7, (.invokevirtual 180, 3)), (10, (.ifCond .eq 15, 3)), (13, (.iload_n 2, 1)), (14, (.i2l, 1)), (15, (.lconst 0, 1)), (16, (.ldc2_w 411, 3)), (19, (.invokestatic 121, 3)), (22, (.ifCond .ne 5, 3)), (25, (.iconst (-1), 1)), (26, (.ireturn, 1)), (27, (.iconst 0, 1)), (28, (.istore_n 3, 1)), (29, (.iload_n 3, 1)), (30, (.bipush 24, 2)), (32, (.if_icmp .ge 76, 3)), (35, (.iconst 0, 1)), (36, (.istore 4, 2)), (38, (.iload 4, 2)), (40, (.aload_n 0, 1)), (41, (.getfield 13, 3)), (44, (.iconst 1, 1)), (45, (.iaload, 1)), (46, (.if_icmp .ge 56, 3)), (49, (.iload 4, 2)), (51, (.iload_n 1, 1)), (52, (.if_icmp .ne 7, 3)), (55, (.iconst (-1), 1)), (56, (.goto 11, 3)), (59, (.aload_n 0, 1)), (60, (.iload 4, 2)), (62, (.iload_n 1, 1)), (63, (.iload_n 3, 1)), (64, (.invokevirtual 407, 3)), (67, (.istore 5, 2)), (69, (.iload 5, 2))] : List (Nat × (Instr × Nat))), decode cX12_first r.1 = .ok r.2 := by decide +kernel
theorem dX12_first_0 : decode cX12_first 0 = .ok (.aload_n 0, 1) := dgX12_first_0 (0, (.aload_n 0, 1)) (List.mem_of_getElem? (i := 0) rfl)
theorem dX12_first_1 : decode cX12_first 1 = .ok (.iconst 0, 1) := dgX12_first_0 (1, (.iconst 0, 1)) (List.mem_of_getElem? (i := 1) rfl)
theorem dX12_first_2 : decode cX12_first 2 = .ok (.putfield 107, 3) := dgX12_first_0 (2, (.putfield 107, 3)) (List.mem_of_getElem? (i := 2) rfl)
theorem dX12_first_5 : decode cX12_first 5 = .ok (.aload_n 0, 1) := dgX12_first_0 (5, (.aload_n 0, 1)) (List.mem_of_getElem? (i := 3) rfl)
theorem dX12_first_6 : decode cX12_first 6 = .ok (.iload_n 1, 1) := dgX12_first_0 (6, (.iload_n 1, 1)) (List.mem_of_getElem? (i := 4) rfl)
theorem dX12_first_7 : decode cX12_first 7 = .ok (.invokevirtual 180, 3) := dgX12_first_0 (7, (.invokevirtual 180, 3)) (List.mem_of_getElem? (i := 5) rfl)
theorem dX12_first_10 : decode cX12_first 10 = .ok (.ifCond .eq 15, 3) := dgX12_first_0 (10, (.ifCond .eq 15, 3)) (List.mem_of_getElem? (i := 6) rfl)
theorem dX12_first_13 : decode cX12_first 13 = .ok (.iload_n 2, 1) := dgX12_first_0 (13, (.iload_n 2, 1)) (List.mem_of_getElem? (i := 7) rfl)
theorem dX12_first_14 : decode cX12_first 14 = .ok (.i2l, 1) := dgX12_first_0 (14, (.i2l, 1)) (List.mem_of_getElem? (i := 8) rfl)
theorem dX12_first_15 : decode cX12_first 15 = .ok (.lconst 0, 1) := dgX12_first_0 (15, (.lconst 0, 1)) (List.mem_of_getElem? (i := 9) rfl)
theorem dX12_first_16 : decode cX12_first 16 = .ok (.ldc2_w 411, 3) := dgX12_first_0 (16, (.ldc2_w 411, 3)) (List.mem_of_getElem? (i := 10) rfl)
theorem dX12_first_19 : decode cX12_first 19 = .ok (.invokestatic 121, 3) := dgX12_first_0 (19, (.invokestatic 121, 3)) (List.mem_of_getElem? (i := 11) rfl)
theorem dX12_first_22 : decode cX12_first 22 = .ok (.ifCond .ne 5, 3) := dgX12_first_0 (22, (.ifCond .ne 5, 3)) (List.mem_of_getElem? (i := 12) rfl)
theorem dX12_first_25 : decode cX12_first 25 = .ok (.iconst (-1), 1) := dgX12_first_0 (25, (.iconst (-1), 1)) (List.mem_of_getElem? (i := 13) rfl)
theorem dX12_first_26 : decode cX12_first 26 = .ok (.ireturn, 1) := dgX12_first_0 (26, (.ireturn, 1)) (List.mem_of_getElem? (i := 14) rfl)
theorem dX12_first_27 : decode cX12_first 27 = .ok (.iconst 0, 1) := dgX12_first_0 (27, (.iconst 0, 1)) (List.mem_of_getElem? (i := 15) rfl)
theorem dX12_first_28 : decode cX12_first 28 = .ok (.istore_n 3, 1) := dgX12_first_0 (28, (.istore_n 3, 1)) (List.mem_of_getElem? (i := 16) rfl)
theorem dX12_first_29 : decode cX12_first 29 = .ok (.iload_n 3, 1) := dgX12_first_0 (29, (.iload_n 3, 1)) (List.mem_of_getElem? (i := 17) rfl)
theorem dX12_first_30 : decode cX12_first 30 = .ok (.bipush 24, 2) := dgX12_first_0 (30, (.bipush 24, 2)) (List.mem_of_getElem? (i := 18) rfl)
theorem dX12_first_32 : decode cX12_first 32 = .ok (.if_icmp .ge 76, 3) := dgX12_first_0 (32, (.if_icmp .ge 76, 3)) (List.mem_of_getElem? (i := 19) rfl)
theorem dX12_first_35 : decode cX12_first 35 = .ok (.iconst 0, 1) := dgX12_first_0 (35, (.iconst 0, 1)) (List.mem_of_getElem? (i := 20) rfl)
theorem dX12_first_36 : decode cX12_first 36 = .ok (.istore 4, 2) := dgX12_first_0 (36, (.istore 4, 2)) (List.mem_of_getElem? (i := 21) rfl)
theorem dX12_first_38 : decode cX12_first 38 = .ok (.iload 4, 2) := dgX12_first_0 (38, (.iload 4, 2)) (List.mem_of_getElem? (i := 22) rfl)
theorem dX12_first_40 : decode cX12_first 40 = .ok (.aload_n 0, 1) := dgX12_first_0 (40, (.aload_n 0, 1)) (List.mem_of_getElem? (i := 23) rfl)
theorem dX12_first_41 : decode cX12_first 41 = .ok (.getfield 13, 3) := dgX12_first_0 (41, (.getfield 13, 3)) (List.mem_of_getElem? (i := 24) rfl)
theorem dX12_first_44 : decode cX12_first 44 = .ok (.iconst 1, 1) := dgX12_first_0 (44, (.iconst 1, 1)) (List.mem_of_getElem? (i := 25) rfl)
theorem dX12_first_45 : decode cX12_first 45 = .ok (.iaload, 1) := dgX12_first_0 (45, (.iaload, 1)) (List.mem_of_getElem? (i := 26) rfl)
theorem dX12_first_46 : decode cX12_first 46 = .ok (.if_icmp .ge 56, 3) := dgX12_first_0 (46, (.if_icmp .ge 56, 3)) (List.mem_of_getElem? (i := 27) rfl)
theorem dX12_first_49 : decode cX12_first 49 = .ok (.iload 4, 2) := dgX12_first_0 (49, (.iload 4, 2)) (List.mem_of_getElem? (i := 28) rfl)
theorem dX12_first_51 : decode cX12_first 51 = .ok (.iload_n 1, 1) := dgX12_first_0 (51, (.iload_n 1, 1)) (List.mem_of_getElem? (i := 29) rfl)
theorem dX12_first_52 : decode cX12_first 52 = .ok (.if_icmp .ne 7, 3) := dgX12_first_0 (52, (.if_icmp .ne 7, 3)) (List.mem_of_getElem? (i := 30) rfl)
theorem dX12_first_55 : decode cX12_first 55 = .ok (.iconst (-1), 1) := dgX12_first_0 (55, (.iconst (-1), 1)) (List.mem_of_getElem? (i := 31) rfl)
theorem dX12_first_56 : decode cX12_first 56 = .ok (.goto 11, 3) := dgX12_first_0 (56, (.goto 11, 3)) (List.mem_of_getElem? (i := 32) rfl)
theorem dX12_first_59 : decode cX12_first 59 = .ok (.aload_n 0, 1) := dgX12_first_0 (59, (.aload_n 0, 1)) (List.mem_of_getElem? (i := 33) rfl)
theorem dX12_first_60 : decode cX12_first 60 = .ok (.iload 4, 2) := dgX12_first_0 (60, (.iload 4, 2)) (List.mem_of_getElem? (i := 34) rfl)
theorem dX12_first_62 : decode cX12_first 62 = .ok (.iload_n 1, 1) := dgX12_first_0 (62, (.iload_n 1, 1)) (List.mem_of_getElem? (i := 35) rfl)
theorem dX12_first_63 : decode cX12_first 63 = .ok (.iload_n 3, 1) := dgX12_first_0 (63, (.iload_n 3, 1)) (List.mem_of_getElem? (i := 36) rfl)
theorem dX12_first_64 : decode cX12_first 64 = .ok (.invokevirtual 407, 3) := dgX12_first_0 (64, (.invokevirtual 407, 3)) (List.mem_of_getElem? (i := 37) rfl)
theorem dX12_first_67 : decode cX12_first 67 = .ok (.istore 5, 2) := dgX12_first_0 (67, (.istore 5, 2)) (List.mem_of_getElem? (i := 38) rfl)
theorem dX12_first_69 : decode cX12_first 69 = .ok (.iload 5, 2) := dgX12_first_0 (69, (.iload 5, 2)) (List.mem_of_getElem? (i := 39) rfl)
theorem dgX12_first_1 : ∀ r ∈ ([(71, (.iconst (-1), 1)), (72, (.if_icmp .eq 24, 3)), (75, (.iload_n 2, 1)), (76, (.ifCond .ne 7, 3)), (79, (.iload_n 3, 1)), (80, (.goto 15, 3)), (83, (.iload_n 2, 1)), (84, (.iconst 1, 1)), (85, (.if_icmp .ne 8, 3)), (88, (.iload 4, 2)), (90, (.goto 5, 3)), (93, (.iload 5, 2)), (95, (.ireturn, 1)), (96, (.iinc 4 1, 3)), (99, (.goto (-61), 3)), (102, (.iinc 3 1, 3)), (105, (.goto (-76), 3)), (108, (.iconst (-1), 1)), (109, (.ireturn, 1))] : List (Nat × (Instr × Nat))), decode cX12_first r.1 = .ok r.2 := by decide +kernel
theorem dX12_first_71 : decode cX12_first 71 = .ok (.iconst (-1), 1) := dgX12_first_1 (71, (.iconst (-1), 1)) (List.mem_of_getElem? (i := 0) rfl)
theorem dX12_first_72 : decode cX12_first 72 = .ok (.if_icmp .eq 24, 3) := dgX12_first_1 (72, (.if_icmp .eq 24, 3)) (List.mem_of_getElem? (i := 1) rfl)
theorem dX12_first_75 : decode cX12_first 75 = .ok (.iload_n 2, 1) := dgX12_first_1 (75, (.iload_n 2, 1)) (List.mem_of_getElem? (i := 2) rfl)
theorem dX12_first_76 : decode cX12_first 76 = .ok (.ifCond .ne 7, 3) := dgX12_first_1 (76, (.ifCond .ne 7, 3)) (List.mem_of_getElem? (i := 3) rfl)
theorem dX12_first_79 : decode cX12_first 79 = .ok (.iload_n 3, 1) := dgX12_first_1 (79, (.iload_n 3, 1)) (List.mem_of_getElem? (i := 4) rfl)
theorem dX12_first_80 : decode cX12_first 80 = .ok (.goto 15, 3) := dgX12_first_1 (80, (.goto 15, 3)) (List.mem_of_getElem? (i := 5) rfl)
theorem dX12_first_83 : decode cX12_first 83 = .ok (.iload_n 2, 1) := dgX12_first_1 (83, (.iload_n 2, 1)) (List.mem_of_getElem? (i := 6) rfl)
theorem dX12_first_84 : decode cX12_first 84 = .ok (.iconst 1, 1) := dgX12_first_1 (84, (.iconst 1, 1)) (List.mem_of_getElem? (i := 7) rfl)
theorem dX12_first_85 : decode cX12_first 85 = .ok (.if_icmp .ne 8, 3) := dgX12_first_1 (85, (.if_icmp .ne 8, 3)) (List.mem_of_getElem? (i := 8) rfl)
theorem dX12_first_88 : decode cX12_first 88 = .ok (.iload 4, 2) := dgX12_first_1 (88, (.iload 4, 2)) (List.mem_of_getElem? (i := 9) rfl)
theorem dX12_first_90 : decode cX12_first 90 = .ok (.goto 5, 3) := dgX12_first_1 (90, (.goto 5, 3)) (List.mem_of_getElem? (i := 10) rfl)
theorem dX12_first_93 : decode cX12_first 93 = .ok (.iload 5, 2) := dgX12_first_1 (93, (.iload 5, 2)) (List.mem_of_getElem? (i := 11) rfl)
theorem dX12_first_95 : decode cX12_first 95 = .ok (.ireturn, 1) := dgX12_first_1 (95, (.ireturn, 1)) (List.mem_of_getElem? (i := 12) rfl)
theorem dX12_first_96 : decode cX12_first 96 = .ok (.iinc 4 1, 3) := dgX12_first_1 (96, (.iinc 4 1, 3)) (List.mem_of_getElem? (i := 13) rfl)
theorem dX12_first_99 : decode cX12_first 99 = .ok (.goto (-61), 3) := dgX12_first_1 (99, (.goto (-61), 3)) (List.mem_of_getElem? (i := 14) rfl)
theorem dX12_first_102 : decode cX12_first 102 = .ok (.iinc 3 1, 3) := dgX12_first_1 (102, (.iinc 3 1, 3)) (List.mem_of_getElem? (i := 15) rfl)
theorem dX12_first_105 : decode cX12_first 105 = .ok (.goto (-76), 3) := dgX12_first_1 (105, (.goto (-76), 3)) (List.mem_of_getElem? (i := 16) rfl)
theorem dX12_first_108 : decode cX12_first 108 = .ok (.iconst (-1), 1) := dgX12_first_1 (108, (.iconst (-1), 1)) (List.mem_of_getElem? (i := 17) rfl)
theorem dX12_first_109 : decode cX12_first 109 = .ok (.ireturn, 1) := dgX12_first_1 (109, (.ireturn, 1)) (List.mem_of_getElem? (i := 18) rfl)
theorem kl_X12_411 : Cond.constantLong RX12 411 2 ∈ tblG := tg 1675 (by decide +kernel) (by decide +kernel)
set_option maxHeartbeats 4000000 in
set_option maxRecDepth 100000 in
theorem n_in_0_2 (l : Launch) (G : g5_G) (sz : Nat) (p_x : Int32) : Met l yX12_in (wsG yX12_in cX12_in 6 (some .boolean)) ({ frames := 0, cells := 0, slots := 0, locals := 0 }) (va_Pc [.long p_x.toInt64, .long 0, .long 2] (g5_P G [] sz)) (va_Qi (fun (r : Int32) (u : va_W) => ((p_x.toInt < 0 ∨ 2 < p_x.toInt) ∧ (r = 0) ∧ (u = [])) ∨ ((0 ≤ p_x.toInt ∧ p_x.toInt ≤ 2) ∧ (r = 1) ∧ (u = []))) (g5_B G (va_A [] sz)) (va_A [] sz)) 0 0 (va_A [] sz) := by
  refine Met.ofW (cc := cX12_in) (maxL := 6) (ret := (some .boolean)) (by decide) rfl ?_
  intro p e s m args below meth c s₁ B hml hv
  obtain ⟨rfl, hsz, hP, hK, hD0, hN, hT⟩ := hv
  have hx := B.exec
  have hb := B.bytes
  have hr := B.returns
  have hts : ∀ w ∈ tblG, w.before _ s = true := fun w h => atoms_spec (ws := (wsG yX12_in cX12_in 6 (some .boolean))) B.pre w (List.mem_cons_of_mem _ h)
  have hown : s.vm.findClass RX12 = some m.cls := findClass_of_methodNamed B.named
  have hlocks := B.notSynchronized
  subst hsz
  have hD := hD0.self (sz := s.heap.size)
  generalize hAe : va_A [] s.heap.size = A at hD hT ⊢
  have hA : ∀ q : Nat, s.heap.size ≤ q → A q := fun q h => by rw [← hAe]; exact Or.inr h
  have hS : va_S A s.heap s.heap [] := va_S.rf
  have hP : va_P G.1 vwCl [] s.heap := hP
  have hl := lv_entry ([.long p_x.toInt64, .long 0, .long 2]) (n := 6) (Nat.le_of_ble_eq_true rfl)
  rw [lg_entry_eq]
  generalize (lg_sl ([.long p_x.toInt64, .long 0, .long 2]) ++ List.replicate (6 - (lg_sl ([.long p_x.toInt64, .long 0, .long 2])).length) Slot.unset).toArray = ls at hl ⊢
  have hl : lv_has ls 6 [(0, .long p_x.toInt64), (2, .long 0), (4, .long 2)] := hl
  refine lv_lload_n hx hb dX12_in_0 rfl (lv_at hl 0 rfl) ?_
  refine lv_lload_n hx hb dX12_in_1 rfl (lv_at hl 1 rfl) ?_
  have tl_1 : p_x.toInt64.toInt = p_x.toInt := Int32.toInt_toInt64 _
  have tl_2 : (0 : Int64).toInt = 0 := (by decide)
  have tc_3 := g5_cmpI p_x.toInt64 0
  refine W.lcmp hx hb dX12_in_2 ?_
  refine lv_if_lt (tgt := 17) hx hb dX12_in_3 (by decide) (fun c_4 => ?_) (fun c_4 => ?_)
  ·
    have i_4 : (lg_cmp p_x.toInt64 0).toInt < 0 := by have z := g5_lt (a := (lg_cmp p_x.toInt64 0).toInt) (b := 0) (by rfl) (by decide) c_4; omega
    refine lv_iconst (v := 0) hx hb dX12_in_17 (by decide) ?_
    exact W.zret (v := 0) hx hb hr rfl (fun t ht hW => ⟨⟨0, [], rfl, Or.inl (⟨by omega, rfl, rfl⟩), by rw [ht]; exact hP.sub [] rfl, hD.sub [] (by decide) rfl⟩, hS.F ht⟩) hS.2.2 dX12_in_18
  ·
    have i_4 : (lg_cmp p_x.toInt64 0).toInt ≥ 0 := by have z := g5_ltN (a := (lg_cmp p_x.toInt64 0).toInt) (b := 0) (by rfl) (by decide) c_4; omega
    refine lv_lload_n hx hb dX12_in_6 rfl (lv_at hl 0 rfl) ?_
    refine lv_lload hx hb dX12_in_7 (lv_at hl 2 rfl) ?_
    have tl_5 : p_x.toInt64.toInt = p_x.toInt := Int32.toInt_toInt64 _
    have tl_6 : (2 : Int64).toInt = 2 := (by decide)
    have tc_7 := g5_cmpI p_x.toInt64 2
    refine W.lcmp hx hb dX12_in_9 ?_
    refine lv_if_gt (tgt := 17) hx hb dX12_in_10 (by decide) (fun c_8 => ?_) (fun c_8 => ?_)
    ·
      have i_8 : (lg_cmp p_x.toInt64 2).toInt > 0 := by have z := g5_gt (a := (lg_cmp p_x.toInt64 2).toInt) (b := 0) (by rfl) (by decide) c_8; omega
      refine lv_iconst (v := 0) hx hb dX12_in_17 (by decide) ?_
      exact W.zret (v := 0) hx hb hr rfl (fun t ht hW => ⟨⟨0, [], rfl, Or.inl (⟨by omega, rfl, rfl⟩), by rw [ht]; exact hP.sub [] rfl, hD.sub [] (by decide) rfl⟩, hS.F ht⟩) hS.2.2 dX12_in_18
    ·
      have i_8 : (lg_cmp p_x.toInt64 2).toInt ≤ 0 := by have z := g5_gtN (a := (lg_cmp p_x.toInt64 2).toInt) (b := 0) (by rfl) (by decide) c_8; omega
      refine lv_iconst (v := 1) hx hb dX12_in_13 (by decide) ?_
      refine lv_goto (tgt := 18) hx hb dX12_in_14 (by decide) ?_
      exact W.zret (v := 1) hx hb hr rfl (fun t ht hW => ⟨⟨1, [], rfl, Or.inr (⟨by omega, rfl, rfl⟩), by rw [ht]; exact hP.sub [] rfl, hD.sub [] (by decide) rfl⟩, hS.F ht⟩) hS.2.2 dX12_in_18
set_option maxHeartbeats 4000000 in
set_option maxRecDepth 100000 in
theorem n_first (l : Launch) (G : g5_G) (b_o b_ro b_se b_re b_pt b_rf b_im b_ke b_tp b_nl b_op b_ar b_pi b_pa b_ws b_hw b_ip b_ah b_be b_me b_tr b_ld b_wn : Nat) (sz : Nat) (u_th : Int32) (u_sa : Int32) (u_fd : Int32) (u_td : Int32) (u_fr : Int32) (u_to : Int32) (u_so : Int32) (u_fa : Int32) (u_bd : Int32) (u_nc : Int32) (u_co : Int32) (u_le : Int32) (u_pd : Int32) (u_od : Int32) (u_la : Int32) (u_bk : Int32) (u_ce : Int32) (u_ho : Int32) (u_wy : Int32) (u_bt : Int32) (u_ps : Int32) (u_tg : Int32) (u_sn : Int32) (u_ic : Int32) (u_wd : Int32) (u_id : Int32) (p_1 : Int32) (p_2 : Int32) (u_wo : Int64) (u_va : Int64) (u_su : Int64) (u_st : Int64) (v_ro : Nat → Int32) (v_se : Nat → Int64) (v_re : Nat → Int64) (v_pt : Nat → Int32) (h_u_td : 0 ≤ u_td.toInt ∧ u_td.toInt ≤ 400) (h_u_fr : 0 ≤ u_fr.toInt ∧ u_fr.toInt ≤ 400) (h_u_to : 0 ≤ u_to.toInt ∧ u_to.toInt ≤ 400) (h_u_bd : 0 ≤ u_bd.toInt ∧ u_bd.toInt ≤ 1) (h_u_nc : 0 ≤ u_nc.toInt ∧ u_nc.toInt ≤ 12) (h_u_co : 0 ≤ u_co.toInt ∧ u_co.toInt ≤ 400) (h_u_pd : 0 ≤ u_pd.toInt ∧ u_pd.toInt ≤ 400) (h_u_la : 0 ≤ u_la.toInt ∧ u_la.toInt ≤ 4840) (h_u_bk : 0 ≤ u_bk.toInt ∧ u_bk.toInt ≤ 1) (h_u_ce : 0 ≤ u_ce.toInt ∧ u_ce.toInt ≤ 63) (h_u_ho : 0 ≤ u_ho.toInt ∧ u_ho.toInt ≤ 23) (h_u_wy : 0 ≤ u_wy.toInt ∧ u_wy.toInt ≤ 3) (h_u_bt : 0 ≤ u_bt.toInt ∧ u_bt.toInt ≤ 1000000) (h_u_ps : 0 ≤ u_ps.toInt ∧ u_ps.toInt ≤ 200) (h_u_ic : 0 ≤ u_ic.toInt ∧ u_ic.toInt ≤ 1) (h_u_id : 0 ≤ u_id.toInt ∧ u_id.toInt ≤ 1) (r_ro : MI v_ro) (r_pt : PTI v_pt) : Met l yX12_first (wsG yX12_first cX12_first 6 (some .int)) ({ frames := 8, cells := 0, slots := 0, locals := 203 }) (va_Pc [.ref b_o, .int p_1, .int p_2] (g5_P G [(b_o, (oc12 u_th u_sa b_rf b_ro b_im b_ke u_fd b_tp u_td u_fr u_to u_so u_wo u_fa u_bd u_nc b_nl u_co b_op b_ar u_le b_pi b_pa u_pd u_od b_ws b_hw u_la b_se b_re u_bk u_va u_su u_ce u_ho u_wy u_bt u_ps b_pt u_tg u_sn b_ip u_ic b_ah b_be b_me u_wd b_tr b_ld u_st b_wn u_id)), (b_ro, (arI G 5740 v_ro)), (b_se, (arJ G 13 v_se)), (b_re, (arJ G 400 v_re)), (b_pt, (arI G 200 v_pt))] sz)) (va_Qi (fun (r : Int32) (u : va_W) => (∃ (o_r : Int32) (o_th : Int32) (o_la : Int32) (o_bk : Int32) (o_va : Int64) (o_su : Int64) (o_ce : Int32) (o_ho : Int32) (o_wy : Int32) (o_bt : Int32) (o_ps : Int32) (o_tg : Int32) (o_sn : Int32) (o_se : Nat → Int64) (o_re : Nat → Int64) (o_pt : Nat → Int32), (0 ≤ o_la.toInt ∧ o_la.toInt ≤ 4840) ∧ (0 ≤ o_bk.toInt ∧ o_bk.toInt ≤ 1) ∧ (0 ≤ o_ce.toInt ∧ o_ce.toInt ≤ 63) ∧ (0 ≤ o_ho.toInt ∧ o_ho.toInt ≤ 23) ∧ (0 ≤ o_wy.toInt ∧ o_wy.toInt ≤ 3) ∧ (0 ≤ o_bt.toInt ∧ o_bt.toInt ≤ 1000000) ∧ (0 ≤ o_ps.toInt ∧ o_ps.toInt ≤ 200) ∧ (PTI o_pt) ∧ (r = o_r) ∧ (u = [(b_o, (oc12 o_th u_sa b_rf b_ro b_im b_ke u_fd b_tp u_td u_fr u_to u_so u_wo u_fa u_bd u_nc b_nl u_co b_op b_ar u_le b_pi b_pa u_pd u_od b_ws b_hw o_la b_se b_re o_bk o_va o_su o_ce o_ho o_wy o_bt o_ps b_pt o_tg o_sn b_ip u_ic b_ah b_be b_me u_wd b_tr b_ld u_st b_wn u_id)), (b_ro, (arI G 5740 v_ro)), (b_se, (arJ G 13 o_se)), (b_re, (arJ G 400 o_re)), (b_pt, (arI G 200 o_pt))]))) (g5_B G (va_A [(b_o, (oc12 u_th u_sa b_rf b_ro b_im b_ke u_fd b_tp u_td u_fr u_to u_so u_wo u_fa u_bd u_nc b_nl u_co b_op b_ar u_le b_pi b_pa u_pd u_od b_ws b_hw u_la b_se b_re u_bk u_va u_su u_ce u_ho u_wy u_bt u_ps b_pt u_tg u_sn b_ip u_ic b_ah b_be b_me u_wd b_tr b_ld u_st b_wn u_id)), (b_ro, (arI G 5740 v_ro)), (b_se, (arJ G 13 v_se)), (b_re, (arJ G 400 v_re)), (b_pt, (arI G 200 v_pt))] sz)) (va_A [(b_o, (oc12 u_th u_sa b_rf b_ro b_im b_ke u_fd b_tp u_td u_fr u_to u_so u_wo u_fa u_bd u_nc b_nl u_co b_op b_ar u_le b_pi b_pa u_pd u_od b_ws b_hw u_la b_se b_re u_bk u_va u_su u_ce u_ho u_wy u_bt u_ps b_pt u_tg u_sn b_ip u_ic b_ah b_be b_me u_wd b_tr b_ld u_st b_wn u_id)), (b_ro, (arI G 5740 v_ro)), (b_se, (arJ G 13 v_se)), (b_re, (arJ G 400 v_re)), (b_pt, (arI G 200 v_pt))] sz)) 0 0 (va_A [(b_o, (oc12 u_th u_sa b_rf b_ro b_im b_ke u_fd b_tp u_td u_fr u_to u_so u_wo u_fa u_bd u_nc b_nl u_co b_op b_ar u_le b_pi b_pa u_pd u_od b_ws b_hw u_la b_se b_re u_bk u_va u_su u_ce u_ho u_wy u_bt u_ps b_pt u_tg u_sn b_ip u_ic b_ah b_be b_me u_wd b_tr b_ld u_st b_wn u_id)), (b_ro, (arI G 5740 v_ro)), (b_se, (arJ G 13 v_se)), (b_re, (arJ G 400 v_re)), (b_pt, (arI G 200 v_pt))] sz) := by
  refine Met.ofW (cc := cX12_first) (maxL := 6) (ret := (some .int)) (by decide +kernel) rfl ?_
  intro p e s m args below meth c s₁ B hml hv
  obtain ⟨rfl, hsz, hP, hK, hD0, hN, hT⟩ := hv
  have hx := B.exec
  have hb := B.bytes
  have hr := B.returns
  have hts : ∀ w ∈ tblG, w.before _ s = true := fun w h => atoms_spec (ws := (wsG yX12_first cX12_first 6 (some .int))) B.pre w (List.mem_cons_of_mem _ h)
  have hown : s.vm.findClass RX12 = some m.cls := findClass_of_methodNamed B.named
  have hlocks := B.notSynchronized
  subst hsz
  have hD := hD0.self (sz := s.heap.size)
  generalize hAe : va_A [(b_o, (oc12 u_th u_sa b_rf b_ro b_im b_ke u_fd b_tp u_td u_fr u_to u_so u_wo u_fa u_bd u_nc b_nl u_co b_op b_ar u_le b_pi b_pa u_pd u_od b_ws b_hw u_la b_se b_re u_bk u_va u_su u_ce u_ho u_wy u_bt u_ps b_pt u_tg u_sn b_ip u_ic b_ah b_be b_me u_wd b_tr b_ld u_st b_wn u_id)), (b_ro, (arI G 5740 v_ro)), (b_se, (arJ G 13 v_se)), (b_re, (arJ G 400 v_re)), (b_pt, (arI G 200 v_pt))] s.heap.size = A at hD hT ⊢
  have hA : ∀ q : Nat, s.heap.size ≤ q → A q := fun q h => by rw [← hAe]; exact Or.inr h
  have hS : va_S A s.heap s.heap [] := va_S.rf
  replace hP : va_P G.1 vwCl [(b_o, (oc12 u_th u_sa b_rf b_ro b_im b_ke u_fd b_tp u_td u_fr u_to u_so u_wo u_fa u_bd u_nc b_nl u_co b_op b_ar u_le b_pi b_pa u_pd u_od b_ws b_hw u_la b_se b_re u_bk u_va u_su u_ce u_ho u_wy u_bt u_ps b_pt u_tg u_sn b_ip u_ic b_ah b_be b_me u_wd b_tr b_ld u_st b_wn u_id)), (b_ro, (arI G 5740 v_ro)), (b_se, (arJ G 13 v_se)), (b_re, (arJ G 400 v_re)), (b_pt, (arI G 200 v_pt))] s.heap := hP
  have hl := lv_entry ([.ref b_o, .int p_1, .int p_2]) (n := 6) (Nat.le_of_ble_eq_true rfl)
  rw [lg_entry_eq]
  generalize (lg_sl ([.ref b_o, .int p_1, .int p_2]) ++ List.replicate (6 - (lg_sl ([.ref b_o, .int p_1, .int p_2])).length) Slot.unset).toArray = ls at hl ⊢
  replace hl : lv_has ls 6 [(0, .ref b_o), (1, .int p_1), (2, .int p_2)] := hl
  refine lv_aload_n hx hb dX12_first_0 rfl (lv_at hl 0 rfl) ?_
  refine lv_iconst (v := 0) hx hb dX12_first_1 (by decide +kernel) ?_
  refine va_put (D := G.1) (ci := 12) (v := .int 0) (ty := .int) (C := RX12) (T := TX12) (N := 52) hx hb hts inG_X12 tyX12 tyX12_ok nmX12 hown hK hP hD hS 0 rfl rfl 0 (by decide +kernel) (hts _ fl_X12_107) (fun _ h9 => h9) rfl (by decide +kernel) rfl rfl (Nat.le_of_ble_eq_true rfl) dX12_first_2 ?_
  clear hP hD hS
  intro H locs hP hD hS
  refine g5_rs [(b_o, (oc12 0 u_sa b_rf b_ro b_im b_ke u_fd b_tp u_td u_fr u_to u_so u_wo u_fa u_bd u_nc b_nl u_co b_op b_ar u_le b_pi b_pa u_pd u_od b_ws b_hw u_la b_se b_re u_bk u_va u_su u_ce u_ho u_wy u_bt u_ps b_pt u_tg u_sn b_ip u_ic b_ah b_be b_me u_wd b_tr b_ld u_st b_wn u_id)), (b_ro, (arI G 5740 v_ro)), (b_se, (arJ G 13 v_se)), (b_re, (arJ G 400 v_re)), (b_pt, (arI G 200 v_pt))] hP hD ?_
  clear hP hD
  intro hP hD
  refine lv_aload_n hx hb dX12_first_5 rfl (lv_at hl 0 rfl) ?_
  refine lv_iload_n hx hb dX12_first_6 rfl (lv_at hl 1 rfl) ?_
  obtain ⟨hPc, hDc, hFc⟩ := g5_sub3 (wc := [(b_o, (oc12 0 u_sa b_rf b_ro b_im b_ke u_fd b_tp u_td u_fr u_to u_so u_wo u_fa u_bd u_nc b_nl u_co b_op b_ar u_le b_pi b_pa u_pd u_od b_ws b_hw u_la b_se b_re u_bk u_va u_su u_ce u_ho u_wy u_bt u_ps b_pt u_tg u_sn b_ip u_ic b_ah b_be b_me u_wd b_tr b_ld u_st b_wn u_id)), (b_ro, (arI G 5740 v_ro))]) hP hD hS hA [0, 1] (by decide +kernel) rfl
  refine va_calli (va_runV (As := [.int p_1]) (rest := []) ⟨hx, hb, hml, hown, hts⟩ (n_isBody l G b_o b_ro b_rf b_im b_ke b_tp b_nl b_op b_ar b_pi b_pa b_ws b_hw b_se b_re b_pt b_ip b_ah b_be b_me b_tr b_ld b_wn H.size 0 u_sa u_fd u_td u_fr u_to u_so u_fa u_bd u_nc u_co u_le u_pd u_od u_la u_bk u_ce u_ho u_wy u_bt u_ps u_tg u_sn u_ic u_wd u_id p_1 u_wo u_va u_su u_st v_ro h_u_td h_u_fr h_u_to h_u_bd h_u_nc h_u_co h_u_pd h_u_la h_u_bk h_u_ce h_u_ho h_u_wy h_u_bt h_u_ps h_u_ic h_u_id (r_ro)) (cwV 1 hts gV_X12_180 rfl rfl rfl hv_X12_isBody ⟨Nat.le_of_ble_eq_true rfl, Nat.le_of_ble_eq_true rfl⟩) (g5_preV hPc hK hDc hN hT hS hFc (ci := 12) (q0 := 0) rfl rfl) rfl rfl hl.1 rfl (lv_room (Nat.le_of_ble_eq_true rfl)) dX12_first_7 ⟨Nat.le_of_ble_eq_true rfl, Nat.le_of_ble_eq_true rfl⟩) hS (fun q _ h => hFc q h) hFc (fun r u t H locs ht hvm hw hB hz1 hk1 hS => ?_)
  obtain ⟨hP1, hD1⟩ := hB
  have hP1 := g5_ht ht hP1
  rcases hw with ⟨(i_1 : 0 ≤ p_1.toInt ∧ p_1.toInt ≤ 4), rfl, rfl⟩ | ⟨rfl, rfl⟩
  ·
    have hJ9 := va_join (wr := [(b_se, (arJ G 13 v_se)), (b_re, (arJ G 400 v_re)), (b_pt, (arI G 200 v_pt))]) hP hD [0, 1] [2, 3, 4] rfl rfl (by decide +kernel) (by decide +kernel) hk1 hFc hP1 hD1
    clear hP hD hPc hDc hFc ht hvm hz1 hk1 hP1 hD1
    obtain ⟨hP, hD⟩ := hJ9
    refine g5_rs [(b_se, (arJ G 13 v_se)), (b_re, (arJ G 400 v_re)), (b_pt, (arI G 200 v_pt)), (b_o, (oc12 0 u_sa b_rf b_ro b_im b_ke u_fd b_tp u_td u_fr u_to u_so u_wo u_fa u_bd u_nc b_nl u_co b_op b_ar u_le b_pi b_pa u_pd u_od b_ws b_hw u_la b_se b_re u_bk u_va u_su u_ce u_ho u_wy u_bt u_ps b_pt u_tg u_sn b_ip u_ic b_ah b_be b_me u_wd b_tr b_ld u_st b_wn u_id)), (b_ro, (arI G 5740 v_ro))] hP hD ?_
    clear hP hD
    intro hP hD
    refine lv_if_eq (tgt := 25) hx hb dX12_first_10 (by decide +kernel) (fun c_2 => ?_) (fun c_2 => ?_)
    ·
      exact absurd c_2 (by decide +kernel)
    ·
      refine lv_iload_n hx hb dX12_first_13 rfl (lv_at hl 2 rfl) ?_
      refine lv_i2l (v := p_2.toInt64) hx hb dX12_first_14 rfl ?_
      refine lv_lconst (v := 0) hx hb dX12_first_15 (by decide +kernel) ?_
      refine lv_ldc2 (v := 2) hx hb hown (hts _ kl_X12_411) dX12_first_16 ?_
      obtain ⟨hPc, hDc, hFc⟩ := g5_sub3 (wc := []) hP hD hS hA [] (by decide +kernel) rfl
      refine va_calli (va_runS (As := [.long p_2.toInt64, .long 0, .long 2]) (rest := []) ⟨hx, hb, hml, hown, hts⟩ (n_in_0_2 l G H.size p_2) (va_cwS 3 hts gS_X12_121 rfl rfl rfl hs_X12_in ⟨Nat.le_of_ble_eq_true rfl, Nat.le_of_ble_eq_true rfl⟩) (g5_preS hPc hK hDc hN hT hS hFc) rfl rfl hl.1 rfl (lv_room (Nat.le_of_ble_eq_true rfl)) dX12_first_19 ⟨Nat.le_of_ble_eq_true rfl, Nat.le_of_ble_eq_true rfl⟩) hS (fun q _ h => hFc q h) hFc (fun r u t H locs ht hvm hw hB hz1 hk1 hS => ?_)
      obtain ⟨hP1, hD1⟩ := hB
      have hP1 := g5_ht ht hP1
      rcases hw with ⟨(i_3 : p_2.toInt < 0 ∨ 2 < p_2.toInt), rfl, rfl⟩ | ⟨(i_4 : 0 ≤ p_2.toInt ∧ p_2.toInt ≤ 2), rfl, rfl⟩
      ·
        have hJ9 := g5_same hP hk1
        clear hP hPc hDc hFc ht hvm hz1 hk1 hP1 hD1
        have hP := hJ9
        clear hJ9
        refine lv_if_ne (tgt := 27) hx hb dX12_first_22 (by decide +kernel) (fun c_5 => ?_) (fun c_5 => ?_)
        ·
          exact absurd c_5 (by decide +kernel)
        ·
          refine lv_iconst (v := (-1)) hx hb dX12_first_25 (by decide +kernel) ?_
          exact W.iret (v := (-1)) hx hb hr (fun t ht hW => ⟨⟨(-1), [(b_o, (oc12 0 u_sa b_rf b_ro b_im b_ke u_fd b_tp u_td u_fr u_to u_so u_wo u_fa u_bd u_nc b_nl u_co b_op b_ar u_le b_pi b_pa u_pd u_od b_ws b_hw u_la b_se b_re u_bk u_va u_su u_ce u_ho u_wy u_bt u_ps b_pt u_tg u_sn b_ip u_ic b_ah b_be b_me u_wd b_tr b_ld u_st b_wn u_id)), (b_ro, (arI G 5740 v_ro)), (b_se, (arJ G 13 v_se)), (b_re, (arJ G 400 v_re)), (b_pt, (arI G 200 v_pt))], rfl, ⟨(-1), 0, u_la, u_bk, u_va, u_su, u_ce, u_ho, u_wy, u_bt, u_ps, u_tg, u_sn, v_se, v_re, v_pt, h_u_la, h_u_bk, h_u_ce, h_u_ho, h_u_wy, h_u_bt, h_u_ps, r_pt, rfl, rfl⟩, by rw [ht]; exact hP.sub [3, 4, 0, 1, 2] rfl, hD.sub [3, 4, 0, 1, 2] (by decide +kernel) rfl⟩, hS.F ht⟩) hS.2.2 dX12_first_26
      ·
        have hJ9 := g5_same hP hk1
        clear hP hPc hDc hFc ht hvm hz1 hk1 hP1 hD1
        have hP := hJ9
        clear hJ9
        refine lv_if_ne (tgt := 27) hx hb dX12_first_22 (by decide +kernel) (fun c_6 => ?_) (fun c_6 => ?_)
        ·
          refine lv_iconst (v := 0) hx hb dX12_first_27 (by decide +kernel) ?_
          refine lv_istore_n (lv' := [(3, .int 0), (0, .ref b_o), (1, .int p_1), (2, .int p_2)]) hx hb dX12_first_28 rfl hl (by decide +kernel) rfl ?_
          clear hl
          intro ls hl
          refine g5_loop (α := (Int32) × (Int32) × (Int32) × (Int64) × (Int64) × (Int32) × (Int32) × (Int32) × (Int32) × (Int32) × (Int32) × (Int32) × (Nat → Int64) × (Nat → Int64) × (Nat → Int32)) (fun (q : (Int32) × (Int32) × (Int32) × (Int64) × (Int64) × (Int32) × (Int32) × (Int32) × (Int32) × (Int32) × (Int32) × (Int32) × (Nat → Int64) × (Nat → Int64) × (Nat → Int32)) (ls : Array Slot) (H : Heap) (locs : List Loc) => match q with | (k29_3, k29_la, k29_bk, k29_va, k29_su, k29_ce, k29_ho, k29_wy, k29_bt, k29_ps, k29_tg, k29_sn, k29_se, k29_re, k29_pt) => lv_has ls 6 [(3, .int k29_3), (0, .ref b_o), (1, .int p_1), (2, .int p_2)] ∧ va_P G.1 vwCl [(b_se, (arJ G 13 k29_se)), (b_re, (arJ G 400 k29_re)), (b_pt, (arI G 200 k29_pt)), (b_o, (oc12 0 u_sa b_rf b_ro b_im b_ke u_fd b_tp u_td u_fr u_to u_so u_wo u_fa u_bd u_nc b_nl u_co b_op b_ar u_le b_pi b_pa u_pd u_od b_ws b_hw k29_la b_se b_re k29_bk k29_va k29_su k29_ce k29_ho k29_wy k29_bt k29_ps b_pt k29_tg k29_sn b_ip u_ic b_ah b_be b_me u_wd b_tr b_ld u_st b_wn u_id)), (b_ro, (arI G 5740 v_ro))] H ∧ va_D A [(b_se, (arJ G 13 k29_se)), (b_re, (arJ G 400 k29_re)), (b_pt, (arI G 200 k29_pt)), (b_o, (oc12 0 u_sa b_rf b_ro b_im b_ke u_fd b_tp u_td u_fr u_to u_so u_wo u_fa u_bd u_nc b_nl u_co b_op b_ar u_le b_pi b_pa u_pd u_od b_ws b_hw k29_la b_se b_re k29_bk k29_va k29_su k29_ce k29_ho k29_wy k29_bt k29_ps b_pt k29_tg k29_sn b_ip u_ic b_ah b_be b_me u_wd b_tr b_ld u_st b_wn u_id)), (b_ro, (arI G 5740 v_ro))] ∧ va_S A s.heap H locs ∧ (0 ≤ k29_3.toInt ∧ k29_3.toInt ≤ 24) ∧ (0 ≤ k29_la.toInt ∧ k29_la.toInt ≤ 4840) ∧ (0 ≤ k29_bk.toInt ∧ k29_bk.toInt ≤ 1) ∧ (0 ≤ k29_ce.toInt ∧ k29_ce.toInt ≤ 63) ∧ (0 ≤ k29_ho.toInt ∧ k29_ho.toInt ≤ 23) ∧ (0 ≤ k29_wy.toInt ∧ k29_wy.toInt ≤ 3) ∧ (0 ≤ k29_bt.toInt ∧ k29_bt.toInt ≤ 1000000) ∧ (0 ≤ k29_ps.toInt ∧ k29_ps.toInt ≤ 200) ∧ (PTI k29_pt)) (fun (q : (Int32) × (Int32) × (Int32) × (Int64) × (Int64) × (Int32) × (Int32) × (Int32) × (Int32) × (Int32) × (Int32) × (Int32) × (Nat → Int64) × (Nat → Int64) × (Nat → Int32)) => match q with | (k29_3, k29_la, k29_bk, k29_va, k29_su, k29_ce, k29_ho, k29_wy, k29_bt, k29_ps, k29_tg, k29_sn, k29_se, k29_re, k29_pt) => Int.toNat (24 - k29_3.toInt)) (0, u_la, u_bk, u_va, u_su, u_ce, u_ho, u_wy, u_bt, u_ps, u_tg, u_sn, v_se, v_re, v_pt) ⟨lv_sub hl [0, 1, 2, 3] rfl, hP, hD, hS, ⟨by decide, by decide⟩, h_u_la, h_u_bk, h_u_ce, h_u_ho, h_u_wy, h_u_bt, h_u_ps, r_pt⟩ ?_
          rintro ⟨k29_3, k29_la, k29_bk, k29_va, k29_su, k29_ce, k29_ho, k29_wy, k29_bt, k29_ps, k29_tg, k29_sn, k29_se, k29_re, k29_pt⟩ ls H locs ⟨hl, hP, hD, hS, (i_7 : 0 ≤ k29_3.toInt ∧ k29_3.toInt ≤ 24), (i_8 : 0 ≤ k29_la.toInt ∧ k29_la.toInt ≤ 4840), (i_9 : 0 ≤ k29_bk.toInt ∧ k29_bk.toInt ≤ 1), (i_10 : 0 ≤ k29_ce.toInt ∧ k29_ce.toInt ≤ 63), (i_11 : 0 ≤ k29_ho.toInt ∧ k29_ho.toInt ≤ 23), (i_12 : 0 ≤ k29_wy.toInt ∧ k29_wy.toInt ≤ 3), (i_13 : 0 ≤ k29_bt.toInt ∧ k29_bt.toInt ≤ 1000000), (i_14 : 0 ≤ k29_ps.toInt ∧ k29_ps.toInt ≤ 200), (i_15 : PTI k29_pt)⟩ ih_29_16
          replace hl : lv_has ls 6 [(3, .int k29_3), (0, .ref b_o), (1, .int p_1), (2, .int p_2)] := hl
          refine g5_rs [(b_se, (arJ G 13 k29_se)), (b_re, (arJ G 400 k29_re)), (b_pt, (arI G 200 k29_pt)), (b_o, (oc12 0 u_sa b_rf b_ro b_im b_ke u_fd b_tp u_td u_fr u_to u_so u_wo u_fa u_bd u_nc b_nl u_co b_op b_ar u_le b_pi b_pa u_pd u_od b_ws b_hw k29_la b_se b_re k29_bk k29_va k29_su k29_ce k29_ho k29_wy k29_bt k29_ps b_pt k29_tg k29_sn b_ip u_ic b_ah b_be b_me u_wd b_tr b_ld u_st b_wn u_id)), (b_ro, (arI G 5740 v_ro))] hP hD ?_
          clear hP hD
          intro hP hD
          refine lv_iload_n hx hb dX12_first_29 rfl (lv_at hl 0 rfl) ?_
          refine lv_bipush (v := 24) hx hb dX12_first_30 (by decide +kernel) ?_
          refine lv_icmp_ge (tgt := 108) hx hb dX12_first_32 (by decide +kernel) (fun c_17 => ?_) (fun c_17 => ?_)
          ·
            have i_17 : k29_3.toInt ≥ 24 := g5_ge (a := k29_3.toInt) (b := 24) rfl (by decide +kernel) c_17
            refine lv_iconst (v := (-1)) hx hb dX12_first_108 (by decide +kernel) ?_
            exact W.iret (v := (-1)) hx hb hr (fun t ht hW => ⟨⟨(-1), [(b_o, (oc12 0 u_sa b_rf b_ro b_im b_ke u_fd b_tp u_td u_fr u_to u_so u_wo u_fa u_bd u_nc b_nl u_co b_op b_ar u_le b_pi b_pa u_pd u_od b_ws b_hw k29_la b_se b_re k29_bk k29_va k29_su k29_ce k29_ho k29_wy k29_bt k29_ps b_pt k29_tg k29_sn b_ip u_ic b_ah b_be b_me u_wd b_tr b_ld u_st b_wn u_id)), (b_ro, (arI G 5740 v_ro)), (b_se, (arJ G 13 k29_se)), (b_re, (arJ G 400 k29_re)), (b_pt, (arI G 200 k29_pt))], rfl, ⟨(-1), 0, k29_la, k29_bk, k29_va, k29_su, k29_ce, k29_ho, k29_wy, k29_bt, k29_ps, k29_tg, k29_sn, k29_se, k29_re, k29_pt, i_8, i_9, i_10, i_11, i_12, i_13, i_14, i_15, rfl, rfl⟩, by rw [ht]; exact hP.sub [3, 4, 0, 1, 2] rfl, hD.sub [3, 4, 0, 1, 2] (by decide +kernel) rfl⟩, hS.F ht⟩) hS.2.2 dX12_first_109
          ·
            have i_17 : k29_3.toInt < 24 := g5_geN (a := k29_3.toInt) (b := 24) rfl (by decide +kernel) c_17
            refine lv_iconst (v := 0) hx hb dX12_first_35 (by decide +kernel) ?_
            refine lv_istore (lv' := [(4, .int 0), (3, .int k29_3), (0, .ref b_o), (1, .int p_1), (2, .int p_2)]) hx hb dX12_first_36 hl (by decide +kernel) rfl ?_
            clear hl
            intro ls hl
            refine g5_loop (α := (Int32) × (Int32) × (Int32) × (Int64) × (Int64) × (Int32) × (Int32) × (Int32) × (Int32) × (Int32) × (Int32) × (Int32) × (Nat → Int64) × (Nat → Int64) × (Nat → Int32)) (fun (q : (Int32) × (Int32) × (Int32) × (Int64) × (Int64) × (Int32) × (Int32) × (Int32) × (Int32) × (Int32) × (Int32) × (Int32) × (Nat → Int64) × (Nat → Int64) × (Nat → Int32)) (ls : Array Slot) (H : Heap) (locs : List Loc) => match q with | (k38_4, k38_la, k38_bk, k38_va, k38_su, k38_ce, k38_ho, k38_wy, k38_bt, k38_ps, k38_tg, k38_sn, k38_se, k38_re, k38_pt) => lv_has ls 6 [(4, .int k38_4), (3, .int k29_3), (0, .ref b_o), (1, .int p_1), (2, .int p_2)] ∧ va_P G.1 vwCl [(b_se, (arJ G 13 k38_se)), (b_re, (arJ G 400 k38_re)), (b_pt, (arI G 200 k38_pt)), (b_o, (oc12 0 u_sa b_rf b_ro b_im b_ke u_fd b_tp u_td u_fr u_to u_so u_wo u_fa u_bd u_nc b_nl u_co b_op b_ar u_le b_pi b_pa u_pd u_od b_ws b_hw k38_la b_se b_re k38_bk k38_va k38_su k38_ce k38_ho k38_wy k38_bt k38_ps b_pt k38_tg k38_sn b_ip u_ic b_ah b_be b_me u_wd b_tr b_ld u_st b_wn u_id)), (b_ro, (arI G 5740 v_ro))] H ∧ va_D A [(b_se, (arJ G 13 k38_se)), (b_re, (arJ G 400 k38_re)), (b_pt, (arI G 200 k38_pt)), (b_o, (oc12 0 u_sa b_rf b_ro b_im b_ke u_fd b_tp u_td u_fr u_to u_so u_wo u_fa u_bd u_nc b_nl u_co b_op b_ar u_le b_pi b_pa u_pd u_od b_ws b_hw k38_la b_se b_re k38_bk k38_va k38_su k38_ce k38_ho k38_wy k38_bt k38_ps b_pt k38_tg k38_sn b_ip u_ic b_ah b_be b_me u_wd b_tr b_ld u_st b_wn u_id)), (b_ro, (arI G 5740 v_ro))] ∧ va_S A s.heap H locs ∧ (0 ≤ k38_4.toInt ∧ k38_4.toInt ≤ 5) ∧ (0 ≤ k38_la.toInt ∧ k38_la.toInt ≤ 4840) ∧ (0 ≤ k38_bk.toInt ∧ k38_bk.toInt ≤ 1) ∧ (0 ≤ k38_ce.toInt ∧ k38_ce.toInt ≤ 63) ∧ (0 ≤ k38_ho.toInt ∧ k38_ho.toInt ≤ 23) ∧ (0 ≤ k38_wy.toInt ∧ k38_wy.toInt ≤ 3) ∧ (0 ≤ k38_bt.toInt ∧ k38_bt.toInt ≤ 1000000) ∧ (0 ≤ k38_ps.toInt ∧ k38_ps.toInt ≤ 200) ∧ (PTI k38_pt)) (fun (q : (Int32) × (Int32) × (Int32) × (Int64) × (Int64) × (Int32) × (Int32) × (Int32) × (Int32) × (Int32) × (Int32) × (Int32) × (Nat → Int64) × (Nat → Int64) × (Nat → Int32)) => match q with | (k38_4, k38_la, k38_bk, k38_va, k38_su, k38_ce, k38_ho, k38_wy, k38_bt, k38_ps, k38_tg, k38_sn, k38_se, k38_re, k38_pt) => Int.toNat (5 - k38_4.toInt)) (0, k29_la, k29_bk, k29_va, k29_su, k29_ce, k29_ho, k29_wy, k29_bt, k29_ps, k29_tg, k29_sn, k29_se, k29_re, k29_pt) ⟨lv_sub hl [0, 1, 2, 3, 4] rfl, hP, hD, hS, ⟨by decide, by decide⟩, i_8, i_9, i_10, i_11, i_12, i_13, i_14, i_15⟩ ?_
            rintro ⟨k38_4, k38_la, k38_bk, k38_va, k38_su, k38_ce, k38_ho, k38_wy, k38_bt, k38_ps, k38_tg, k38_sn, k38_se, k38_re, k38_pt⟩ ls H locs ⟨hl, hP, hD, hS, (i_18 : 0 ≤ k38_4.toInt ∧ k38_4.toInt ≤ 5), (i_19 : 0 ≤ k38_la.toInt ∧ k38_la.toInt ≤ 4840), (i_20 : 0 ≤ k38_bk.toInt ∧ k38_bk.toInt ≤ 1), (i_21 : 0 ≤ k38_ce.toInt ∧ k38_ce.toInt ≤ 63), (i_22 : 0 ≤ k38_ho.toInt ∧ k38_ho.toInt ≤ 23), (i_23 : 0 ≤ k38_wy.toInt ∧ k38_wy.toInt ≤ 3), (i_24 : 0 ≤ k38_bt.toInt ∧ k38_bt.toInt ≤ 1000000), (i_25 : 0 ≤ k38_ps.toInt ∧ k38_ps.toInt ≤ 200), (i_26 : PTI k38_pt)⟩ ih_38_27
            replace hl : lv_has ls 6 [(4, .int k38_4), (3, .int k29_3), (0, .ref b_o), (1, .int p_1), (2, .int p_2)] := hl
            refine g5_rs [(b_se, (arJ G 13 k38_se)), (b_re, (arJ G 400 k38_re)), (b_pt, (arI G 200 k38_pt)), (b_o, (oc12 0 u_sa b_rf b_ro b_im b_ke u_fd b_tp u_td u_fr u_to u_so u_wo u_fa u_bd u_nc b_nl u_co b_op b_ar u_le b_pi b_pa u_pd u_od b_ws b_hw k38_la b_se b_re k38_bk k38_va k38_su k38_ce k38_ho k38_wy k38_bt k38_ps b_pt k38_tg k38_sn b_ip u_ic b_ah b_be b_me u_wd b_tr b_ld u_st b_wn u_id)), (b_ro, (arI G 5740 v_ro))] hP hD ?_
            clear hP hD
            intro hP hD
            refine lv_iload hx hb dX12_first_38 (lv_at hl 0 rfl) ?_
            refine lv_aload_n hx hb dX12_first_40 rfl (lv_at hl 2 rfl) ?_
            refine va_get (D := G.1) (ci := 12) (v := .ref b_ro) (C := RX12) (T := TX12) (N := 52) hx hb hts inG_X12 hown hK hP 3 rfl rfl 3 (by decide +kernel) (hts _ fl_X12_13) (fun _ h9 => h9) rfl dX12_first_41 ?_
            refine lv_iconst (v := 1) hx hb dX12_first_44 (by decide +kernel) ?_
            refine va_iald hx hb hK hP 4 0 rfl rfl (i := 1) (by unfold vp_in; decide) dX12_first_45 ?_
            refine g5_ti (v := (v_ro 1)) rfl ?_
            have hr_28 : 0 ≤ (v_ro 1).toInt ∧ (v_ro 1).toInt ≤ 5 := mi_1 r_ro
            refine lv_icmp_ge (tgt := 102) hx hb dX12_first_46 (by decide +kernel) (fun c_29 => ?_) (fun c_29 => ?_)
            ·
              have i_29 : k38_4.toInt ≥ (v_ro 1).toInt := g5_ge (a := k38_4.toInt) (b := (v_ro 1).toInt) rfl rfl c_29
              refine lv_iinc (v := (k29_3 + 1)) (lv' := [(3, .int (k29_3 + 1)), (4, .int k38_4), (0, .ref b_o), (1, .int p_1), (2, .int p_2)]) hx hb dX12_first_102 hl (k := 1) rfl rfl (by decide +kernel) rfl ?_
              clear hl
              intro ls hl
              have t_30 : (k29_3 + 1).toInt = k29_3.toInt + 1 := g5_iadd (a := k29_3.toInt) (b := 1) rfl (by decide +kernel) (by omega) (by omega)
              refine lv_goto (tgt := 29) hx hb dX12_first_105 (by decide +kernel) ?_
              exact ih_29_16 ((k29_3 + 1), k38_la, k38_bk, k38_va, k38_su, k38_ce, k38_ho, k38_wy, k38_bt, k38_ps, k38_tg, k38_sn, k38_se, k38_re, k38_pt) ls H locs (show Int.toNat (24 - (k29_3 + 1).toInt) < Int.toNat (24 - k29_3.toInt) from g_up (show k29_3.toInt < (k29_3 + 1).toInt by omega) (show k29_3.toInt < 24 by omega)) ⟨lv_sub hl [0, 2, 3, 4] rfl, hP, hD, hS, ⟨by omega, by omega⟩, i_19, i_20, i_21, i_22, i_23, i_24, i_25, i_26⟩
            ·
              have i_29 : k38_4.toInt < (v_ro 1).toInt := g5_geN (a := k38_4.toInt) (b := (v_ro 1).toInt) rfl rfl c_29
              refine lv_iload hx hb dX12_first_49 (lv_at hl 0 rfl) ?_
              refine lv_iload_n hx hb dX12_first_51 rfl (lv_at hl 3 rfl) ?_
              refine lv_icmp_ne (tgt := 59) hx hb dX12_first_52 (by decide +kernel) (fun c_31 => ?_) (fun c_31 => ?_)
              ·
                have n_31 : gNe (k38_4.toInt) (p_1.toInt) := g5_ne (a := k38_4.toInt) (b := p_1.toInt) rfl rfl c_31
                refine lv_aload_n hx hb dX12_first_59 rfl (lv_at hl 2 rfl) ?_
                refine lv_iload hx hb dX12_first_60 (lv_at hl 0 rfl) ?_
                refine lv_iload_n hx hb dX12_first_62 rfl (lv_at hl 3 rfl) ?_
                refine lv_iload_n hx hb dX12_first_63 rfl (lv_at hl 1 rfl) ?_
                obtain ⟨hPc, hDc, hFc⟩ := g5_sub3 (wc := [(b_o, (oc12 0 u_sa b_rf b_ro b_im b_ke u_fd b_tp u_td u_fr u_to u_so u_wo u_fa u_bd u_nc b_nl u_co b_op b_ar u_le b_pi b_pa u_pd u_od b_ws b_hw k38_la b_se b_re k38_bk k38_va k38_su k38_ce k38_ho k38_wy k38_bt k38_ps b_pt k38_tg k38_sn b_ip u_ic b_ah b_be b_me u_wd b_tr b_ld u_st b_wn u_id)), (b_ro, (arI G 5740 v_ro)), (b_se, (arJ G 13 k38_se)), (b_re, (arJ G 400 k38_re)), (b_pt, (arI G 200 k38_pt))]) hP hD hS hA [3, 4, 0, 1, 2] (by decide +kernel) rfl
                refine va_calli (va_runV (As := [.int k38_4, .int p_1, .int k29_3]) (rest := []) ⟨hx, hb, hml, hown, hts⟩ (n_lateness l G b_o b_ro b_se b_re b_pt b_rf b_im b_ke b_tp b_nl b_op b_ar b_pi b_pa b_ws b_hw b_ip b_ah b_be b_me b_tr b_ld b_wn H.size 0 u_sa u_fd u_td u_fr u_to u_so u_fa u_bd u_nc u_co u_le u_pd u_od k38_la k38_bk k38_ce k38_ho k38_wy k38_bt k38_ps k38_tg k38_sn u_ic u_wd u_id k38_4 p_1 k29_3 u_wo k38_va k38_su u_st v_ro k38_se k38_re k38_pt h_u_td h_u_fr h_u_to h_u_bd h_u_nc h_u_co h_u_pd i_19 i_20 i_21 i_22 i_23 i_24 i_25 h_u_ic h_u_id ⟨by omega, by omega⟩ ⟨by omega, by omega⟩ (r_ro) (i_26)) (cwV 3 hts gV_X12_407 rfl rfl rfl hv_X12_lateness ⟨Nat.le_of_ble_eq_true rfl, Nat.le_of_ble_eq_true rfl⟩) (g5_preV hPc hK hDc hN hT hS hFc (ci := 12) (q0 := 0) rfl rfl) rfl rfl hl.1 rfl (lv_room (Nat.le_of_ble_eq_true rfl)) dX12_first_64 ⟨Nat.le_of_ble_eq_true rfl, Nat.le_of_ble_eq_true rfl⟩) hS (fun q _ h => hFc q h) hFc (fun r u t H locs ht hvm hw hB hz1 hk1 hS => ?_)
                obtain ⟨hP1, hD1⟩ := hB
                have hP1 := g5_ht ht hP1
                obtain ⟨z40, z41, z42, z43, z44, z45, z46, z47, z48, z49, z50, z51, z52, z53, z54, (i_32 : 0 ≤ z41.toInt ∧ z41.toInt ≤ 4840), (i_33 : 0 ≤ z42.toInt ∧ z42.toInt ≤ 1), (i_34 : 0 ≤ z45.toInt ∧ z45.toInt ≤ 63), (i_35 : 0 ≤ z46.toInt ∧ z46.toInt ≤ 23), (i_36 : 0 ≤ z47.toInt ∧ z47.toInt ≤ 3), (i_37 : 0 ≤ z48.toInt ∧ z48.toInt ≤ 1000000), (i_38 : 0 ≤ z49.toInt ∧ z49.toInt ≤ 200), (i_39 : PTI z54), y55, rfl⟩ := hw
                have hJ9 := va_join (wr := []) hP hD [3, 4, 0, 1, 2] [] rfl rfl (by decide +kernel) (by decide +kernel) hk1 hFc hP1 hD1
                clear hP hD hPc hDc hFc ht hvm hz1 hk1 hP1 hD1
                obtain ⟨hP, hD⟩ := hJ9
                refine g5_rs [(b_o, (oc12 0 u_sa b_rf b_ro b_im b_ke u_fd b_tp u_td u_fr u_to u_so u_wo u_fa u_bd u_nc b_nl u_co b_op b_ar u_le b_pi b_pa u_pd u_od b_ws b_hw z41 b_se b_re z42 z43 z44 z45 z46 z47 z48 z49 b_pt z50 z51 b_ip u_ic b_ah b_be b_me u_wd b_tr b_ld u_st b_wn u_id)), (b_ro, (arI G 5740 v_ro)), (b_se, (arJ G 13 z52)), (b_re, (arJ G 400 z53)), (b_pt, (arI G 200 z54))] hP hD ?_
                clear hP hD
                intro hP hD
                refine g5_ti (v := z40) y55 ?_
                refine lv_istore (lv' := [(5, .int z40), (4, .int k38_4), (3, .int k29_3), (0, .ref b_o), (1, .int p_1), (2, .int p_2)]) hx hb dX12_first_67 hl (by decide +kernel) rfl ?_
                clear hl
                intro ls hl
                refine lv_iload hx hb dX12_first_69 (lv_at hl 0 rfl) ?_
                refine lv_iconst (v := (-1)) hx hb dX12_first_71 (by decide +kernel) ?_
                refine lv_icmp_eq (tgt := 96) hx hb dX12_first_72 (by decide +kernel) (fun c_56 => ?_) (fun c_56 => ?_)
                ·
                  have i_56 : z40.toInt = (-1) := g5_eq (a := z40.toInt) (b := (-1)) rfl (by decide +kernel) c_56
                  refine lv_iinc (v := (k38_4 + 1)) (lv' := [(4, .int (k38_4 + 1)), (5, .int z40), (3, .int k29_3), (0, .ref b_o), (1, .int p_1), (2, .int p_2)]) hx hb dX12_first_96 hl (k := 1) rfl rfl (by decide +kernel) rfl ?_
                  clear hl
                  intro ls hl
                  have t_57 : (k38_4 + 1).toInt = k38_4.toInt + 1 := g5_iadd (a := k38_4.toInt) (b := 1) rfl (by decide +kernel) (by omega) (by omega)
                  refine lv_goto (tgt := 38) hx hb dX12_first_99 (by decide +kernel) ?_
                  exact ih_38_27 ((k38_4 + 1), z41, z42, z43, z44, z45, z46, z47, z48, z49, z50, z51, z52, z53, z54) ls H locs (show Int.toNat (5 - (k38_4 + 1).toInt) < Int.toNat (5 - k38_4.toInt) from g_up (show k38_4.toInt < (k38_4 + 1).toInt by omega) (show k38_4.toInt < 5 by omega)) ⟨lv_sub hl [0, 2, 3, 4, 5] rfl, hP.sub [2, 3, 4, 0, 1] rfl, hD.sub [2, 3, 4, 0, 1] (by decide +kernel) rfl, hS, ⟨by omega, by omega⟩, i_32, i_33, i_34, i_35, i_36, i_37, i_38, i_39⟩
                ·
                  have n_56 : gNe (z40.toInt) ((-1)) := g5_eqN (a := z40.toInt) (b := (-1)) rfl (by decide +kernel) c_56
                  refine lv_iload_n hx hb dX12_first_75 rfl (lv_at hl 5 rfl) ?_
                  refine lv_if_ne (tgt := 83) hx hb dX12_first_76 (by decide +kernel) (fun c_58 => ?_) (fun c_58 => ?_)
                  ·
                    have n_58 : gNe (p_2.toInt) (0) := g5_ne (a := p_2.toInt) (b := 0) rfl (by decide +kernel) c_58
                    have i_58 : p_2.toInt ≥ 1 := by have z := g5_ne (a := p_2.toInt) (b := 0) (by rfl) (by decide +kernel) c_58; omega
                    refine lv_iload_n hx hb dX12_first_83 rfl (lv_at hl 5 rfl) ?_
                    refine lv_iconst (v := 1) hx hb dX12_first_84 (by decide +kernel) ?_
                    refine lv_icmp_ne (tgt := 93) hx hb dX12_first_85 (by decide +kernel) (fun c_59 => ?_) (fun c_59 => ?_)
                    ·
                      have n_59 : gNe (p_2.toInt) (1) := g5_ne (a := p_2.toInt) (b := 1) rfl (by decide +kernel) c_59
                      have i_59 : p_2.toInt ≥ 2 := by have z := g5_ne (a := p_2.toInt) (b := 1) (by rfl) (by decide +kernel) c_59; omega
                      refine lv_iload hx hb dX12_first_93 (lv_at hl 0 rfl) ?_
                      exact W.iret (v := z40) hx hb hr (fun t ht hW => ⟨⟨z40, [(b_o, (oc12 0 u_sa b_rf b_ro b_im b_ke u_fd b_tp u_td u_fr u_to u_so u_wo u_fa u_bd u_nc b_nl u_co b_op b_ar u_le b_pi b_pa u_pd u_od b_ws b_hw z41 b_se b_re z42 z43 z44 z45 z46 z47 z48 z49 b_pt z50 z51 b_ip u_ic b_ah b_be b_me u_wd b_tr b_ld u_st b_wn u_id)), (b_ro, (arI G 5740 v_ro)), (b_se, (arJ G 13 z52)), (b_re, (arJ G 400 z53)), (b_pt, (arI G 200 z54))], rfl, ⟨z40, 0, z41, z42, z43, z44, z45, z46, z47, z48, z49, z50, z51, z52, z53, z54, i_32, i_33, i_34, i_35, i_36, i_37, i_38, i_39, rfl, rfl⟩, by rw [ht]; exact hP.sub [0, 1, 2, 3, 4] rfl, hD.sub [0, 1, 2, 3, 4] (by decide +kernel) rfl⟩, hS.F ht⟩) hS.2.2 dX12_first_95
                    ·
                      have i_59 : p_2.toInt = 1 := g5_neN (a := p_2.toInt) (b := 1) rfl (by decide +kernel) c_59
                      refine lv_iload hx hb dX12_first_88 (lv_at hl 1 rfl) ?_
                      refine lv_goto (tgt := 95) hx hb dX12_first_90 (by decide +kernel) ?_
                      exact W.iret (v := k38_4) hx hb hr (fun t ht hW => ⟨⟨k38_4, [(b_o, (oc12 0 u_sa b_rf b_ro b_im b_ke u_fd b_tp u_td u_fr u_to u_so u_wo u_fa u_bd u_nc b_nl u_co b_op b_ar u_le b_pi b_pa u_pd u_od b_ws b_hw z41 b_se b_re z42 z43 z44 z45 z46 z47 z48 z49 b_pt z50 z51 b_ip u_ic b_ah b_be b_me u_wd b_tr b_ld u_st b_wn u_id)), (b_ro, (arI G 5740 v_ro)), (b_se, (arJ G 13 z52)), (b_re, (arJ G 400 z53)), (b_pt, (arI G 200 z54))], rfl, ⟨k38_4, 0, z41, z42, z43, z44, z45, z46, z47, z48, z49, z50, z51, z52, z53, z54, i_32, i_33, i_34, i_35, i_36, i_37, i_38, i_39, rfl, rfl⟩, by rw [ht]; exact hP.sub [0, 1, 2, 3, 4] rfl, hD.sub [0, 1, 2, 3, 4] (by decide +kernel) rfl⟩, hS.F ht⟩) hS.2.2 dX12_first_95
                  ·
                    have i_58 : p_2.toInt = 0 := g5_neN (a := p_2.toInt) (b := 0) rfl (by decide +kernel) c_58
                    refine lv_iload_n hx hb dX12_first_79 rfl (lv_at hl 2 rfl) ?_
                    refine lv_goto (tgt := 95) hx hb dX12_first_80 (by decide +kernel) ?_
                    exact W.iret (v := k29_3) hx hb hr (fun t ht hW => ⟨⟨k29_3, [(b_o, (oc12 0 u_sa b_rf b_ro b_im b_ke u_fd b_tp u_td u_fr u_to u_so u_wo u_fa u_bd u_nc b_nl u_co b_op b_ar u_le b_pi b_pa u_pd u_od b_ws b_hw z41 b_se b_re z42 z43 z44 z45 z46 z47 z48 z49 b_pt z50 z51 b_ip u_ic b_ah b_be b_me u_wd b_tr b_ld u_st b_wn u_id)), (b_ro, (arI G 5740 v_ro)), (b_se, (arJ G 13 z52)), (b_re, (arJ G 400 z53)), (b_pt, (arI G 200 z54))], rfl, ⟨k29_3, 0, z41, z42, z43, z44, z45, z46, z47, z48, z49, z50, z51, z52, z53, z54, i_32, i_33, i_34, i_35, i_36, i_37, i_38, i_39, rfl, rfl⟩, by rw [ht]; exact hP.sub [0, 1, 2, 3, 4] rfl, hD.sub [0, 1, 2, 3, 4] (by decide +kernel) rfl⟩, hS.F ht⟩) hS.2.2 dX12_first_95
              ·
                have i_31 : k38_4.toInt = p_1.toInt := g5_neN (a := k38_4.toInt) (b := p_1.toInt) rfl rfl c_31
                refine lv_iconst (v := (-1)) hx hb dX12_first_55 (by decide +kernel) ?_
                refine lv_goto (tgt := 67) hx hb dX12_first_56 (by decide +kernel) ?_
                refine lv_istore (lv' := [(5, .int (-1)), (4, .int k38_4), (3, .int k29_3), (0, .ref b_o), (1, .int p_1), (2, .int p_2)]) hx hb dX12_first_67 hl (by decide +kernel) rfl ?_
                clear hl
                intro ls hl
                refine lv_iload hx hb dX12_first_69 (lv_at hl 0 rfl) ?_
                refine lv_iconst (v := (-1)) hx hb dX12_first_71 (by decide +kernel) ?_
                refine lv_icmp_eq (tgt := 96) hx hb dX12_first_72 (by decide +kernel) (fun c_60 => ?_) (fun c_60 => ?_)
                ·
                  refine lv_iinc (v := (k38_4 + 1)) (lv' := [(4, .int (k38_4 + 1)), (5, .int (-1)), (3, .int k29_3), (0, .ref b_o), (1, .int p_1), (2, .int p_2)]) hx hb dX12_first_96 hl (k := 1) rfl rfl (by decide +kernel) rfl ?_
                  clear hl
                  intro ls hl
                  have t_61 : (k38_4 + 1).toInt = k38_4.toInt + 1 := g5_iadd (a := k38_4.toInt) (b := 1) rfl (by decide +kernel) (by omega) (by omega)
                  refine lv_goto (tgt := 38) hx hb dX12_first_99 (by decide +kernel) ?_
                  exact ih_38_27 ((k38_4 + 1), k38_la, k38_bk, k38_va, k38_su, k38_ce, k38_ho, k38_wy, k38_bt, k38_ps, k38_tg, k38_sn, k38_se, k38_re, k38_pt) ls H locs (show Int.toNat (5 - (k38_4 + 1).toInt) < Int.toNat (5 - k38_4.toInt) from g_up (show k38_4.toInt < (k38_4 + 1).toInt by omega) (show k38_4.toInt < 5 by omega)) ⟨lv_sub hl [0, 2, 3, 4, 5] rfl, hP, hD, hS, ⟨by omega, by omega⟩, i_19, i_20, i_21, i_22, i_23, i_24, i_25, i_26⟩
                ·
                  exact absurd c_60 (by decide +kernel)
        ·
          exact absurd c_6 (by decide +kernel)
  ·
    have hJ9 := va_join (wr := [(b_se, (arJ G 13 v_se)), (b_re, (arJ G 400 v_re)), (b_pt, (arI G 200 v_pt))]) hP hD [0, 1] [2, 3, 4] rfl rfl (by decide +kernel) (by decide +kernel) hk1 hFc hP1 hD1
    clear hP hD hPc hDc hFc ht hvm hz1 hk1 hP1 hD1
    obtain ⟨hP, hD⟩ := hJ9
    refine g5_rs [(b_se, (arJ G 13 v_se)), (b_re, (arJ G 400 v_re)), (b_pt, (arI G 200 v_pt)), (b_o, (oc12 0 u_sa b_rf b_ro b_im b_ke u_fd b_tp u_td u_fr u_to u_so u_wo u_fa u_bd u_nc b_nl u_co b_op b_ar u_le b_pi b_pa u_pd u_od b_ws b_hw u_la b_se b_re u_bk u_va u_su u_ce u_ho u_wy u_bt u_ps b_pt u_tg u_sn b_ip u_ic b_ah b_be b_me u_wd b_tr b_ld u_st b_wn u_id)), (b_ro, (arI G 5740 v_ro))] hP hD ?_
    clear hP hD
    intro hP hD
    refine lv_if_eq (tgt := 25) hx hb dX12_first_10 (by decide +kernel) (fun c_62 => ?_) (fun c_62 => ?_)
    ·
      refine lv_iconst (v := (-1)) hx hb dX12_first_25 (by decide +kernel) ?_
      exact W.iret (v := (-1)) hx hb hr (fun t ht hW => ⟨⟨(-1), [(b_o, (oc12 0 u_sa b_rf b_ro b_im b_ke u_fd b_tp u_td u_fr u_to u_so u_wo u_fa u_bd u_nc b_nl u_co b_op b_ar u_le b_pi b_pa u_pd u_od b_ws b_hw u_la b_se b_re u_bk u_va u_su u_ce u_ho u_wy u_bt u_ps b_pt u_tg u_sn b_ip u_ic b_ah b_be b_me u_wd b_tr b_ld u_st b_wn u_id)), (b_ro, (arI G 5740 v_ro)), (b_se, (arJ G 13 v_se)), (b_re, (arJ G 400 v_re)), (b_pt, (arI G 200 v_pt))], rfl, ⟨(-1), 0, u_la, u_bk, u_va, u_su, u_ce, u_ho, u_wy, u_bt, u_ps, u_tg, u_sn, v_se, v_re, v_pt, h_u_la, h_u_bk, h_u_ce, h_u_ho, h_u_wy, h_u_bt, h_u_ps, r_pt, rfl, rfl⟩, by rw [ht]; exact hP.sub [3, 4, 0, 1, 2] rfl, hD.sub [3, 4, 0, 1, 2] (by decide +kernel) rfl⟩, hS.F ht⟩) hS.2.2 dX12_first_26
    ·
      exact absurd c_62 (by decide +kernel)
theorem dgX12_mark_0 : ∀ r ∈ ([(0, (.iconst 0, 1)), (1, (.istore_n 3, 1)), (2, (.iload_n 3, 1)), (3, (.iconst 4, 1)), (4, (.if_icmp .ge 48, 3)), (7, (.aload_n 0, 1)), (8, (.iload_n 1, 1)), (9, (.iload_n 3, 1)), (10, (.iload_n 2, 1)), (11, (.iconst 0, 1)), (12, (.invokevirtual 401, 3)), (15, (.iconst 0, 1)), (16, (.istore 4, 2)), (18, (.iload 4, 2)), (20, (.aload_n 0, 1)), (21, (.getfield 358, 3)), (24, (.if_icmp .ge 22, 3)), (27, (.aload_n 0, 1)), (28, (.getfield 85, 3)), (31, (.aload_n 0, 1)), (32, (.getfield 82, 3)), (35, (.iload 4, 2)), (37, (.iaload, 1)), (38, (.iconst 1, 1)), (39, (.bastore, 1)), (40, (.iinc 4 1, 3)), (43, (.goto (-25), 3)), (46, (.iinc 3 1, 3)), (49, (.goto (-47), 3)), (52, (.return_, 1))] : List (Nat × (Instr × Nat))), decode cX12_mark r.1 = .ok r.2 := by decide +kernel
theorem dX12_mark_0 : decode cX12_mark 0 = .ok (.iconst 0, 1) := dgX12_mark_0 (0, (.iconst 0, 1)) (List.mem_of_getElem? (i := 0) rfl)
theorem dX12_mark_1 : decode cX12_mark 1 = .ok (.istore_n 3, 1) := dgX12_mark_0 (1, (.istore_n 3, 1)) (List.mem_of_getElem? (i := 1) rfl)
theorem dX12_mark_2 : decode cX12_mark 2 = .ok (.iload_n 3, 1) := dgX12_mark_0 (2, (.iload_n 3, 1)) (List.mem_of_getElem? (i := 2) rfl)
theorem dX12_mark_3 : decode cX12_mark 3 = .ok (.iconst 4, 1) := dgX12_mark_0 (3, (.iconst 4, 1)) (List.mem_of_getElem? (i := 3) rfl)
theorem dX12_mark_4 : decode cX12_mark 4 = .ok (.if_icmp .ge 48, 3) := dgX12_mark_0 (4, (.if_icmp .ge 48, 3)) (List.mem_of_getElem? (i := 4) rfl)
theorem dX12_mark_7 : decode cX12_mark 7 = .ok (.aload_n 0, 1) := dgX12_mark_0 (7, (.aload_n 0, 1)) (List.mem_of_getElem? (i := 5) rfl)
theorem dX12_mark_8 : decode cX12_mark 8 = .ok (.iload_n 1, 1) := dgX12_mark_0 (8, (.iload_n 1, 1)) (List.mem_of_getElem? (i := 6) rfl)
theorem dX12_mark_9 : decode cX12_mark 9 = .ok (.iload_n 3, 1) := dgX12_mark_0 (9, (.iload_n 3, 1)) (List.mem_of_getElem? (i := 7) rfl)
theorem dX12_mark_10 : decode cX12_mark 10 = .ok (.iload_n 2, 1) := dgX12_mark_0 (10, (.iload_n 2, 1)) (List.mem_of_getElem? (i := 8) rfl)
theorem dX12_mark_11 : decode cX12_mark 11 = .ok (.iconst 0, 1) := dgX12_mark_0 (11, (.iconst 0, 1)) (List.mem_of_getElem? (i := 9) rfl)
theorem dX12_mark_12 : decode cX12_mark 12 = .ok (.invokevirtual 401, 3) := dgX12_mark_0 (12, (.invokevirtual 401, 3)) (List.mem_of_getElem? (i := 10) rfl)
theorem dX12_mark_15 : decode cX12_mark 15 = .ok (.iconst 0, 1) := dgX12_mark_0 (15, (.iconst 0, 1)) (List.mem_of_getElem? (i := 11) rfl)
theorem dX12_mark_16 : decode cX12_mark 16 = .ok (.istore 4, 2) := dgX12_mark_0 (16, (.istore 4, 2)) (List.mem_of_getElem? (i := 12) rfl)
theorem dX12_mark_18 : decode cX12_mark 18 = .ok (.iload 4, 2) := dgX12_mark_0 (18, (.iload 4, 2)) (List.mem_of_getElem? (i := 13) rfl)
theorem dX12_mark_20 : decode cX12_mark 20 = .ok (.aload_n 0, 1) := dgX12_mark_0 (20, (.aload_n 0, 1)) (List.mem_of_getElem? (i := 14) rfl)
theorem dX12_mark_21 : decode cX12_mark 21 = .ok (.getfield 358, 3) := dgX12_mark_0 (21, (.getfield 358, 3)) (List.mem_of_getElem? (i := 15) rfl)
theorem dX12_mark_24 : decode cX12_mark 24 = .ok (.if_icmp .ge 22, 3) := dgX12_mark_0 (24, (.if_icmp .ge 22, 3)) (List.mem_of_getElem? (i := 16) rfl)
theorem dX12_mark_27 : decode cX12_mark 27 = .ok (.aload_n 0, 1) := dgX12_mark_0 (27, (.aload_n 0, 1)) (List.mem_of_getElem? (i := 17) rfl)
theorem dX12_mark_28 : decode cX12_mark 28 = .ok (.getfield 85, 3) := dgX12_mark_0 (28, (.getfield 85, 3)) (List.mem_of_getElem? (i := 18) rfl)
theorem dX12_mark_31 : decode cX12_mark 31 = .ok (.aload_n 0, 1) := dgX12_mark_0 (31, (.aload_n 0, 1)) (List.mem_of_getElem? (i := 19) rfl)
theorem dX12_mark_32 : decode cX12_mark 32 = .ok (.getfield 82, 3) := dgX12_mark_0 (32, (.getfield 82, 3)) (List.mem_of_getElem? (i := 20) rfl)
theorem dX12_mark_35 : decode cX12_mark 35 = .ok (.iload 4, 2) := dgX12_mark_0 (35, (.iload 4, 2)) (List.mem_of_getElem? (i := 21) rfl)
theorem dX12_mark_37 : decode cX12_mark 37 = .ok (.iaload, 1) := dgX12_mark_0 (37, (.iaload, 1)) (List.mem_of_getElem? (i := 22) rfl)
theorem dX12_mark_38 : decode cX12_mark 38 = .ok (.iconst 1, 1) := dgX12_mark_0 (38, (.iconst 1, 1)) (List.mem_of_getElem? (i := 23) rfl)
theorem dX12_mark_39 : decode cX12_mark 39 = .ok (.bastore, 1) := dgX12_mark_0 (39, (.bastore, 1)) (List.mem_of_getElem? (i := 24) rfl)
theorem dX12_mark_40 : decode cX12_mark 40 = .ok (.iinc 4 1, 3) := dgX12_mark_0 (40, (.iinc 4 1, 3)) (List.mem_of_getElem? (i := 25) rfl)
theorem dX12_mark_43 : decode cX12_mark 43 = .ok (.goto (-25), 3) := dgX12_mark_0 (43, (.goto (-25), 3)) (List.mem_of_getElem? (i := 26) rfl)
theorem dX12_mark_46 : decode cX12_mark 46 = .ok (.iinc 3 1, 3) := dgX12_mark_0 (46, (.iinc 3 1, 3)) (List.mem_of_getElem? (i := 27) rfl)
theorem dX12_mark_49 : decode cX12_mark 49 = .ok (.goto (-47), 3) := dgX12_mark_0 (49, (.goto (-47), 3)) (List.mem_of_getElem? (i := 28) rfl)
theorem dX12_mark_52 : decode cX12_mark 52 = .ok (.return_, 1) := dgX12_mark_0 (52, (.return_, 1)) (List.mem_of_getElem? (i := 29) rfl)
theorem fl_X12_85 : Cond.fieldLink RX12 85 "LateGlassModel" "isPoint" "[Z" ∈ tblG := tg 1244 (by decide +kernel) (by decide +kernel)
set_option maxHeartbeats 4000000 in
set_option maxRecDepth 100000 in
theorem n_mark (l : Launch) (G : g5_G) (b_o b_ro b_se b_re b_pt b_ip b_rf b_im b_ke b_tp b_nl b_op b_ar b_pi b_pa b_ws b_hw b_ah b_be b_me b_tr b_ld b_wn : Nat) (sz : Nat) (u_th : Int32) (u_sa : Int32) (u_fd : Int32) (u_td : Int32) (u_fr : Int32) (u_to : Int32) (u_so : Int32) (u_fa : Int32) (u_bd : Int32) (u_nc : Int32) (u_co : Int32) (u_le : Int32) (u_pd : Int32) (u_od : Int32) (u_la : Int32) (u_bk : Int32) (u_ce : Int32) (u_ho : Int32) (u_wy : Int32) (u_bt : Int32) (u_ps : Int32) (u_tg : Int32) (u_sn : Int32) (u_ic : Int32) (u_wd : Int32) (u_id : Int32) (p_1 : Int32) (p_2 : Int32) (u_wo : Int64) (u_va : Int64) (u_su : Int64) (u_st : Int64) (v_ro : Nat → Int32) (v_se : Nat → Int64) (v_re : Nat → Int64) (v_pt : Nat → Int32) (v_ip : Nat → Int32) (h_u_td : 0 ≤ u_td.toInt ∧ u_td.toInt ≤ 400) (h_u_fr : 0 ≤ u_fr.toInt ∧ u_fr.toInt ≤ 400) (h_u_to : 0 ≤ u_to.toInt ∧ u_to.toInt ≤ 400) (h_u_bd : 0 ≤ u_bd.toInt ∧ u_bd.toInt ≤ 1) (h_u_nc : 0 ≤ u_nc.toInt ∧ u_nc.toInt ≤ 12) (h_u_co : 0 ≤ u_co.toInt ∧ u_co.toInt ≤ 400) (h_u_pd : 0 ≤ u_pd.toInt ∧ u_pd.toInt ≤ 400) (h_u_la : 0 ≤ u_la.toInt ∧ u_la.toInt ≤ 4840) (h_u_bk : 0 ≤ u_bk.toInt ∧ u_bk.toInt ≤ 1) (h_u_ce : 0 ≤ u_ce.toInt ∧ u_ce.toInt ≤ 63) (h_u_ho : 0 ≤ u_ho.toInt ∧ u_ho.toInt ≤ 23) (h_u_wy : 0 ≤ u_wy.toInt ∧ u_wy.toInt ≤ 3) (h_u_bt : 0 ≤ u_bt.toInt ∧ u_bt.toInt ≤ 1000000) (h_u_ps : 0 ≤ u_ps.toInt ∧ u_ps.toInt ≤ 200) (h_u_ic : 0 ≤ u_ic.toInt ∧ u_ic.toInt ≤ 1) (h_u_id : 0 ≤ u_id.toInt ∧ u_id.toInt ≤ 1) (h_p_1 : 0 ≤ p_1.toInt ∧ p_1.toInt ≤ 63) (h_p_2 : 0 ≤ p_2.toInt ∧ p_2.toInt ≤ 23) (r_ro : MI v_ro) (r_pt : PTI v_pt) : Met l yX12_mark (wsG yX12_mark cX12_mark 5 none) ({ frames := 7, cells := 0, slots := 0, locals := 176 }) (va_Pc [.ref b_o, .int p_1, .int p_2] (g5_P G [(b_o, (oc12 u_th u_sa b_rf b_ro b_im b_ke u_fd b_tp u_td u_fr u_to u_so u_wo u_fa u_bd u_nc b_nl u_co b_op b_ar u_le b_pi b_pa u_pd u_od b_ws b_hw u_la b_se b_re u_bk u_va u_su u_ce u_ho u_wy u_bt u_ps b_pt u_tg u_sn b_ip u_ic b_ah b_be b_me u_wd b_tr b_ld u_st b_wn u_id)), (b_ro, (arI G 5740 v_ro)), (b_se, (arJ G 13 v_se)), (b_re, (arJ G 400 v_re)), (b_pt, (arI G 200 v_pt)), (b_ip, (arZ G 1536 v_ip))] sz)) (va_Qv (fun (u : va_W) => (∃ (o_la : Int32) (o_bk : Int32) (o_va : Int64) (o_su : Int64) (o_ce : Int32) (o_ho : Int32) (o_wy : Int32) (o_bt : Int32) (o_ps : Int32) (o_tg : Int32) (o_sn : Int32) (o_se : Nat → Int64) (o_re : Nat → Int64) (o_pt : Nat → Int32) (o_ip : Nat → Int32), (0 ≤ o_la.toInt ∧ o_la.toInt ≤ 4840) ∧ (0 ≤ o_bk.toInt ∧ o_bk.toInt ≤ 1) ∧ (0 ≤ o_ce.toInt ∧ o_ce.toInt ≤ 63) ∧ (0 ≤ o_ho.toInt ∧ o_ho.toInt ≤ 23) ∧ (0 ≤ o_wy.toInt ∧ o_wy.toInt ≤ 3) ∧ (0 ≤ o_bt.toInt ∧ o_bt.toInt ≤ 1000000) ∧ (0 ≤ o_ps.toInt ∧ o_ps.toInt ≤ 200) ∧ (PTI o_pt) ∧ (u = [(b_o, (oc12 u_th u_sa b_rf b_ro b_im b_ke u_fd b_tp u_td u_fr u_to u_so u_wo u_fa u_bd u_nc b_nl u_co b_op b_ar u_le b_pi b_pa u_pd u_od b_ws b_hw o_la b_se b_re o_bk o_va o_su o_ce o_ho o_wy o_bt o_ps b_pt o_tg o_sn b_ip u_ic b_ah b_be b_me u_wd b_tr b_ld u_st b_wn u_id)), (b_ro, (arI G 5740 v_ro)), (b_se, (arJ G 13 o_se)), (b_re, (arJ G 400 o_re)), (b_pt, (arI G 200 o_pt)), (b_ip, (arZ G 1536 o_ip))]))) (g5_B G (va_A [(b_o, (oc12 u_th u_sa b_rf b_ro b_im b_ke u_fd b_tp u_td u_fr u_to u_so u_wo u_fa u_bd u_nc b_nl u_co b_op b_ar u_le b_pi b_pa u_pd u_od b_ws b_hw u_la b_se b_re u_bk u_va u_su u_ce u_ho u_wy u_bt u_ps b_pt u_tg u_sn b_ip u_ic b_ah b_be b_me u_wd b_tr b_ld u_st b_wn u_id)), (b_ro, (arI G 5740 v_ro)), (b_se, (arJ G 13 v_se)), (b_re, (arJ G 400 v_re)), (b_pt, (arI G 200 v_pt)), (b_ip, (arZ G 1536 v_ip))] sz)) (va_A [(b_o, (oc12 u_th u_sa b_rf b_ro b_im b_ke u_fd b_tp u_td u_fr u_to u_so u_wo u_fa u_bd u_nc b_nl u_co b_op b_ar u_le b_pi b_pa u_pd u_od b_ws b_hw u_la b_se b_re u_bk u_va u_su u_ce u_ho u_wy u_bt u_ps b_pt u_tg u_sn b_ip u_ic b_ah b_be b_me u_wd b_tr b_ld u_st b_wn u_id)), (b_ro, (arI G 5740 v_ro)), (b_se, (arJ G 13 v_se)), (b_re, (arJ G 400 v_re)), (b_pt, (arI G 200 v_pt)), (b_ip, (arZ G 1536 v_ip))] sz)) 0 0 (va_A [(b_o, (oc12 u_th u_sa b_rf b_ro b_im b_ke u_fd b_tp u_td u_fr u_to u_so u_wo u_fa u_bd u_nc b_nl u_co b_op b_ar u_le b_pi b_pa u_pd u_od b_ws b_hw u_la b_se b_re u_bk u_va u_su u_ce u_ho u_wy u_bt u_ps b_pt u_tg u_sn b_ip u_ic b_ah b_be b_me u_wd b_tr b_ld u_st b_wn u_id)), (b_ro, (arI G 5740 v_ro)), (b_se, (arJ G 13 v_se)), (b_re, (arJ G 400 v_re)), (b_pt, (arI G 200 v_pt)), (b_ip, (arZ G 1536 v_ip))] sz) := by
  refine Met.ofW (cc := cX12_mark) (maxL := 5) (ret := none) (by decide +kernel) rfl ?_
  intro p e s m args below meth c s₁ B hml hv
  obtain ⟨rfl, hsz, hP, hK, hD0, hN, hT⟩ := hv
  have hx := B.exec
  have hb := B.bytes
  have hr := B.returns
  have hts : ∀ w ∈ tblG, w.before _ s = true := fun w h => atoms_spec (ws := (wsG yX12_mark cX12_mark 5 none)) B.pre w (List.mem_cons_of_mem _ h)
  have hown : s.vm.findClass RX12 = some m.cls := findClass_of_methodNamed B.named
  have hlocks := B.notSynchronized
  subst hsz
  have hD := hD0.self (sz := s.heap.size)
  generalize hAe : va_A [(b_o, (oc12 u_th u_sa b_rf b_ro b_im b_ke u_fd b_tp u_td u_fr u_to u_so u_wo u_fa u_bd u_nc b_nl u_co b_op b_ar u_le b_pi b_pa u_pd u_od b_ws b_hw u_la b_se b_re u_bk u_va u_su u_ce u_ho u_wy u_bt u_ps b_pt u_tg u_sn b_ip u_ic b_ah b_be b_me u_wd b_tr b_ld u_st b_wn u_id)), (b_ro, (arI G 5740 v_ro)), (b_se, (arJ G 13 v_se)), (b_re, (arJ G 400 v_re)), (b_pt, (arI G 200 v_pt)), (b_ip, (arZ G 1536 v_ip))] s.heap.size = A at hD hT ⊢
  have hA : ∀ q : Nat, s.heap.size ≤ q → A q := fun q h => by rw [← hAe]; exact Or.inr h
  have hS : va_S A s.heap s.heap [] := va_S.rf
  replace hP : va_P G.1 vwCl [(b_o, (oc12 u_th u_sa b_rf b_ro b_im b_ke u_fd b_tp u_td u_fr u_to u_so u_wo u_fa u_bd u_nc b_nl u_co b_op b_ar u_le b_pi b_pa u_pd u_od b_ws b_hw u_la b_se b_re u_bk u_va u_su u_ce u_ho u_wy u_bt u_ps b_pt u_tg u_sn b_ip u_ic b_ah b_be b_me u_wd b_tr b_ld u_st b_wn u_id)), (b_ro, (arI G 5740 v_ro)), (b_se, (arJ G 13 v_se)), (b_re, (arJ G 400 v_re)), (b_pt, (arI G 200 v_pt)), (b_ip, (arZ G 1536 v_ip))] s.heap := hP
  have hl := lv_entry ([.ref b_o, .int p_1, .int p_2]) (n := 5) (Nat.le_of_ble_eq_true rfl)
  rw [lg_entry_eq]
  generalize (lg_sl ([.ref b_o, .int p_1, .int p_2]) ++ List.replicate (5 - (lg_sl ([.ref b_o, .int p_1, .int p_2])).length) Slot.unset).toArray = ls at hl ⊢
  replace hl : lv_has ls 5 [(0, .ref b_o), (1, .int p_1), (2, .int p_2)] := hl
  refine lv_iconst (v := 0) hx hb dX12_mark_0 (by decide +kernel) ?_
  refine lv_istore_n (lv' := [(3, .int 0), (0, .ref b_o), (1, .int p_1), (2, .int p_2)]) hx hb dX12_mark_1 rfl hl (by decide +kernel) rfl ?_
  clear hl
  intro ls hl
  refine g5_loop (α := (Int32) × (Int32) × (Int32) × (Int64) × (Int64) × (Int32) × (Int32) × (Int32) × (Int32) × (Int32) × (Int32) × (Int32) × (Nat → Int64) × (Nat → Int64) × (Nat → Int32) × (Nat → Int32)) (fun (q : (Int32) × (Int32) × (Int32) × (Int64) × (Int64) × (Int32) × (Int32) × (Int32) × (Int32) × (Int32) × (Int32) × (Int32) × (Nat → Int64) × (Nat → Int64) × (Nat → Int32) × (Nat → Int32)) (ls : Array Slot) (H : Heap) (locs : List Loc) => match q with | (k2_3, k2_la, k2_bk, k2_va, k2_su, k2_ce, k2_ho, k2_wy, k2_bt, k2_ps, k2_tg, k2_sn, k2_se, k2_re, k2_pt, k2_ip) => lv_has ls 5 [(3, .int k2_3), (0, .ref b_o), (1, .int p_1), (2, .int p_2)] ∧ va_P G.1 vwCl [(b_o, (oc12 u_th u_sa b_rf b_ro b_im b_ke u_fd b_tp u_td u_fr u_to u_so u_wo u_fa u_bd u_nc b_nl u_co b_op b_ar u_le b_pi b_pa u_pd u_od b_ws b_hw k2_la b_se b_re k2_bk k2_va k2_su k2_ce k2_ho k2_wy k2_bt k2_ps b_pt k2_tg k2_sn b_ip u_ic b_ah b_be b_me u_wd b_tr b_ld u_st b_wn u_id)), (b_ro, (arI G 5740 v_ro)), (b_se, (arJ G 13 k2_se)), (b_re, (arJ G 400 k2_re)), (b_pt, (arI G 200 k2_pt)), (b_ip, (arZ G 1536 k2_ip))] H ∧ va_D A [(b_o, (oc12 u_th u_sa b_rf b_ro b_im b_ke u_fd b_tp u_td u_fr u_to u_so u_wo u_fa u_bd u_nc b_nl u_co b_op b_ar u_le b_pi b_pa u_pd u_od b_ws b_hw k2_la b_se b_re k2_bk k2_va k2_su k2_ce k2_ho k2_wy k2_bt k2_ps b_pt k2_tg k2_sn b_ip u_ic b_ah b_be b_me u_wd b_tr b_ld u_st b_wn u_id)), (b_ro, (arI G 5740 v_ro)), (b_se, (arJ G 13 k2_se)), (b_re, (arJ G 400 k2_re)), (b_pt, (arI G 200 k2_pt)), (b_ip, (arZ G 1536 k2_ip))] ∧ va_S A s.heap H locs ∧ (0 ≤ k2_3.toInt ∧ k2_3.toInt ≤ 4) ∧ (0 ≤ k2_la.toInt ∧ k2_la.toInt ≤ 4840) ∧ (0 ≤ k2_bk.toInt ∧ k2_bk.toInt ≤ 1) ∧ (0 ≤ k2_ce.toInt ∧ k2_ce.toInt ≤ 63) ∧ (0 ≤ k2_ho.toInt ∧ k2_ho.toInt ≤ 23) ∧ (0 ≤ k2_wy.toInt ∧ k2_wy.toInt ≤ 3) ∧ (0 ≤ k2_bt.toInt ∧ k2_bt.toInt ≤ 1000000) ∧ (0 ≤ k2_ps.toInt ∧ k2_ps.toInt ≤ 200) ∧ (PTI k2_pt)) (fun (q : (Int32) × (Int32) × (Int32) × (Int64) × (Int64) × (Int32) × (Int32) × (Int32) × (Int32) × (Int32) × (Int32) × (Int32) × (Nat → Int64) × (Nat → Int64) × (Nat → Int32) × (Nat → Int32)) => match q with | (k2_3, k2_la, k2_bk, k2_va, k2_su, k2_ce, k2_ho, k2_wy, k2_bt, k2_ps, k2_tg, k2_sn, k2_se, k2_re, k2_pt, k2_ip) => Int.toNat (4 - k2_3.toInt)) (0, u_la, u_bk, u_va, u_su, u_ce, u_ho, u_wy, u_bt, u_ps, u_tg, u_sn, v_se, v_re, v_pt, v_ip) ⟨lv_sub hl [0, 1, 2, 3] rfl, hP, hD, hS, ⟨by decide, by decide⟩, h_u_la, h_u_bk, h_u_ce, h_u_ho, h_u_wy, h_u_bt, h_u_ps, r_pt⟩ ?_
  rintro ⟨k2_3, k2_la, k2_bk, k2_va, k2_su, k2_ce, k2_ho, k2_wy, k2_bt, k2_ps, k2_tg, k2_sn, k2_se, k2_re, k2_pt, k2_ip⟩ ls H locs ⟨hl, hP, hD, hS, (i_1 : 0 ≤ k2_3.toInt ∧ k2_3.toInt ≤ 4), (i_2 : 0 ≤ k2_la.toInt ∧ k2_la.toInt ≤ 4840), (i_3 : 0 ≤ k2_bk.toInt ∧ k2_bk.toInt ≤ 1), (i_4 : 0 ≤ k2_ce.toInt ∧ k2_ce.toInt ≤ 63), (i_5 : 0 ≤ k2_ho.toInt ∧ k2_ho.toInt ≤ 23), (i_6 : 0 ≤ k2_wy.toInt ∧ k2_wy.toInt ≤ 3), (i_7 : 0 ≤ k2_bt.toInt ∧ k2_bt.toInt ≤ 1000000), (i_8 : 0 ≤ k2_ps.toInt ∧ k2_ps.toInt ≤ 200), (i_9 : PTI k2_pt)⟩ ih_2_10
  replace hl : lv_has ls 5 [(3, .int k2_3), (0, .ref b_o), (1, .int p_1), (2, .int p_2)] := hl
  refine g5_rs [(b_o, (oc12 u_th u_sa b_rf b_ro b_im b_ke u_fd b_tp u_td u_fr u_to u_so u_wo u_fa u_bd u_nc b_nl u_co b_op b_ar u_le b_pi b_pa u_pd u_od b_ws b_hw k2_la b_se b_re k2_bk k2_va k2_su k2_ce k2_ho k2_wy k2_bt k2_ps b_pt k2_tg k2_sn b_ip u_ic b_ah b_be b_me u_wd b_tr b_ld u_st b_wn u_id)), (b_ro, (arI G 5740 v_ro)), (b_se, (arJ G 13 k2_se)), (b_re, (arJ G 400 k2_re)), (b_pt, (arI G 200 k2_pt)), (b_ip, (arZ G 1536 k2_ip))] hP hD ?_
  clear hP hD
  intro hP hD
  refine lv_iload_n hx hb dX12_mark_2 rfl (lv_at hl 0 rfl) ?_
  refine lv_iconst (v := 4) hx hb dX12_mark_3 (by decide +kernel) ?_
  refine lv_icmp_ge (tgt := 52) hx hb dX12_mark_4 (by decide +kernel) (fun c_11 => ?_) (fun c_11 => ?_)
  ·
    have i_11 : k2_3.toInt ≥ 4 := g5_ge (a := k2_3.toInt) (b := 4) rfl (by decide +kernel) c_11
    exact W.vret hx hb hr (fun t ht hW => ⟨⟨[(b_o, (oc12 u_th u_sa b_rf b_ro b_im b_ke u_fd b_tp u_td u_fr u_to u_so u_wo u_fa u_bd u_nc b_nl u_co b_op b_ar u_le b_pi b_pa u_pd u_od b_ws b_hw k2_la b_se b_re k2_bk k2_va k2_su k2_ce k2_ho k2_wy k2_bt k2_ps b_pt k2_tg k2_sn b_ip u_ic b_ah b_be b_me u_wd b_tr b_ld u_st b_wn u_id)), (b_ro, (arI G 5740 v_ro)), (b_se, (arJ G 13 k2_se)), (b_re, (arJ G 400 k2_re)), (b_pt, (arI G 200 k2_pt)), (b_ip, (arZ G 1536 k2_ip))], rfl, ⟨k2_la, k2_bk, k2_va, k2_su, k2_ce, k2_ho, k2_wy, k2_bt, k2_ps, k2_tg, k2_sn, k2_se, k2_re, k2_pt, k2_ip, i_2, i_3, i_4, i_5, i_6, i_7, i_8, i_9, rfl⟩, by rw [ht]; exact hP.sub [0, 1, 2, 3, 4, 5] rfl, hD.sub [0, 1, 2, 3, 4, 5] (by decide +kernel) rfl⟩, hS.F ht⟩) hS.2.2 dX12_mark_52
  ·
    have i_11 : k2_3.toInt < 4 := g5_geN (a := k2_3.toInt) (b := 4) rfl (by decide +kernel) c_11
    refine lv_aload_n hx hb dX12_mark_7 rfl (lv_at hl 1 rfl) ?_
    refine lv_iload_n hx hb dX12_mark_8 rfl (lv_at hl 2 rfl) ?_
    refine lv_iload_n hx hb dX12_mark_9 rfl (lv_at hl 0 rfl) ?_
    refine lv_iload_n hx hb dX12_mark_10 rfl (lv_at hl 3 rfl) ?_
    refine lv_iconst (v := 0) hx hb dX12_mark_11 (by decide +kernel) ?_
    obtain ⟨hPc, hDc, hFc⟩ := g5_sub3 (wc := [(b_o, (oc12 u_th u_sa b_rf b_ro b_im b_ke u_fd b_tp u_td u_fr u_to u_so u_wo u_fa u_bd u_nc b_nl u_co b_op b_ar u_le b_pi b_pa u_pd u_od b_ws b_hw k2_la b_se b_re k2_bk k2_va k2_su k2_ce k2_ho k2_wy k2_bt k2_ps b_pt k2_tg k2_sn b_ip u_ic b_ah b_be b_me u_wd b_tr b_ld u_st b_wn u_id)), (b_ro, (arI G 5740 v_ro)), (b_se, (arJ G 13 k2_se)), (b_re, (arJ G 400 k2_re)), (b_pt, (arI G 200 k2_pt))]) hP hD hS hA [0, 1, 2, 3, 4] (by decide +kernel) rfl
    refine va_callv (va_runV (As := [.int p_1, .int k2_3, .int p_2, .int 0]) (rest := []) ⟨hx, hb, hml, hown, hts⟩ (n_go l G b_o b_ro b_se b_re b_pt b_rf b_im b_ke b_tp b_nl b_op b_ar b_pi b_pa b_ws b_hw b_ip b_ah b_be b_me b_tr b_ld b_wn H.size u_th u_sa u_fd u_td u_fr u_to u_so u_fa u_bd u_nc u_co u_le u_pd u_od k2_la k2_bk k2_ce k2_ho k2_wy k2_bt k2_ps k2_tg k2_sn u_ic u_wd u_id p_1 k2_3 p_2 0 u_wo k2_va k2_su u_st v_ro k2_se k2_re k2_pt h_u_td h_u_fr h_u_to h_u_bd h_u_nc h_u_co h_u_pd i_2 i_3 i_4 i_5 i_6 i_7 i_8 h_u_ic h_u_id h_p_1 ⟨by omega, by omega⟩ h_p_2 (r_ro) (i_9)) (cwV 4 hts gV_X12_401 rfl rfl rfl hv_X12_go ⟨Nat.le_of_ble_eq_true rfl, Nat.le_of_ble_eq_true rfl⟩) (g5_preV hPc hK hDc hN hT hS hFc (ci := 12) (q0 := 0) rfl rfl) rfl rfl hl.1 rfl (lv_room (Nat.le_of_ble_eq_true rfl)) dX12_mark_12 ⟨Nat.le_of_ble_eq_true rfl, Nat.le_of_ble_eq_true rfl⟩) hS (fun q _ h => hFc q h) hFc (fun u t H locs ht hvm hw hB hz1 hk1 hS => ?_)
    obtain ⟨hP1, hD1⟩ := hB
    have hP1 := g5_ht ht hP1
    obtain ⟨z20, z21, z22, z23, z24, z25, z26, z27, z28, z29, z30, z31, z32, z33, (i_12 : 0 ≤ z20.toInt ∧ z20.toInt ≤ 4840), (i_13 : 0 ≤ z21.toInt ∧ z21.toInt ≤ 1), (i_14 : 0 ≤ z24.toInt ∧ z24.toInt ≤ 63), (i_15 : 0 ≤ z25.toInt ∧ z25.toInt ≤ 23), (i_16 : 0 ≤ z26.toInt ∧ z26.toInt ≤ 3), (i_17 : 0 ≤ z27.toInt ∧ z27.toInt ≤ 1000000), (i_18 : 0 ≤ z28.toInt ∧ z28.toInt ≤ 200), (i_19 : PTI z33), rfl⟩ := hw
    have hJ9 := va_join (wr := [(b_ip, (arZ G 1536 k2_ip))]) hP hD [0, 1, 2, 3, 4] [5] rfl rfl (by decide +kernel) (by decide +kernel) hk1 hFc hP1 hD1
    clear hP hD hPc hDc hFc ht hvm hz1 hk1 hP1 hD1
    obtain ⟨hP, hD⟩ := hJ9
    refine g5_rs [(b_ip, (arZ G 1536 k2_ip)), (b_o, (oc12 u_th u_sa b_rf b_ro b_im b_ke u_fd b_tp u_td u_fr u_to u_so u_wo u_fa u_bd u_nc b_nl u_co b_op b_ar u_le b_pi b_pa u_pd u_od b_ws b_hw z20 b_se b_re z21 z22 z23 z24 z25 z26 z27 z28 b_pt z29 z30 b_ip u_ic b_ah b_be b_me u_wd b_tr b_ld u_st b_wn u_id)), (b_ro, (arI G 5740 v_ro)), (b_se, (arJ G 13 z31)), (b_re, (arJ G 400 z32)), (b_pt, (arI G 200 z33))] hP hD ?_
    clear hP hD
    intro hP hD
    refine lv_iconst (v := 0) hx hb dX12_mark_15 (by decide +kernel) ?_
    refine lv_istore (lv' := [(4, .int 0), (3, .int k2_3), (0, .ref b_o), (1, .int p_1), (2, .int p_2)]) hx hb dX12_mark_16 hl (by decide +kernel) rfl ?_
    clear hl
    intro ls hl
    refine g5_loop (α := (Int32) × (Nat → Int32)) (fun (q : (Int32) × (Nat → Int32)) (ls : Array Slot) (H : Heap) (locs : List Loc) => match q with | (k18_4, k18_ip) => lv_has ls 5 [(4, .int k18_4), (3, .int k2_3), (0, .ref b_o), (1, .int p_1), (2, .int p_2)] ∧ va_P G.1 vwCl [(b_ip, (arZ G 1536 k18_ip)), (b_o, (oc12 u_th u_sa b_rf b_ro b_im b_ke u_fd b_tp u_td u_fr u_to u_so u_wo u_fa u_bd u_nc b_nl u_co b_op b_ar u_le b_pi b_pa u_pd u_od b_ws b_hw z20 b_se b_re z21 z22 z23 z24 z25 z26 z27 z28 b_pt z29 z30 b_ip u_ic b_ah b_be b_me u_wd b_tr b_ld u_st b_wn u_id)), (b_ro, (arI G 5740 v_ro)), (b_se, (arJ G 13 z31)), (b_re, (arJ G 400 z32)), (b_pt, (arI G 200 z33))] H ∧ va_D A [(b_ip, (arZ G 1536 k18_ip)), (b_o, (oc12 u_th u_sa b_rf b_ro b_im b_ke u_fd b_tp u_td u_fr u_to u_so u_wo u_fa u_bd u_nc b_nl u_co b_op b_ar u_le b_pi b_pa u_pd u_od b_ws b_hw z20 b_se b_re z21 z22 z23 z24 z25 z26 z27 z28 b_pt z29 z30 b_ip u_ic b_ah b_be b_me u_wd b_tr b_ld u_st b_wn u_id)), (b_ro, (arI G 5740 v_ro)), (b_se, (arJ G 13 z31)), (b_re, (arJ G 400 z32)), (b_pt, (arI G 200 z33))] ∧ va_S A s.heap H locs ∧ (0 ≤ k18_4.toInt ∧ k18_4.toInt ≤ 200)) (fun (q : (Int32) × (Nat → Int32)) => match q with | (k18_4, k18_ip) => Int.toNat (200 - k18_4.toInt)) (0, k2_ip) ⟨lv_sub hl [0, 1, 2, 3, 4] rfl, hP, hD, hS, ⟨by decide, by decide⟩⟩ ?_
    rintro ⟨k18_4, k18_ip⟩ ls H locs ⟨hl, hP, hD, hS, (i_34 : 0 ≤ k18_4.toInt ∧ k18_4.toInt ≤ 200)⟩ ih_18_35
    replace hl : lv_has ls 5 [(4, .int k18_4), (3, .int k2_3), (0, .ref b_o), (1, .int p_1), (2, .int p_2)] := hl
    refine g5_rs [(b_ip, (arZ G 1536 k18_ip)), (b_o, (oc12 u_th u_sa b_rf b_ro b_im b_ke u_fd b_tp u_td u_fr u_to u_so u_wo u_fa u_bd u_nc b_nl u_co b_op b_ar u_le b_pi b_pa u_pd u_od b_ws b_hw z20 b_se b_re z21 z22 z23 z24 z25 z26 z27 z28 b_pt z29 z30 b_ip u_ic b_ah b_be b_me u_wd b_tr b_ld u_st b_wn u_id)), (b_ro, (arI G 5740 v_ro)), (b_se, (arJ G 13 z31)), (b_re, (arJ G 400 z32)), (b_pt, (arI G 200 z33))] hP hD ?_
    clear hP hD
    intro hP hD
    refine lv_iload hx hb dX12_mark_18 (lv_at hl 0 rfl) ?_
    refine lv_aload_n hx hb dX12_mark_20 rfl (lv_at hl 2 rfl) ?_
    refine va_get (D := G.1) (ci := 12) (v := .int z28) (C := RX12) (T := TX12) (N := 52) hx hb hts inG_X12 hown hK hP 1 rfl rfl 37 (by decide +kernel) (hts _ fl_X12_358) (fun _ h9 => h9) rfl dX12_mark_21 ?_
    refine lv_icmp_ge (tgt := 46) hx hb dX12_mark_24 (by decide +kernel) (fun c_36 => ?_) (fun c_36 => ?_)
    ·
      have i_36 : k18_4.toInt ≥ z28.toInt := g5_ge (a := k18_4.toInt) (b := z28.toInt) rfl rfl c_36
      refine lv_iinc (v := (k2_3 + 1)) (lv' := [(3, .int (k2_3 + 1)), (4, .int k18_4), (0, .ref b_o), (1, .int p_1), (2, .int p_2)]) hx hb dX12_mark_46 hl (k := 1) rfl rfl (by decide +kernel) rfl ?_
      clear hl
      intro ls hl
      have t_37 : (k2_3 + 1).toInt = k2_3.toInt + 1 := g5_iadd (a := k2_3.toInt) (b := 1) rfl (by decide +kernel) (by omega) (by omega)
      refine lv_goto (tgt := 2) hx hb dX12_mark_49 (by decide +kernel) ?_
      exact ih_2_10 ((k2_3 + 1), z20, z21, z22, z23, z24, z25, z26, z27, z28, z29, z30, z31, z32, z33, k18_ip) ls H locs (show Int.toNat (4 - (k2_3 + 1).toInt) < Int.toNat (4 - k2_3.toInt) from g_up (show k2_3.toInt < (k2_3 + 1).toInt by omega) (show k2_3.toInt < 4 by omega)) ⟨lv_sub hl [0, 2, 3, 4] rfl, hP.sub [1, 2, 3, 4, 5, 0] rfl, hD.sub [1, 2, 3, 4, 5, 0] (by decide +kernel) rfl, hS, ⟨by omega, by omega⟩, i_12, i_13, i_14, i_15, i_16, i_17, i_18, i_19⟩
    ·
      have i_36 : k18_4.toInt < z28.toInt := g5_geN (a := k18_4.toInt) (b := z28.toInt) rfl rfl c_36
      refine lv_aload_n hx hb dX12_mark_27 rfl (lv_at hl 2 rfl) ?_
      refine va_get (D := G.1) (ci := 12) (v := .ref b_ip) (C := RX12) (T := TX12) (N := 52) hx hb hts inG_X12 hown hK hP 1 rfl rfl 41 (by decide +kernel) (hts _ fl_X12_85) (fun _ h9 => h9) rfl dX12_mark_28 ?_
      refine lv_aload_n hx hb dX12_mark_31 rfl (lv_at hl 2 rfl) ?_
      refine va_get (D := G.1) (ci := 12) (v := .ref b_pt) (C := RX12) (T := TX12) (N := 52) hx hb hts inG_X12 hown hK hP 1 rfl rfl 38 (by decide +kernel) (hts _ fl_X12_82) (fun _ h9 => h9) rfl dX12_mark_32 ?_
      refine lv_iload hx hb dX12_mark_35 (lv_at hl 0 rfl) ?_
      refine va_iald hx hb hK hP 5 0 rfl rfl (i := k18_4) (vp_in_iff.mpr ⟨by omega, by omega⟩) dX12_mark_37 ?_
      have hr_38 : 0 ≤ (z33 k18_4.toNatClampNeg).toInt ∧ (z33 k18_4.toNatClampNeg).toInt ≤ 1535 := i_19 (k18_4.toNatClampNeg)
      refine lv_iconst (v := 1) hx hb dX12_mark_38 (by decide +kernel) ?_
      refine va_zast hx hb hK hP hD hS 0 2 rfl rfl (i := (z33 k18_4.toNatClampNeg)) (x := 1) (vp_in_iff.mpr ⟨by omega, by omega⟩) dX12_mark_39 ?_
      clear hP hD hS
      intro H locs hP hD hS
      refine g5_rs [(b_ip, (arZ G 1536 (upd k18_ip (z33 k18_4.toNatClampNeg).toNatClampNeg 1))), (b_o, (oc12 u_th u_sa b_rf b_ro b_im b_ke u_fd b_tp u_td u_fr u_to u_so u_wo u_fa u_bd u_nc b_nl u_co b_op b_ar u_le b_pi b_pa u_pd u_od b_ws b_hw z20 b_se b_re z21 z22 z23 z24 z25 z26 z27 z28 b_pt z29 z30 b_ip u_ic b_ah b_be b_me u_wd b_tr b_ld u_st b_wn u_id)), (b_ro, (arI G 5740 v_ro)), (b_se, (arJ G 13 z31)), (b_re, (arJ G 400 z32)), (b_pt, (arI G 200 z33))] hP hD ?_
      clear hP hD
      intro hP hD
      refine lv_iinc (v := (k18_4 + 1)) (lv' := [(4, .int (k18_4 + 1)), (3, .int k2_3), (0, .ref b_o), (1, .int p_1), (2, .int p_2)]) hx hb dX12_mark_40 hl (k := 0) rfl rfl (by decide +kernel) rfl ?_
      clear hl
      intro ls hl
      have t_39 : (k18_4 + 1).toInt = k18_4.toInt + 1 := g5_iadd (a := k18_4.toInt) (b := 1) rfl (by decide +kernel) (by omega) (by omega)
      refine lv_goto (tgt := 18) hx hb dX12_mark_43 (by decide +kernel) ?_
      exact ih_18_35 ((k18_4 + 1), (upd k18_ip (z33 k18_4.toNatClampNeg).toNatClampNeg 1)) ls H locs (show Int.toNat (200 - (k18_4 + 1).toInt) < Int.toNat (200 - k18_4.toInt) from g_up (show k18_4.toInt < (k18_4 + 1).toInt by omega) (show k18_4.toInt < 200 by omega)) ⟨lv_sub hl [0, 1, 2, 3, 4] rfl, hP, hD, hS, ⟨by omega, by omega⟩⟩
theorem dgX12_clearPoints_0 : ∀ r ∈ ([(0, (.iconst 0, 1)), (1, (.istore_n 1, 1)), (2, (.iload_n 1, 1)), (3, (.sipush 1536, 3)), (6, (.if_icmp .ge 16, 3)), (9, (.aload_n 0, 1)), (10, (.getfield 85, 3)), (13, (.iload_n 1, 1)), (14, (.iconst 0, 1)), (15, (.bastore, 1)), (16, (.iinc 1 1, 3)), (19, (.goto (-17), 3)), (22, (.return_, 1))] : List (Nat × (Instr × Nat))), decode cX12_clearPoints r.1 = .ok r.2 := by decide +kernel
theorem dX12_clearPoints_0 : decode cX12_clearPoints 0 = .ok (.iconst 0, 1) := dgX12_clearPoints_0 (0, (.iconst 0, 1)) (List.mem_of_getElem? (i := 0) rfl)
theorem dX12_clearPoints_1 : decode cX12_clearPoints 1 = .ok (.istore_n 1, 1) := dgX12_clearPoints_0 (1, (.istore_n 1, 1)) (List.mem_of_getElem? (i := 1) rfl)
theorem dX12_clearPoints_2 : decode cX12_clearPoints 2 = .ok (.iload_n 1, 1) := dgX12_clearPoints_0 (2, (.iload_n 1, 1)) (List.mem_of_getElem? (i := 2) rfl)
theorem dX12_clearPoints_3 : decode cX12_clearPoints 3 = .ok (.sipush 1536, 3) := dgX12_clearPoints_0 (3, (.sipush 1536, 3)) (List.mem_of_getElem? (i := 3) rfl)
theorem dX12_clearPoints_6 : decode cX12_clearPoints 6 = .ok (.if_icmp .ge 16, 3) := dgX12_clearPoints_0 (6, (.if_icmp .ge 16, 3)) (List.mem_of_getElem? (i := 4) rfl)
theorem dX12_clearPoints_9 : decode cX12_clearPoints 9 = .ok (.aload_n 0, 1) := dgX12_clearPoints_0 (9, (.aload_n 0, 1)) (List.mem_of_getElem? (i := 5) rfl)
theorem dX12_clearPoints_10 : decode cX12_clearPoints 10 = .ok (.getfield 85, 3) := dgX12_clearPoints_0 (10, (.getfield 85, 3)) (List.mem_of_getElem? (i := 6) rfl)
theorem dX12_clearPoints_13 : decode cX12_clearPoints 13 = .ok (.iload_n 1, 1) := dgX12_clearPoints_0 (13, (.iload_n 1, 1)) (List.mem_of_getElem? (i := 7) rfl)
theorem dX12_clearPoints_14 : decode cX12_clearPoints 14 = .ok (.iconst 0, 1) := dgX12_clearPoints_0 (14, (.iconst 0, 1)) (List.mem_of_getElem? (i := 8) rfl)
theorem dX12_clearPoints_15 : decode cX12_clearPoints 15 = .ok (.bastore, 1) := dgX12_clearPoints_0 (15, (.bastore, 1)) (List.mem_of_getElem? (i := 9) rfl)
theorem dX12_clearPoints_16 : decode cX12_clearPoints 16 = .ok (.iinc 1 1, 3) := dgX12_clearPoints_0 (16, (.iinc 1 1, 3)) (List.mem_of_getElem? (i := 10) rfl)
theorem dX12_clearPoints_19 : decode cX12_clearPoints 19 = .ok (.goto (-17), 3) := dgX12_clearPoints_0 (19, (.goto (-17), 3)) (List.mem_of_getElem? (i := 11) rfl)
theorem dX12_clearPoints_22 : decode cX12_clearPoints 22 = .ok (.return_, 1) := dgX12_clearPoints_0 (22, (.return_, 1)) (List.mem_of_getElem? (i := 12) rfl)
set_option maxHeartbeats 4000000 in
set_option maxRecDepth 100000 in
theorem n_clearPoints (l : Launch) (G : g5_G) (b_o b_ip b_rf b_ro b_im b_ke b_tp b_nl b_op b_ar b_pi b_pa b_ws b_hw b_se b_re b_pt b_ah b_be b_me b_tr b_ld b_wn : Nat) (sz : Nat) (u_th : Int32) (u_sa : Int32) (u_fd : Int32) (u_td : Int32) (u_fr : Int32) (u_to : Int32) (u_so : Int32) (u_fa : Int32) (u_bd : Int32) (u_nc : Int32) (u_co : Int32) (u_le : Int32) (u_pd : Int32) (u_od : Int32) (u_la : Int32) (u_bk : Int32) (u_ce : Int32) (u_ho : Int32) (u_wy : Int32) (u_bt : Int32) (u_ps : Int32) (u_tg : Int32) (u_sn : Int32) (u_ic : Int32) (u_wd : Int32) (u_id : Int32) (u_wo : Int64) (u_va : Int64) (u_su : Int64) (u_st : Int64) (v_ip : Nat → Int32) (h_u_td : 0 ≤ u_td.toInt ∧ u_td.toInt ≤ 400) (h_u_fr : 0 ≤ u_fr.toInt ∧ u_fr.toInt ≤ 400) (h_u_to : 0 ≤ u_to.toInt ∧ u_to.toInt ≤ 400) (h_u_bd : 0 ≤ u_bd.toInt ∧ u_bd.toInt ≤ 1) (h_u_nc : 0 ≤ u_nc.toInt ∧ u_nc.toInt ≤ 12) (h_u_co : 0 ≤ u_co.toInt ∧ u_co.toInt ≤ 400) (h_u_pd : 0 ≤ u_pd.toInt ∧ u_pd.toInt ≤ 400) (h_u_la : 0 ≤ u_la.toInt ∧ u_la.toInt ≤ 4840) (h_u_bk : 0 ≤ u_bk.toInt ∧ u_bk.toInt ≤ 1) (h_u_ce : 0 ≤ u_ce.toInt ∧ u_ce.toInt ≤ 63) (h_u_ho : 0 ≤ u_ho.toInt ∧ u_ho.toInt ≤ 23) (h_u_wy : 0 ≤ u_wy.toInt ∧ u_wy.toInt ≤ 3) (h_u_bt : 0 ≤ u_bt.toInt ∧ u_bt.toInt ≤ 1000000) (h_u_ps : 0 ≤ u_ps.toInt ∧ u_ps.toInt ≤ 200) (h_u_ic : 0 ≤ u_ic.toInt ∧ u_ic.toInt ≤ 1) (h_u_id : 0 ≤ u_id.toInt ∧ u_id.toInt ≤ 1) : Met l yX12_clearPoints (wsG yX12_clearPoints cX12_clearPoints 2 none) ({ frames := 0, cells := 0, slots := 0, locals := 0 }) (va_Pc [.ref b_o] (g5_P G [(b_o, (oc12 u_th u_sa b_rf b_ro b_im b_ke u_fd b_tp u_td u_fr u_to u_so u_wo u_fa u_bd u_nc b_nl u_co b_op b_ar u_le b_pi b_pa u_pd u_od b_ws b_hw u_la b_se b_re u_bk u_va u_su u_ce u_ho u_wy u_bt u_ps b_pt u_tg u_sn b_ip u_ic b_ah b_be b_me u_wd b_tr b_ld u_st b_wn u_id)), (b_ip, (arZ G 1536 v_ip))] sz)) (va_Qv (fun (u : va_W) => (∃ (o_ip : Nat → Int32), (u = [(b_o, (oc12 u_th u_sa b_rf b_ro b_im b_ke u_fd b_tp u_td u_fr u_to u_so u_wo u_fa u_bd u_nc b_nl u_co b_op b_ar u_le b_pi b_pa u_pd u_od b_ws b_hw u_la b_se b_re u_bk u_va u_su u_ce u_ho u_wy u_bt u_ps b_pt u_tg u_sn b_ip u_ic b_ah b_be b_me u_wd b_tr b_ld u_st b_wn u_id)), (b_ip, (arZ G 1536 o_ip))]))) (g5_B G (va_A [(b_o, (oc12 u_th u_sa b_rf b_ro b_im b_ke u_fd b_tp u_td u_fr u_to u_so u_wo u_fa u_bd u_nc b_nl u_co b_op b_ar u_le b_pi b_pa u_pd u_od b_ws b_hw u_la b_se b_re u_bk u_va u_su u_ce u_ho u_wy u_bt u_ps b_pt u_tg u_sn b_ip u_ic b_ah b_be b_me u_wd b_tr b_ld u_st b_wn u_id)), (b_ip, (arZ G 1536 v_ip))] sz)) (va_A [(b_o, (oc12 u_th u_sa b_rf b_ro b_im b_ke u_fd b_tp u_td u_fr u_to u_so u_wo u_fa u_bd u_nc b_nl u_co b_op b_ar u_le b_pi b_pa u_pd u_od b_ws b_hw u_la b_se b_re u_bk u_va u_su u_ce u_ho u_wy u_bt u_ps b_pt u_tg u_sn b_ip u_ic b_ah b_be b_me u_wd b_tr b_ld u_st b_wn u_id)), (b_ip, (arZ G 1536 v_ip))] sz)) 0 0 (va_A [(b_o, (oc12 u_th u_sa b_rf b_ro b_im b_ke u_fd b_tp u_td u_fr u_to u_so u_wo u_fa u_bd u_nc b_nl u_co b_op b_ar u_le b_pi b_pa u_pd u_od b_ws b_hw u_la b_se b_re u_bk u_va u_su u_ce u_ho u_wy u_bt u_ps b_pt u_tg u_sn b_ip u_ic b_ah b_be b_me u_wd b_tr b_ld u_st b_wn u_id)), (b_ip, (arZ G 1536 v_ip))] sz) := by
  refine Met.ofW (cc := cX12_clearPoints) (maxL := 2) (ret := none) (by decide +kernel) rfl ?_
  intro p e s m args below meth c s₁ B hml hv
  obtain ⟨rfl, hsz, hP, hK, hD0, hN, hT⟩ := hv
  have hx := B.exec
  have hb := B.bytes
  have hr := B.returns
  have hts : ∀ w ∈ tblG, w.before _ s = true := fun w h => atoms_spec (ws := (wsG yX12_clearPoints cX12_clearPoints 2 none)) B.pre w (List.mem_cons_of_mem _ h)
  have hown : s.vm.findClass RX12 = some m.cls := findClass_of_methodNamed B.named
  have hlocks := B.notSynchronized
  subst hsz
  have hD := hD0.self (sz := s.heap.size)
  generalize hAe : va_A [(b_o, (oc12 u_th u_sa b_rf b_ro b_im b_ke u_fd b_tp u_td u_fr u_to u_so u_wo u_fa u_bd u_nc b_nl u_co b_op b_ar u_le b_pi b_pa u_pd u_od b_ws b_hw u_la b_se b_re u_bk u_va u_su u_ce u_ho u_wy u_bt u_ps b_pt u_tg u_sn b_ip u_ic b_ah b_be b_me u_wd b_tr b_ld u_st b_wn u_id)), (b_ip, (arZ G 1536 v_ip))] s.heap.size = A at hD hT ⊢
  have hA : ∀ q : Nat, s.heap.size ≤ q → A q := fun q h => by rw [← hAe]; exact Or.inr h
  have hS : va_S A s.heap s.heap [] := va_S.rf
  replace hP : va_P G.1 vwCl [(b_o, (oc12 u_th u_sa b_rf b_ro b_im b_ke u_fd b_tp u_td u_fr u_to u_so u_wo u_fa u_bd u_nc b_nl u_co b_op b_ar u_le b_pi b_pa u_pd u_od b_ws b_hw u_la b_se b_re u_bk u_va u_su u_ce u_ho u_wy u_bt u_ps b_pt u_tg u_sn b_ip u_ic b_ah b_be b_me u_wd b_tr b_ld u_st b_wn u_id)), (b_ip, (arZ G 1536 v_ip))] s.heap := hP
  have hl := lv_entry ([.ref b_o]) (n := 2) (Nat.le_of_ble_eq_true rfl)
  rw [lg_entry_eq]
  generalize (lg_sl ([.ref b_o]) ++ List.replicate (2 - (lg_sl ([.ref b_o])).length) Slot.unset).toArray = ls at hl ⊢
  replace hl : lv_has ls 2 [(0, .ref b_o)] := hl
  refine lv_iconst (v := 0) hx hb dX12_clearPoints_0 (by decide +kernel) ?_
  refine lv_istore_n (lv' := [(1, .int 0), (0, .ref b_o)]) hx hb dX12_clearPoints_1 rfl hl (by decide +kernel) rfl ?_
  clear hl
  intro ls hl
  refine g5_loop (α := (Int32) × (Nat → Int32)) (fun (q : (Int32) × (Nat → Int32)) (ls : Array Slot) (H : Heap) (locs : List Loc) => match q with | (k2_1, k2_ip) => lv_has ls 2 [(1, .int k2_1), (0, .ref b_o)] ∧ va_P G.1 vwCl [(b_o, (oc12 u_th u_sa b_rf b_ro b_im b_ke u_fd b_tp u_td u_fr u_to u_so u_wo u_fa u_bd u_nc b_nl u_co b_op b_ar u_le b_pi b_pa u_pd u_od b_ws b_hw u_la b_se b_re u_bk u_va u_su u_ce u_ho u_wy u_bt u_ps b_pt u_tg u_sn b_ip u_ic b_ah b_be b_me u_wd b_tr b_ld u_st b_wn u_id)), (b_ip, (arZ G 1536 k2_ip))] H ∧ va_D A [(b_o, (oc12 u_th u_sa b_rf b_ro b_im b_ke u_fd b_tp u_td u_fr u_to u_so u_wo u_fa u_bd u_nc b_nl u_co b_op b_ar u_le b_pi b_pa u_pd u_od b_ws b_hw u_la b_se b_re u_bk u_va u_su u_ce u_ho u_wy u_bt u_ps b_pt u_tg u_sn b_ip u_ic b_ah b_be b_me u_wd b_tr b_ld u_st b_wn u_id)), (b_ip, (arZ G 1536 k2_ip))] ∧ va_S A s.heap H locs ∧ (0 ≤ k2_1.toInt ∧ k2_1.toInt ≤ 1536)) (fun (q : (Int32) × (Nat → Int32)) => match q with | (k2_1, k2_ip) => Int.toNat (1536 - k2_1.toInt)) (0, v_ip) ⟨lv_sub hl [0, 1] rfl, hP, hD, hS, ⟨by decide, by decide⟩⟩ ?_
  rintro ⟨k2_1, k2_ip⟩ ls H locs ⟨hl, hP, hD, hS, (i_1 : 0 ≤ k2_1.toInt ∧ k2_1.toInt ≤ 1536)⟩ ih_2_2
  replace hl : lv_has ls 2 [(1, .int k2_1), (0, .ref b_o)] := hl
  refine g5_rs [(b_o, (oc12 u_th u_sa b_rf b_ro b_im b_ke u_fd b_tp u_td u_fr u_to u_so u_wo u_fa u_bd u_nc b_nl u_co b_op b_ar u_le b_pi b_pa u_pd u_od b_ws b_hw u_la b_se b_re u_bk u_va u_su u_ce u_ho u_wy u_bt u_ps b_pt u_tg u_sn b_ip u_ic b_ah b_be b_me u_wd b_tr b_ld u_st b_wn u_id)), (b_ip, (arZ G 1536 k2_ip))] hP hD ?_
  clear hP hD
  intro hP hD
  refine lv_iload_n hx hb dX12_clearPoints_2 rfl (lv_at hl 0 rfl) ?_
  refine lv_sipush (v := 1536) hx hb dX12_clearPoints_3 (by decide +kernel) ?_
  refine lv_icmp_ge (tgt := 22) hx hb dX12_clearPoints_6 (by decide +kernel) (fun c_3 => ?_) (fun c_3 => ?_)
  ·
    have i_3 : k2_1.toInt ≥ 1536 := g5_ge (a := k2_1.toInt) (b := 1536) rfl (by decide +kernel) c_3
    exact W.vret hx hb hr (fun t ht hW => ⟨⟨[(b_o, (oc12 u_th u_sa b_rf b_ro b_im b_ke u_fd b_tp u_td u_fr u_to u_so u_wo u_fa u_bd u_nc b_nl u_co b_op b_ar u_le b_pi b_pa u_pd u_od b_ws b_hw u_la b_se b_re u_bk u_va u_su u_ce u_ho u_wy u_bt u_ps b_pt u_tg u_sn b_ip u_ic b_ah b_be b_me u_wd b_tr b_ld u_st b_wn u_id)), (b_ip, (arZ G 1536 k2_ip))], rfl, ⟨k2_ip, rfl⟩, by rw [ht]; exact hP.sub [0, 1] rfl, hD.sub [0, 1] (by decide +kernel) rfl⟩, hS.F ht⟩) hS.2.2 dX12_clearPoints_22
  ·
    have i_3 : k2_1.toInt < 1536 := g5_geN (a := k2_1.toInt) (b := 1536) rfl (by decide +kernel) c_3
    refine lv_aload_n hx hb dX12_clearPoints_9 rfl (lv_at hl 1 rfl) ?_
    refine va_get (D := G.1) (ci := 12) (v := .ref b_ip) (C := RX12) (T := TX12) (N := 52) hx hb hts inG_X12 hown hK hP 0 rfl rfl 41 (by decide +kernel) (hts _ fl_X12_85) (fun _ h9 => h9) rfl dX12_clearPoints_10 ?_
    refine lv_iload_n hx hb dX12_clearPoints_13 rfl (lv_at hl 0 rfl) ?_
    refine lv_iconst (v := 0) hx hb dX12_clearPoints_14 (by decide +kernel) ?_
    refine va_zast hx hb hK hP hD hS 1 2 rfl rfl (i := k2_1) (x := 0) (vp_in_iff.mpr ⟨by omega, by omega⟩) dX12_clearPoints_15 ?_
    clear hP hD hS
    intro H locs hP hD hS
    refine g5_rs [(b_o, (oc12 u_th u_sa b_rf b_ro b_im b_ke u_fd b_tp u_td u_fr u_to u_so u_wo u_fa u_bd u_nc b_nl u_co b_op b_ar u_le b_pi b_pa u_pd u_od b_ws b_hw u_la b_se b_re u_bk u_va u_su u_ce u_ho u_wy u_bt u_ps b_pt u_tg u_sn b_ip u_ic b_ah b_be b_me u_wd b_tr b_ld u_st b_wn u_id)), (b_ip, (arZ G 1536 (upd k2_ip k2_1.toNatClampNeg 0)))] hP hD ?_
    clear hP hD
    intro hP hD
    refine lv_iinc (v := (k2_1 + 1)) (lv' := [(1, .int (k2_1 + 1)), (0, .ref b_o)]) hx hb dX12_clearPoints_16 hl (k := 0) rfl rfl (by decide +kernel) rfl ?_
    clear hl
    intro ls hl
    have t_4 : (k2_1 + 1).toInt = k2_1.toInt + 1 := g5_iadd (a := k2_1.toInt) (b := 1) rfl (by decide +kernel) (by omega) (by omega)
    refine lv_goto (tgt := 2) hx hb dX12_clearPoints_19 (by decide +kernel) ?_
    exact ih_2_2 ((k2_1 + 1), (upd k2_ip k2_1.toNatClampNeg 0)) ls H locs (show Int.toNat (1536 - (k2_1 + 1).toInt) < Int.toNat (1536 - k2_1.toInt) from g_up (show k2_1.toInt < (k2_1 + 1).toInt by omega) (show k2_1.toInt < 1536 by omega)) ⟨lv_sub hl [0, 1] rfl, hP, hD, hS, ⟨by omega, by omega⟩⟩
theorem dgX12_lit_0 : ∀ r ∈ ([(0, (.aload_n 0, 1)), (1, (.iconst 0, 1)), (2, (.putfield 107, 3)), (5, (.iload_n 1, 1)), (6, (.invokestatic 138, 3)), (9, (.ifCond .eq 24, 3)), (12, (.iload_n 2, 1)), (13, (.invokestatic 175, 3)), (16, (.ifCond .eq 17, 3)), (19, (.iload_n 3, 1)), (20, (.i2l, 1)), (21, (.ldc2_w 178, 3)), (24, (.ldc2_w 128, 3)), (27, (.invokestatic 121, 3)), (30, (.ifCond .ne 5, 3)), (33, (.iconst (-1), 1)), (34, (.ireturn, 1)), (35, (.aload_n 0, 1)), (36, (.invokevirtual 413, 3)), (39, (.aload_n 0, 1)), (40, (.iload_n 1, 1)), (41, (.iload_n 2, 1)), (42, (.invokevirtual 416, 3)), (45, (.iconst 0, 1)), (46, (.istore 4, 2)), (48, (.iconst 0, 1)), (49, (.istore 5, 2)), (51, (.iload 5, 2)), (53, (.bipush 64, 2)), (55, (.if_icmp .ge 82, 3)), (58, (.iconst 0, 1)), (59, (.istore 6, 2)), (61, (.iconst 0, 1)), (62, (.istore 7, 2)), (64, (.iload 7, 2)), (66, (.bipush 24, 2)), (68, (.if_icmp .ge 37, 3)), (71, (.iload 6, 2)), (73, (.ifCond .ne 19, 3)), (76, (.aload_n 0, 1))] : List (Nat × (Instr × Nat))), decode cX12_lit r.1 = .ok r.2 := by decide +kernel
theorem dX12_lit_0 : decode cX12_lit 0 = .ok (.aload_n 0, 1) := dgX12_lit_0 (0, (.aload_n 0, 1)) (List.mem_of_getElem? (i := 0) rfl)
theorem dX12_lit_1 : decode cX12_lit 1 = .ok (.iconst 0, 1) := dgX12_lit_0 (1, (.iconst 0, 1)) (List.mem_of_getElem? (i := 1) rfl)
theorem dX12_lit_2 : decode cX12_lit 2 = .ok (.putfield 107, 3) := dgX12_lit_0 (2, (.putfield 107, 3)) (List.mem_of_getElem? (i := 2) rfl)
theorem dX12_lit_5 : decode cX12_lit 5 = .ok (.iload_n 1, 1) := dgX12_lit_0 (5, (.iload_n 1, 1)) (List.mem_of_getElem? (i := 3) rfl)
theorem dX12_lit_6 : decode cX12_lit 6 = .ok (.invokestatic 138, 3) := dgX12_lit_0 (6, (.invokestatic 138, 3)) (List.mem_of_getElem? (i := 4) rfl)
theorem dX12_lit_9 : decode cX12_lit 9 = .ok (.ifCond .eq 24, 3) := dgX12_lit_0 (9, (.ifCond .eq 24, 3)) (List.mem_of_getElem? (i := 5) rfl)
theorem dX12_lit_12 : decode cX12_lit 12 = .ok (.iload_n 2, 1) := dgX12_lit_0 (12, (.iload_n 2, 1)) (List.mem_of_getElem? (i := 6) rfl)
theorem dX12_lit_13 : decode cX12_lit 13 = .ok (.invokestatic 175, 3) := dgX12_lit_0 (13, (.invokestatic 175, 3)) (List.mem_of_getElem? (i := 7) rfl)
theorem dX12_lit_16 : decode cX12_lit 16 = .ok (.ifCond .eq 17, 3) := dgX12_lit_0 (16, (.ifCond .eq 17, 3)) (List.mem_of_getElem? (i := 8) rfl)
theorem dX12_lit_19 : decode cX12_lit 19 = .ok (.iload_n 3, 1) := dgX12_lit_0 (19, (.iload_n 3, 1)) (List.mem_of_getElem? (i := 9) rfl)
theorem dX12_lit_20 : decode cX12_lit 20 = .ok (.i2l, 1) := dgX12_lit_0 (20, (.i2l, 1)) (List.mem_of_getElem? (i := 10) rfl)
theorem dX12_lit_21 : decode cX12_lit 21 = .ok (.ldc2_w 178, 3) := dgX12_lit_0 (21, (.ldc2_w 178, 3)) (List.mem_of_getElem? (i := 11) rfl)
theorem dX12_lit_24 : decode cX12_lit 24 = .ok (.ldc2_w 128, 3) := dgX12_lit_0 (24, (.ldc2_w 128, 3)) (List.mem_of_getElem? (i := 12) rfl)
theorem dX12_lit_27 : decode cX12_lit 27 = .ok (.invokestatic 121, 3) := dgX12_lit_0 (27, (.invokestatic 121, 3)) (List.mem_of_getElem? (i := 13) rfl)
theorem dX12_lit_30 : decode cX12_lit 30 = .ok (.ifCond .ne 5, 3) := dgX12_lit_0 (30, (.ifCond .ne 5, 3)) (List.mem_of_getElem? (i := 14) rfl)
theorem dX12_lit_33 : decode cX12_lit 33 = .ok (.iconst (-1), 1) := dgX12_lit_0 (33, (.iconst (-1), 1)) (List.mem_of_getElem? (i := 15) rfl)
theorem dX12_lit_34 : decode cX12_lit 34 = .ok (.ireturn, 1) := dgX12_lit_0 (34, (.ireturn, 1)) (List.mem_of_getElem? (i := 16) rfl)
theorem dX12_lit_35 : decode cX12_lit 35 = .ok (.aload_n 0, 1) := dgX12_lit_0 (35, (.aload_n 0, 1)) (List.mem_of_getElem? (i := 17) rfl)
theorem dX12_lit_36 : decode cX12_lit 36 = .ok (.invokevirtual 413, 3) := dgX12_lit_0 (36, (.invokevirtual 413, 3)) (List.mem_of_getElem? (i := 18) rfl)
theorem dX12_lit_39 : decode cX12_lit 39 = .ok (.aload_n 0, 1) := dgX12_lit_0 (39, (.aload_n 0, 1)) (List.mem_of_getElem? (i := 19) rfl)
theorem dX12_lit_40 : decode cX12_lit 40 = .ok (.iload_n 1, 1) := dgX12_lit_0 (40, (.iload_n 1, 1)) (List.mem_of_getElem? (i := 20) rfl)
theorem dX12_lit_41 : decode cX12_lit 41 = .ok (.iload_n 2, 1) := dgX12_lit_0 (41, (.iload_n 2, 1)) (List.mem_of_getElem? (i := 21) rfl)
theorem dX12_lit_42 : decode cX12_lit 42 = .ok (.invokevirtual 416, 3) := dgX12_lit_0 (42, (.invokevirtual 416, 3)) (List.mem_of_getElem? (i := 22) rfl)
theorem dX12_lit_45 : decode cX12_lit 45 = .ok (.iconst 0, 1) := dgX12_lit_0 (45, (.iconst 0, 1)) (List.mem_of_getElem? (i := 23) rfl)
theorem dX12_lit_46 : decode cX12_lit 46 = .ok (.istore 4, 2) := dgX12_lit_0 (46, (.istore 4, 2)) (List.mem_of_getElem? (i := 24) rfl)
theorem dX12_lit_48 : decode cX12_lit 48 = .ok (.iconst 0, 1) := dgX12_lit_0 (48, (.iconst 0, 1)) (List.mem_of_getElem? (i := 25) rfl)
theorem dX12_lit_49 : decode cX12_lit 49 = .ok (.istore 5, 2) := dgX12_lit_0 (49, (.istore 5, 2)) (List.mem_of_getElem? (i := 26) rfl)
theorem dX12_lit_51 : decode cX12_lit 51 = .ok (.iload 5, 2) := dgX12_lit_0 (51, (.iload 5, 2)) (List.mem_of_getElem? (i := 27) rfl)
theorem dX12_lit_53 : decode cX12_lit 53 = .ok (.bipush 64, 2) := dgX12_lit_0 (53, (.bipush 64, 2)) (List.mem_of_getElem? (i := 28) rfl)
theorem dX12_lit_55 : decode cX12_lit 55 = .ok (.if_icmp .ge 82, 3) := dgX12_lit_0 (55, (.if_icmp .ge 82, 3)) (List.mem_of_getElem? (i := 29) rfl)
theorem dX12_lit_58 : decode cX12_lit 58 = .ok (.iconst 0, 1) := dgX12_lit_0 (58, (.iconst 0, 1)) (List.mem_of_getElem? (i := 30) rfl)
theorem dX12_lit_59 : decode cX12_lit 59 = .ok (.istore 6, 2) := dgX12_lit_0 (59, (.istore 6, 2)) (List.mem_of_getElem? (i := 31) rfl)
theorem dX12_lit_61 : decode cX12_lit 61 = .ok (.iconst 0, 1) := dgX12_lit_0 (61, (.iconst 0, 1)) (List.mem_of_getElem? (i := 32) rfl)
theorem dX12_lit_62 : decode cX12_lit 62 = .ok (.istore 7, 2) := dgX12_lit_0 (62, (.istore 7, 2)) (List.mem_of_getElem? (i := 33) rfl)
theorem dX12_lit_64 : decode cX12_lit 64 = .ok (.iload 7, 2) := dgX12_lit_0 (64, (.iload 7, 2)) (List.mem_of_getElem? (i := 34) rfl)
theorem dX12_lit_66 : decode cX12_lit 66 = .ok (.bipush 24, 2) := dgX12_lit_0 (66, (.bipush 24, 2)) (List.mem_of_getElem? (i := 35) rfl)
theorem dX12_lit_68 : decode cX12_lit 68 = .ok (.if_icmp .ge 37, 3) := dgX12_lit_0 (68, (.if_icmp .ge 37, 3)) (List.mem_of_getElem? (i := 36) rfl)
theorem dX12_lit_71 : decode cX12_lit 71 = .ok (.iload 6, 2) := dgX12_lit_0 (71, (.iload 6, 2)) (List.mem_of_getElem? (i := 37) rfl)
theorem dX12_lit_73 : decode cX12_lit 73 = .ok (.ifCond .ne 19, 3) := dgX12_lit_0 (73, (.ifCond .ne 19, 3)) (List.mem_of_getElem? (i := 38) rfl)
theorem dX12_lit_76 : decode cX12_lit 76 = .ok (.aload_n 0, 1) := dgX12_lit_0 (76, (.aload_n 0, 1)) (List.mem_of_getElem? (i := 39) rfl)
theorem dgX12_lit_1 : ∀ r ∈ ([(77, (.getfield 85, 3)), (80, (.bipush 64, 2)), (82, (.iload 7, 2)), (84, (.imul, 1)), (85, (.iload 5, 2)), (87, (.iadd, 1)), (88, (.baload, 1)), (89, (.ifCond .eq 7, 3)), (92, (.iconst 1, 1)), (93, (.goto 4, 3)), (96, (.iconst 0, 1)), (97, (.istore 6, 2)), (99, (.iinc 7 1, 3)), (102, (.goto (-38), 3)), (105, (.iload 4, 2)), (107, (.iload 6, 2)), (109, (.ifCond .eq 18, 3)), (112, (.iload_n 3, 1)), (113, (.iconst (-1), 1)), (114, (.if_icmp .eq 9, 3)), (117, (.iload_n 3, 1)), (118, (.iload 5, 2)), (120, (.if_icmp .ne 7, 3)), (123, (.iconst 1, 1)), (124, (.goto 4, 3)), (127, (.iconst 0, 1)), (128, (.iadd, 1)), (129, (.istore 4, 2)), (131, (.iinc 5 1, 3)), (134, (.goto (-83), 3)), (137, (.iload 4, 2)), (139, (.ireturn, 1))] : List (Nat × (Instr × Nat))), decode cX12_lit r.1 = .ok r.2 := by decide +kernel
theorem dX12_lit_77 : decode cX12_lit 77 = .ok (.getfield 85, 3) := dgX12_lit_1 (77, (.getfield 85, 3)) (List.mem_of_getElem? (i := 0) rfl)
theorem dX12_lit_80 : decode cX12_lit 80 = .ok (.bipush 64, 2) := dgX12_lit_1 (80, (.bipush 64, 2)) (List.mem_of_getElem? (i := 1) rfl)
theorem dX12_lit_82 : decode cX12_lit 82 = .ok (.iload 7, 2) := dgX12_lit_1 (82, (.iload 7, 2)) (List.mem_of_getElem? (i := 2) rfl)
theorem dX12_lit_84 : decode cX12_lit 84 = .ok (.imul, 1) := dgX12_lit_1 (84, (.imul, 1)) (List.mem_of_getElem? (i := 3) rfl)
theorem dX12_lit_85 : decode cX12_lit 85 = .ok (.iload 5, 2) := dgX12_lit_1 (85, (.iload 5, 2)) (List.mem_of_getElem? (i := 4) rfl)
theorem dX12_lit_87 : decode cX12_lit 87 = .ok (.iadd, 1) := dgX12_lit_1 (87, (.iadd, 1)) (List.mem_of_getElem? (i := 5) rfl)
theorem dX12_lit_88 : decode cX12_lit 88 = .ok (.baload, 1) := dgX12_lit_1 (88, (.baload, 1)) (List.mem_of_getElem? (i := 6) rfl)
theorem dX12_lit_89 : decode cX12_lit 89 = .ok (.ifCond .eq 7, 3) := dgX12_lit_1 (89, (.ifCond .eq 7, 3)) (List.mem_of_getElem? (i := 7) rfl)
theorem dX12_lit_92 : decode cX12_lit 92 = .ok (.iconst 1, 1) := dgX12_lit_1 (92, (.iconst 1, 1)) (List.mem_of_getElem? (i := 8) rfl)
theorem dX12_lit_93 : decode cX12_lit 93 = .ok (.goto 4, 3) := dgX12_lit_1 (93, (.goto 4, 3)) (List.mem_of_getElem? (i := 9) rfl)
theorem dX12_lit_96 : decode cX12_lit 96 = .ok (.iconst 0, 1) := dgX12_lit_1 (96, (.iconst 0, 1)) (List.mem_of_getElem? (i := 10) rfl)
theorem dX12_lit_97 : decode cX12_lit 97 = .ok (.istore 6, 2) := dgX12_lit_1 (97, (.istore 6, 2)) (List.mem_of_getElem? (i := 11) rfl)
theorem dX12_lit_99 : decode cX12_lit 99 = .ok (.iinc 7 1, 3) := dgX12_lit_1 (99, (.iinc 7 1, 3)) (List.mem_of_getElem? (i := 12) rfl)
theorem dX12_lit_102 : decode cX12_lit 102 = .ok (.goto (-38), 3) := dgX12_lit_1 (102, (.goto (-38), 3)) (List.mem_of_getElem? (i := 13) rfl)
theorem dX12_lit_105 : decode cX12_lit 105 = .ok (.iload 4, 2) := dgX12_lit_1 (105, (.iload 4, 2)) (List.mem_of_getElem? (i := 14) rfl)
theorem dX12_lit_107 : decode cX12_lit 107 = .ok (.iload 6, 2) := dgX12_lit_1 (107, (.iload 6, 2)) (List.mem_of_getElem? (i := 15) rfl)
theorem dX12_lit_109 : decode cX12_lit 109 = .ok (.ifCond .eq 18, 3) := dgX12_lit_1 (109, (.ifCond .eq 18, 3)) (List.mem_of_getElem? (i := 16) rfl)
theorem dX12_lit_112 : decode cX12_lit 112 = .ok (.iload_n 3, 1) := dgX12_lit_1 (112, (.iload_n 3, 1)) (List.mem_of_getElem? (i := 17) rfl)
theorem dX12_lit_113 : decode cX12_lit 113 = .ok (.iconst (-1), 1) := dgX12_lit_1 (113, (.iconst (-1), 1)) (List.mem_of_getElem? (i := 18) rfl)
theorem dX12_lit_114 : decode cX12_lit 114 = .ok (.if_icmp .eq 9, 3) := dgX12_lit_1 (114, (.if_icmp .eq 9, 3)) (List.mem_of_getElem? (i := 19) rfl)
theorem dX12_lit_117 : decode cX12_lit 117 = .ok (.iload_n 3, 1) := dgX12_lit_1 (117, (.iload_n 3, 1)) (List.mem_of_getElem? (i := 20) rfl)
theorem dX12_lit_118 : decode cX12_lit 118 = .ok (.iload 5, 2) := dgX12_lit_1 (118, (.iload 5, 2)) (List.mem_of_getElem? (i := 21) rfl)
theorem dX12_lit_120 : decode cX12_lit 120 = .ok (.if_icmp .ne 7, 3) := dgX12_lit_1 (120, (.if_icmp .ne 7, 3)) (List.mem_of_getElem? (i := 22) rfl)
theorem dX12_lit_123 : decode cX12_lit 123 = .ok (.iconst 1, 1) := dgX12_lit_1 (123, (.iconst 1, 1)) (List.mem_of_getElem? (i := 23) rfl)
theorem dX12_lit_124 : decode cX12_lit 124 = .ok (.goto 4, 3) := dgX12_lit_1 (124, (.goto 4, 3)) (List.mem_of_getElem? (i := 24) rfl)
theorem dX12_lit_127 : decode cX12_lit 127 = .ok (.iconst 0, 1) := dgX12_lit_1 (127, (.iconst 0, 1)) (List.mem_of_getElem? (i := 25) rfl)
theorem dX12_lit_128 : decode cX12_lit 128 = .ok (.iadd, 1) := dgX12_lit_1 (128, (.iadd, 1)) (List.mem_of_getElem? (i := 26) rfl)
theorem dX12_lit_129 : decode cX12_lit 129 = .ok (.istore 4, 2) := dgX12_lit_1 (129, (.istore 4, 2)) (List.mem_of_getElem? (i := 27) rfl)
theorem dX12_lit_131 : decode cX12_lit 131 = .ok (.iinc 5 1, 3) := dgX12_lit_1 (131, (.iinc 5 1, 3)) (List.mem_of_getElem? (i := 28) rfl)
theorem dX12_lit_134 : decode cX12_lit 134 = .ok (.goto (-83), 3) := dgX12_lit_1 (134, (.goto (-83), 3)) (List.mem_of_getElem? (i := 29) rfl)
theorem dX12_lit_137 : decode cX12_lit 137 = .ok (.iload 4, 2) := dgX12_lit_1 (137, (.iload 4, 2)) (List.mem_of_getElem? (i := 30) rfl)
theorem dX12_lit_139 : decode cX12_lit 139 = .ok (.ireturn, 1) := dgX12_lit_1 (139, (.ireturn, 1)) (List.mem_of_getElem? (i := 31) rfl)
theorem ml_X12_413 : Cond.methodLink RX12 413 yX12_clearPoints ∈ tblG := tg 1680 (by decide +kernel) (by decide +kernel)
theorem im_X12_clearPoints : Cond.instanceMethod yX12_clearPoints ∈ tblG := tg 1682 (by decide +kernel) (by decide +kernel)
theorem se_X12_clearPoints : Cond.selects RX12 yX12_clearPoints yX12_clearPoints ∈ tblG := tg 72 (by decide +kernel) (by decide +kernel)
theorem cd_X12_clearPoints : Cond.code yX12_clearPoints cX12_clearPoints 2 none ∈ tblG := tg 1683 (by decide +kernel) (by decide +kernel)
theorem gW_X12_clearPoints : GoodIn tblG (wsG yX12_clearPoints cX12_clearPoints 2 none) := tgi cd_X12_clearPoints
theorem gV_X12_413 : GoodIn tblG (wsV RX12 413 RX12 yX12_clearPoints (wsG yX12_clearPoints cX12_clearPoints 2 none)) := tgV ml_X12_413 im_X12_clearPoints se_X12_clearPoints ini_X12 gW_X12_clearPoints
theorem hv_X12_clearPoints : yX12_clearPoints.cls = RX12 ∧ yX12_clearPoints.cls ≠ "java/lang/invoke/MethodHandle" ∧ yX12_clearPoints.cls ≠ "java/lang/invoke/VarHandle" ∧ (parseMethodDescriptor yX12_clearPoints.desc).map (fun d => d.parameters.length) = some 0 := by decide +kernel
theorem ml_X12_416 : Cond.methodLink RX12 416 yX12_mark ∈ tblG := tg 1684 (by decide +kernel) (by decide +kernel)
theorem im_X12_mark : Cond.instanceMethod yX12_mark ∈ tblG := tg 1686 (by decide +kernel) (by decide +kernel)
theorem se_X12_mark : Cond.selects RX12 yX12_mark yX12_mark ∈ tblG := tg 73 (by decide +kernel) (by decide +kernel)
theorem cd_X12_mark : Cond.code yX12_mark cX12_mark 5 none ∈ tblG := tg 1687 (by decide +kernel) (by decide +kernel)
theorem gW_X12_mark : GoodIn tblG (wsG yX12_mark cX12_mark 5 none) := tgi cd_X12_mark
theorem gV_X12_416 : GoodIn tblG (wsV RX12 416 RX12 yX12_mark (wsG yX12_mark cX12_mark 5 none)) := tgV ml_X12_416 im_X12_mark se_X12_mark ini_X12 gW_X12_mark
theorem hv_X12_mark : yX12_mark.cls = RX12 ∧ yX12_mark.cls ≠ "java/lang/invoke/MethodHandle" ∧ yX12_mark.cls ≠ "java/lang/invoke/VarHandle" ∧ (parseMethodDescriptor yX12_mark.desc).map (fun d => d.parameters.length) = some 2 := by decide +kernel
set_option maxHeartbeats 4000000 in
set_option maxRecDepth 100000 in
theorem n_lit (l : Launch) (G : g5_G) (b_o b_ro b_se b_re b_pt b_ip b_rf b_im b_ke b_tp b_nl b_op b_ar b_pi b_pa b_ws b_hw b_ah b_be b_me b_tr b_ld b_wn : Nat) (sz : Nat) (u_th : Int32) (u_sa : Int32) (u_fd : Int32) (u_td : Int32) (u_fr : Int32) (u_to : Int32) (u_so : Int32) (u_fa : Int32) (u_bd : Int32) (u_nc : Int32) (u_co : Int32) (u_le : Int32) (u_pd : Int32) (u_od : Int32) (u_la : Int32) (u_bk : Int32) (u_ce : Int32) (u_ho : Int32) (u_wy : Int32) (u_bt : Int32) (u_ps : Int32) (u_tg : Int32) (u_sn : Int32) (u_ic : Int32) (u_wd : Int32) (u_id : Int32) (p_1 : Int32) (p_2 : Int32) (p_3 : Int32) (u_wo : Int64) (u_va : Int64) (u_su : Int64) (u_st : Int64) (v_ro : Nat → Int32) (v_se : Nat → Int64) (v_re : Nat → Int64) (v_pt : Nat → Int32) (v_ip : Nat → Int32) (h_u_td : 0 ≤ u_td.toInt ∧ u_td.toInt ≤ 400) (h_u_fr : 0 ≤ u_fr.toInt ∧ u_fr.toInt ≤ 400) (h_u_to : 0 ≤ u_to.toInt ∧ u_to.toInt ≤ 400) (h_u_bd : 0 ≤ u_bd.toInt ∧ u_bd.toInt ≤ 1) (h_u_nc : 0 ≤ u_nc.toInt ∧ u_nc.toInt ≤ 12) (h_u_co : 0 ≤ u_co.toInt ∧ u_co.toInt ≤ 400) (h_u_pd : 0 ≤ u_pd.toInt ∧ u_pd.toInt ≤ 400) (h_u_la : 0 ≤ u_la.toInt ∧ u_la.toInt ≤ 4840) (h_u_bk : 0 ≤ u_bk.toInt ∧ u_bk.toInt ≤ 1) (h_u_ce : 0 ≤ u_ce.toInt ∧ u_ce.toInt ≤ 63) (h_u_ho : 0 ≤ u_ho.toInt ∧ u_ho.toInt ≤ 23) (h_u_wy : 0 ≤ u_wy.toInt ∧ u_wy.toInt ≤ 3) (h_u_bt : 0 ≤ u_bt.toInt ∧ u_bt.toInt ≤ 1000000) (h_u_ps : 0 ≤ u_ps.toInt ∧ u_ps.toInt ≤ 200) (h_u_ic : 0 ≤ u_ic.toInt ∧ u_ic.toInt ≤ 1) (h_u_id : 0 ≤ u_id.toInt ∧ u_id.toInt ≤ 1) (r_ro : MI v_ro) (r_pt : PTI v_pt) : Met l yX12_lit (wsG yX12_lit cX12_lit 8 (some .int)) ({ frames := 8, cells := 0, slots := 0, locals := 200 }) (va_Pc [.ref b_o, .int p_1, .int p_2, .int p_3] (g5_P G [(b_o, (oc12 u_th u_sa b_rf b_ro b_im b_ke u_fd b_tp u_td u_fr u_to u_so u_wo u_fa u_bd u_nc b_nl u_co b_op b_ar u_le b_pi b_pa u_pd u_od b_ws b_hw u_la b_se b_re u_bk u_va u_su u_ce u_ho u_wy u_bt u_ps b_pt u_tg u_sn b_ip u_ic b_ah b_be b_me u_wd b_tr b_ld u_st b_wn u_id)), (b_ro, (arI G 5740 v_ro)), (b_se, (arJ G 13 v_se)), (b_re, (arJ G 400 v_re)), (b_pt, (arI G 200 v_pt)), (b_ip, (arZ G 1536 v_ip))] sz)) (va_Qi (fun (r : Int32) (u : va_W) => (∃ (o_r : Int32) (o_th : Int32) (o_la : Int32) (o_bk : Int32) (o_va : Int64) (o_su : Int64) (o_ce : Int32) (o_ho : Int32) (o_wy : Int32) (o_bt : Int32) (o_ps : Int32) (o_tg : Int32) (o_sn : Int32) (o_se : Nat → Int64) (o_re : Nat → Int64) (o_pt : Nat → Int32) (o_ip : Nat → Int32), (0 ≤ o_la.toInt ∧ o_la.toInt ≤ 4840) ∧ (0 ≤ o_bk.toInt ∧ o_bk.toInt ≤ 1) ∧ (0 ≤ o_ce.toInt ∧ o_ce.toInt ≤ 63) ∧ (0 ≤ o_ho.toInt ∧ o_ho.toInt ≤ 23) ∧ (0 ≤ o_wy.toInt ∧ o_wy.toInt ≤ 3) ∧ (0 ≤ o_bt.toInt ∧ o_bt.toInt ≤ 1000000) ∧ (0 ≤ o_ps.toInt ∧ o_ps.toInt ≤ 200) ∧ (PTI o_pt) ∧ (r = o_r) ∧ (u = [(b_o, (oc12 o_th u_sa b_rf b_ro b_im b_ke u_fd b_tp u_td u_fr u_to u_so u_wo u_fa u_bd u_nc b_nl u_co b_op b_ar u_le b_pi b_pa u_pd u_od b_ws b_hw o_la b_se b_re o_bk o_va o_su o_ce o_ho o_wy o_bt o_ps b_pt o_tg o_sn b_ip u_ic b_ah b_be b_me u_wd b_tr b_ld u_st b_wn u_id)), (b_ro, (arI G 5740 v_ro)), (b_se, (arJ G 13 o_se)), (b_re, (arJ G 400 o_re)), (b_pt, (arI G 200 o_pt)), (b_ip, (arZ G 1536 o_ip))]))) (g5_B G (va_A [(b_o, (oc12 u_th u_sa b_rf b_ro b_im b_ke u_fd b_tp u_td u_fr u_to u_so u_wo u_fa u_bd u_nc b_nl u_co b_op b_ar u_le b_pi b_pa u_pd u_od b_ws b_hw u_la b_se b_re u_bk u_va u_su u_ce u_ho u_wy u_bt u_ps b_pt u_tg u_sn b_ip u_ic b_ah b_be b_me u_wd b_tr b_ld u_st b_wn u_id)), (b_ro, (arI G 5740 v_ro)), (b_se, (arJ G 13 v_se)), (b_re, (arJ G 400 v_re)), (b_pt, (arI G 200 v_pt)), (b_ip, (arZ G 1536 v_ip))] sz)) (va_A [(b_o, (oc12 u_th u_sa b_rf b_ro b_im b_ke u_fd b_tp u_td u_fr u_to u_so u_wo u_fa u_bd u_nc b_nl u_co b_op b_ar u_le b_pi b_pa u_pd u_od b_ws b_hw u_la b_se b_re u_bk u_va u_su u_ce u_ho u_wy u_bt u_ps b_pt u_tg u_sn b_ip u_ic b_ah b_be b_me u_wd b_tr b_ld u_st b_wn u_id)), (b_ro, (arI G 5740 v_ro)), (b_se, (arJ G 13 v_se)), (b_re, (arJ G 400 v_re)), (b_pt, (arI G 200 v_pt)), (b_ip, (arZ G 1536 v_ip))] sz)) 0 0 (va_A [(b_o, (oc12 u_th u_sa b_rf b_ro b_im b_ke u_fd b_tp u_td u_fr u_to u_so u_wo u_fa u_bd u_nc b_nl u_co b_op b_ar u_le b_pi b_pa u_pd u_od b_ws b_hw u_la b_se b_re u_bk u_va u_su u_ce u_ho u_wy u_bt u_ps b_pt u_tg u_sn b_ip u_ic b_ah b_be b_me u_wd b_tr b_ld u_st b_wn u_id)), (b_ro, (arI G 5740 v_ro)), (b_se, (arJ G 13 v_se)), (b_re, (arJ G 400 v_re)), (b_pt, (arI G 200 v_pt)), (b_ip, (arZ G 1536 v_ip))] sz) := by
  refine Met.ofW (cc := cX12_lit) (maxL := 8) (ret := (some .int)) (by decide +kernel) rfl ?_
  intro p e s m args below meth c s₁ B hml hv
  obtain ⟨rfl, hsz, hP, hK, hD0, hN, hT⟩ := hv
  have hx := B.exec
  have hb := B.bytes
  have hr := B.returns
  have hts : ∀ w ∈ tblG, w.before _ s = true := fun w h => atoms_spec (ws := (wsG yX12_lit cX12_lit 8 (some .int))) B.pre w (List.mem_cons_of_mem _ h)
  have hown : s.vm.findClass RX12 = some m.cls := findClass_of_methodNamed B.named
  have hlocks := B.notSynchronized
  subst hsz
  have hD := hD0.self (sz := s.heap.size)
  generalize hAe : va_A [(b_o, (oc12 u_th u_sa b_rf b_ro b_im b_ke u_fd b_tp u_td u_fr u_to u_so u_wo u_fa u_bd u_nc b_nl u_co b_op b_ar u_le b_pi b_pa u_pd u_od b_ws b_hw u_la b_se b_re u_bk u_va u_su u_ce u_ho u_wy u_bt u_ps b_pt u_tg u_sn b_ip u_ic b_ah b_be b_me u_wd b_tr b_ld u_st b_wn u_id)), (b_ro, (arI G 5740 v_ro)), (b_se, (arJ G 13 v_se)), (b_re, (arJ G 400 v_re)), (b_pt, (arI G 200 v_pt)), (b_ip, (arZ G 1536 v_ip))] s.heap.size = A at hD hT ⊢
  have hA : ∀ q : Nat, s.heap.size ≤ q → A q := fun q h => by rw [← hAe]; exact Or.inr h
  have hS : va_S A s.heap s.heap [] := va_S.rf
  replace hP : va_P G.1 vwCl [(b_o, (oc12 u_th u_sa b_rf b_ro b_im b_ke u_fd b_tp u_td u_fr u_to u_so u_wo u_fa u_bd u_nc b_nl u_co b_op b_ar u_le b_pi b_pa u_pd u_od b_ws b_hw u_la b_se b_re u_bk u_va u_su u_ce u_ho u_wy u_bt u_ps b_pt u_tg u_sn b_ip u_ic b_ah b_be b_me u_wd b_tr b_ld u_st b_wn u_id)), (b_ro, (arI G 5740 v_ro)), (b_se, (arJ G 13 v_se)), (b_re, (arJ G 400 v_re)), (b_pt, (arI G 200 v_pt)), (b_ip, (arZ G 1536 v_ip))] s.heap := hP
  have hl := lv_entry ([.ref b_o, .int p_1, .int p_2, .int p_3]) (n := 8) (Nat.le_of_ble_eq_true rfl)
  rw [lg_entry_eq]
  generalize (lg_sl ([.ref b_o, .int p_1, .int p_2, .int p_3]) ++ List.replicate (8 - (lg_sl ([.ref b_o, .int p_1, .int p_2, .int p_3])).length) Slot.unset).toArray = ls at hl ⊢
  replace hl : lv_has ls 8 [(0, .ref b_o), (1, .int p_1), (2, .int p_2), (3, .int p_3)] := hl
  refine lv_aload_n hx hb dX12_lit_0 rfl (lv_at hl 0 rfl) ?_
  refine lv_iconst (v := 0) hx hb dX12_lit_1 (by decide +kernel) ?_
  refine va_put (D := G.1) (ci := 12) (v := .int 0) (ty := .int) (C := RX12) (T := TX12) (N := 52) hx hb hts inG_X12 tyX12 tyX12_ok nmX12 hown hK hP hD hS 0 rfl rfl 0 (by decide +kernel) (hts _ fl_X12_107) (fun _ h9 => h9) rfl (by decide +kernel) rfl rfl (Nat.le_of_ble_eq_true rfl) dX12_lit_2 ?_
  clear hP hD hS
  intro H locs hP hD hS
  refine g5_rs [(b_o, (oc12 0 u_sa b_rf b_ro b_im b_ke u_fd b_tp u_td u_fr u_to u_so u_wo u_fa u_bd u_nc b_nl u_co b_op b_ar u_le b_pi b_pa u_pd u_od b_ws b_hw u_la b_se b_re u_bk u_va u_su u_ce u_ho u_wy u_bt u_ps b_pt u_tg u_sn b_ip u_ic b_ah b_be b_me u_wd b_tr b_ld u_st b_wn u_id)), (b_ro, (arI G 5740 v_ro)), (b_se, (arJ G 13 v_se)), (b_re, (arJ G 400 v_re)), (b_pt, (arI G 200 v_pt)), (b_ip, (arZ G 1536 v_ip))] hP hD ?_
  clear hP hD
  intro hP hD
  refine lv_iload_n hx hb dX12_lit_5 rfl (lv_at hl 1 rfl) ?_
  obtain ⟨hPc, hDc, hFc⟩ := g5_sub3 (wc := []) hP hD hS hA [] (by decide +kernel) rfl
  refine va_calli (va_runS (As := [.int p_1]) (rest := []) ⟨hx, hb, hml, hown, hts⟩ (n_isCell l G H.size p_1) (va_cwS 1 hts gS_X12_138 rfl rfl rfl hs_X12_isCell ⟨Nat.le_of_ble_eq_true rfl, Nat.le_of_ble_eq_true rfl⟩) (g5_preS hPc hK hDc hN hT hS hFc) rfl rfl hl.1 rfl (lv_room (Nat.le_of_ble_eq_true rfl)) dX12_lit_6 ⟨Nat.le_of_ble_eq_true rfl, Nat.le_of_ble_eq_true rfl⟩) hS (fun q _ h => hFc q h) hFc (fun r u t H locs ht hvm hw hB hz1 hk1 hS => ?_)
  obtain ⟨hP1, hD1⟩ := hB
  have hP1 := g5_ht ht hP1
  rcases hw with ⟨(i_1 : 0 ≤ p_1.toInt ∧ p_1.toInt ≤ 63), rfl, rfl⟩ | ⟨rfl, rfl⟩
  ·
    have hJ9 := g5_same hP hk1
    clear hP hPc hDc hFc ht hvm hz1 hk1 hP1 hD1
    have hP := hJ9
    clear hJ9
    refine lv_if_eq (tgt := 33) hx hb dX12_lit_9 (by decide +kernel) (fun c_2 => ?_) (fun c_2 => ?_)
    ·
      exact absurd c_2 (by decide +kernel)
    ·
      refine lv_iload_n hx hb dX12_lit_12 rfl (lv_at hl 2 rfl) ?_
      obtain ⟨hPc, hDc, hFc⟩ := g5_sub3 (wc := []) hP hD hS hA [] (by decide +kernel) rfl
      refine va_calli (va_runS (As := [.int p_2]) (rest := []) ⟨hx, hb, hml, hown, hts⟩ (n_isHour l G H.size p_2) (va_cwS 1 hts gS_X12_175 rfl rfl rfl hs_X12_isHour ⟨Nat.le_of_ble_eq_true rfl, Nat.le_of_ble_eq_true rfl⟩) (g5_preS hPc hK hDc hN hT hS hFc) rfl rfl hl.1 rfl (lv_room (Nat.le_of_ble_eq_true rfl)) dX12_lit_13 ⟨Nat.le_of_ble_eq_true rfl, Nat.le_of_ble_eq_true rfl⟩) hS (fun q _ h => hFc q h) hFc (fun r u t H locs ht hvm hw hB hz1 hk1 hS => ?_)
      obtain ⟨hP1, hD1⟩ := hB
      have hP1 := g5_ht ht hP1
      rcases hw with ⟨(i_3 : 0 ≤ p_2.toInt ∧ p_2.toInt ≤ 23), rfl, rfl⟩ | ⟨rfl, rfl⟩
      ·
        have hJ9 := g5_same hP hk1
        clear hP hPc hDc hFc ht hvm hz1 hk1 hP1 hD1
        have hP := hJ9
        clear hJ9
        refine lv_if_eq (tgt := 33) hx hb dX12_lit_16 (by decide +kernel) (fun c_4 => ?_) (fun c_4 => ?_)
        ·
          exact absurd c_4 (by decide +kernel)
        ·
          refine lv_iload_n hx hb dX12_lit_19 rfl (lv_at hl 3 rfl) ?_
          refine lv_i2l (v := p_3.toInt64) hx hb dX12_lit_20 rfl ?_
          refine lv_ldc2 (v := (-1)) hx hb hown (hts _ kl_X12_178) dX12_lit_21 ?_
          refine lv_ldc2 (v := 63) hx hb hown (hts _ kl_X12_128) dX12_lit_24 ?_
          obtain ⟨hPc, hDc, hFc⟩ := g5_sub3 (wc := []) hP hD hS hA [] (by decide +kernel) rfl
          refine va_calli (va_runS (As := [.long p_3.toInt64, .long (-1), .long 63]) (rest := []) ⟨hx, hb, hml, hown, hts⟩ (n_in_m1_63 l G H.size p_3) (va_cwS 3 hts gS_X12_121 rfl rfl rfl hs_X12_in ⟨Nat.le_of_ble_eq_true rfl, Nat.le_of_ble_eq_true rfl⟩) (g5_preS hPc hK hDc hN hT hS hFc) rfl rfl hl.1 rfl (lv_room (Nat.le_of_ble_eq_true rfl)) dX12_lit_27 ⟨Nat.le_of_ble_eq_true rfl, Nat.le_of_ble_eq_true rfl⟩) hS (fun q _ h => hFc q h) hFc (fun r u t H locs ht hvm hw hB hz1 hk1 hS => ?_)
          obtain ⟨hP1, hD1⟩ := hB
          have hP1 := g5_ht ht hP1
          rcases hw with ⟨(i_5 : p_3.toInt < (-1) ∨ 63 < p_3.toInt), rfl, rfl⟩ | ⟨(i_6 : (-1) ≤ p_3.toInt ∧ p_3.toInt ≤ 63), rfl, rfl⟩
          ·
            have hJ9 := g5_same hP hk1
            clear hP hPc hDc hFc ht hvm hz1 hk1 hP1 hD1
            have hP := hJ9
            clear hJ9
            refine lv_if_ne (tgt := 35) hx hb dX12_lit_30 (by decide +kernel) (fun c_7 => ?_) (fun c_7 => ?_)
            ·
              exact absurd c_7 (by decide +kernel)
            ·
              refine lv_iconst (v := (-1)) hx hb dX12_lit_33 (by decide +kernel) ?_
              exact W.iret (v := (-1)) hx hb hr (fun t ht hW => ⟨⟨(-1), [(b_o, (oc12 0 u_sa b_rf b_ro b_im b_ke u_fd b_tp u_td u_fr u_to u_so u_wo u_fa u_bd u_nc b_nl u_co b_op b_ar u_le b_pi b_pa u_pd u_od b_ws b_hw u_la b_se b_re u_bk u_va u_su u_ce u_ho u_wy u_bt u_ps b_pt u_tg u_sn b_ip u_ic b_ah b_be b_me u_wd b_tr b_ld u_st b_wn u_id)), (b_ro, (arI G 5740 v_ro)), (b_se, (arJ G 13 v_se)), (b_re, (arJ G 400 v_re)), (b_pt, (arI G 200 v_pt)), (b_ip, (arZ G 1536 v_ip))], rfl, ⟨(-1), 0, u_la, u_bk, u_va, u_su, u_ce, u_ho, u_wy, u_bt, u_ps, u_tg, u_sn, v_se, v_re, v_pt, v_ip, h_u_la, h_u_bk, h_u_ce, h_u_ho, h_u_wy, h_u_bt, h_u_ps, r_pt, rfl, rfl⟩, by rw [ht]; exact hP.sub [0, 1, 2, 3, 4, 5] rfl, hD.sub [0, 1, 2, 3, 4, 5] (by decide +kernel) rfl⟩, hS.F ht⟩) hS.2.2 dX12_lit_34
          ·
            have hJ9 := g5_same hP hk1
            clear hP hPc hDc hFc ht hvm hz1 hk1 hP1 hD1
            have hP := hJ9
            clear hJ9
            refine lv_if_ne (tgt := 35) hx hb dX12_lit_30 (by decide +kernel) (fun c_8 => ?_) (fun c_8 => ?_)
            ·
              refine lv_aload_n hx hb dX12_lit_35 rfl (lv_at hl 0 rfl) ?_
              obtain ⟨hPc, hDc, hFc⟩ := g5_sub3 (wc := [(b_o, (oc12 0 u_sa b_rf b_ro b_im b_ke u_fd b_tp u_td u_fr u_to u_so u_wo u_fa u_bd u_nc b_nl u_co b_op b_ar u_le b_pi b_pa u_pd u_od b_ws b_hw u_la b_se b_re u_bk u_va u_su u_ce u_ho u_wy u_bt u_ps b_pt u_tg u_sn b_ip u_ic b_ah b_be b_me u_wd b_tr b_ld u_st b_wn u_id)), (b_ip, (arZ G 1536 v_ip))]) hP hD hS hA [0, 5] (by decide +kernel) rfl
              refine va_callv (va_runV (As := []) (rest := []) ⟨hx, hb, hml, hown, hts⟩ (n_clearPoints l G b_o b_ip b_rf b_ro b_im b_ke b_tp b_nl b_op b_ar b_pi b_pa b_ws b_hw b_se b_re b_pt b_ah b_be b_me b_tr b_ld b_wn H.size 0 u_sa u_fd u_td u_fr u_to u_so u_fa u_bd u_nc u_co u_le u_pd u_od u_la u_bk u_ce u_ho u_wy u_bt u_ps u_tg u_sn u_ic u_wd u_id u_wo u_va u_su u_st v_ip h_u_td h_u_fr h_u_to h_u_bd h_u_nc h_u_co h_u_pd h_u_la h_u_bk h_u_ce h_u_ho h_u_wy h_u_bt h_u_ps h_u_ic h_u_id) (cwV 0 hts gV_X12_413 rfl rfl rfl hv_X12_clearPoints ⟨Nat.le_of_ble_eq_true rfl, Nat.le_of_ble_eq_true rfl⟩) (g5_preV hPc hK hDc hN hT hS hFc (ci := 12) (q0 := 0) rfl rfl) rfl rfl hl.1 rfl (lv_room (Nat.le_of_ble_eq_true rfl)) dX12_lit_36 ⟨Nat.le_of_ble_eq_true rfl, Nat.le_of_ble_eq_true rfl⟩) hS (fun q _ h => hFc q h) hFc (fun u t H locs ht hvm hw hB hz1 hk1 hS => ?_)
              obtain ⟨hP1, hD1⟩ := hB
              have hP1 := g5_ht ht hP1
              obtain ⟨z9, rfl⟩ := hw
              have hJ9 := va_join (wr := [(b_ro, (arI G 5740 v_ro)), (b_se, (arJ G 13 v_se)), (b_re, (arJ G 400 v_re)), (b_pt, (arI G 200 v_pt))]) hP hD [0, 5] [1, 2, 3, 4] rfl rfl (by decide +kernel) (by decide +kernel) hk1 hFc hP1 hD1
              clear hP hD hPc hDc hFc ht hvm hz1 hk1 hP1 hD1
              obtain ⟨hP, hD⟩ := hJ9
              refine g5_rs [(b_ro, (arI G 5740 v_ro)), (b_se, (arJ G 13 v_se)), (b_re, (arJ G 400 v_re)), (b_pt, (arI G 200 v_pt)), (b_o, (oc12 0 u_sa b_rf b_ro b_im b_ke u_fd b_tp u_td u_fr u_to u_so u_wo u_fa u_bd u_nc b_nl u_co b_op b_ar u_le b_pi b_pa u_pd u_od b_ws b_hw u_la b_se b_re u_bk u_va u_su u_ce u_ho u_wy u_bt u_ps b_pt u_tg u_sn b_ip u_ic b_ah b_be b_me u_wd b_tr b_ld u_st b_wn u_id)), (b_ip, (arZ G 1536 z9))] hP hD ?_
              clear hP hD
              intro hP hD
              refine lv_aload_n hx hb dX12_lit_39 rfl (lv_at hl 0 rfl) ?_
              refine lv_iload_n hx hb dX12_lit_40 rfl (lv_at hl 1 rfl) ?_
              refine lv_iload_n hx hb dX12_lit_41 rfl (lv_at hl 2 rfl) ?_
              obtain ⟨hPc, hDc, hFc⟩ := g5_sub3 (wc := [(b_o, (oc12 0 u_sa b_rf b_ro b_im b_ke u_fd b_tp u_td u_fr u_to u_so u_wo u_fa u_bd u_nc b_nl u_co b_op b_ar u_le b_pi b_pa u_pd u_od b_ws b_hw u_la b_se b_re u_bk u_va u_su u_ce u_ho u_wy u_bt u_ps b_pt u_tg u_sn b_ip u_ic b_ah b_be b_me u_wd b_tr b_ld u_st b_wn u_id)), (b_ro, (arI G 5740 v_ro)), (b_se, (arJ G 13 v_se)), (b_re, (arJ G 400 v_re)), (b_pt, (arI G 200 v_pt)), (b_ip, (arZ G 1536 z9))]) hP hD hS hA [4, 0, 1, 2, 3, 5] (by decide +kernel) rfl
              refine va_callv (va_runV (As := [.int p_1, .int p_2]) (rest := []) ⟨hx, hb, hml, hown, hts⟩ (n_mark l G b_o b_ro b_se b_re b_pt b_ip b_rf b_im b_ke b_tp b_nl b_op b_ar b_pi b_pa b_ws b_hw b_ah b_be b_me b_tr b_ld b_wn H.size 0 u_sa u_fd u_td u_fr u_to u_so u_fa u_bd u_nc u_co u_le u_pd u_od u_la u_bk u_ce u_ho u_wy u_bt u_ps u_tg u_sn u_ic u_wd u_id p_1 p_2 u_wo u_va u_su u_st v_ro v_se v_re v_pt z9 h_u_td h_u_fr h_u_to h_u_bd h_u_nc h_u_co h_u_pd h_u_la h_u_bk h_u_ce h_u_ho h_u_wy h_u_bt h_u_ps h_u_ic h_u_id i_1 i_3 (r_ro) (r_pt)) (cwV 2 hts gV_X12_416 rfl rfl rfl hv_X12_mark ⟨Nat.le_of_ble_eq_true rfl, Nat.le_of_ble_eq_true rfl⟩) (g5_preV hPc hK hDc hN hT hS hFc (ci := 12) (q0 := 0) rfl rfl) rfl rfl hl.1 rfl (lv_room (Nat.le_of_ble_eq_true rfl)) dX12_lit_42 ⟨Nat.le_of_ble_eq_true rfl, Nat.le_of_ble_eq_true rfl⟩) hS (fun q _ h => hFc q h) hFc (fun u t H locs ht hvm hw hB hz1 hk1 hS => ?_)
              obtain ⟨hP1, hD1⟩ := hB
              have hP1 := g5_ht ht hP1
              obtain ⟨z18, z19, z20, z21, z22, z23, z24, z25, z26, z27, z28, z29, z30, z31, z32, (i_10 : 0 ≤ z18.toInt ∧ z18.toInt ≤ 4840), (i_11 : 0 ≤ z19.toInt ∧ z19.toInt ≤ 1), (i_12 : 0 ≤ z22.toInt ∧ z22.toInt ≤ 63), (i_13 : 0 ≤ z23.toInt ∧ z23.toInt ≤ 23), (i_14 : 0 ≤ z24.toInt ∧ z24.toInt ≤ 3), (i_15 : 0 ≤ z25.toInt ∧ z25.toInt ≤ 1000000), (i_16 : 0 ≤ z26.toInt ∧ z26.toInt ≤ 200), (i_17 : PTI z31), rfl⟩ := hw
              have hJ9 := va_join (wr := []) hP hD [4, 0, 1, 2, 3, 5] [] rfl rfl (by decide +kernel) (by decide +kernel) hk1 hFc hP1 hD1
              clear hP hD hPc hDc hFc ht hvm hz1 hk1 hP1 hD1
              obtain ⟨hP, hD⟩ := hJ9
              refine g5_rs [(b_o, (oc12 0 u_sa b_rf b_ro b_im b_ke u_fd b_tp u_td u_fr u_to u_so u_wo u_fa u_bd u_nc b_nl u_co b_op b_ar u_le b_pi b_pa u_pd u_od b_ws b_hw z18 b_se b_re z19 z20 z21 z22 z23 z24 z25 z26 b_pt z27 z28 b_ip u_ic b_ah b_be b_me u_wd b_tr b_ld u_st b_wn u_id)), (b_ro, (arI G 5740 v_ro)), (b_se, (arJ G 13 z29)), (b_re, (arJ G 400 z30)), (b_pt, (arI G 200 z31)), (b_ip, (arZ G 1536 z32))] hP hD ?_
              clear hP hD
              intro hP hD
              refine lv_iconst (v := 0) hx hb dX12_lit_45 (by decide +kernel) ?_
              refine lv_istore (lv' := [(4, .int 0), (0, .ref b_o), (1, .int p_1), (2, .int p_2), (3, .int p_3)]) hx hb dX12_lit_46 hl (by decide +kernel) rfl ?_
              clear hl
              intro ls hl
              refine lv_iconst (v := 0) hx hb dX12_lit_48 (by decide +kernel) ?_
              refine lv_istore (lv' := [(5, .int 0), (4, .int 0), (0, .ref b_o), (1, .int p_1), (2, .int p_2), (3, .int p_3)]) hx hb dX12_lit_49 hl (by decide +kernel) rfl ?_
              clear hl
              intro ls hl
              refine g5_loop (α := (Int32) × (Int32)) (fun (q : (Int32) × (Int32)) (ls : Array Slot) (H : Heap) (locs : List Loc) => match q with | (k51_5, k51_4) => lv_has ls 8 [(4, .int k51_4), (5, .int k51_5), (0, .ref b_o), (1, .int p_1), (2, .int p_2), (3, .int p_3)] ∧ va_P G.1 vwCl [(b_o, (oc12 0 u_sa b_rf b_ro b_im b_ke u_fd b_tp u_td u_fr u_to u_so u_wo u_fa u_bd u_nc b_nl u_co b_op b_ar u_le b_pi b_pa u_pd u_od b_ws b_hw z18 b_se b_re z19 z20 z21 z22 z23 z24 z25 z26 b_pt z27 z28 b_ip u_ic b_ah b_be b_me u_wd b_tr b_ld u_st b_wn u_id)), (b_ro, (arI G 5740 v_ro)), (b_se, (arJ G 13 z29)), (b_re, (arJ G 400 z30)), (b_pt, (arI G 200 z31)), (b_ip, (arZ G 1536 z32))] H ∧ va_D A [(b_o, (oc12 0 u_sa b_rf b_ro b_im b_ke u_fd b_tp u_td u_fr u_to u_so u_wo u_fa u_bd u_nc b_nl u_co b_op b_ar u_le b_pi b_pa u_pd u_od b_ws b_hw z18 b_se b_re z19 z20 z21 z22 z23 z24 z25 z26 b_pt z27 z28 b_ip u_ic b_ah b_be b_me u_wd b_tr b_ld u_st b_wn u_id)), (b_ro, (arI G 5740 v_ro)), (b_se, (arJ G 13 z29)), (b_re, (arJ G 400 z30)), (b_pt, (arI G 200 z31)), (b_ip, (arZ G 1536 z32))] ∧ va_S A s.heap H locs ∧ (0 ≤ k51_5.toInt ∧ k51_5.toInt ≤ 64)) (fun (q : (Int32) × (Int32)) => match q with | (k51_5, k51_4) => Int.toNat (64 - k51_5.toInt)) (0, 0) ⟨lv_sub hl [1, 0, 2, 3, 4, 5] rfl, hP, hD, hS, ⟨by decide, by decide⟩⟩ ?_
              rintro ⟨k51_5, k51_4⟩ ls H locs ⟨hl, hP, hD, hS, (i_33 : 0 ≤ k51_5.toInt ∧ k51_5.toInt ≤ 64)⟩ ih_51_34
              replace hl : lv_has ls 8 [(4, .int k51_4), (5, .int k51_5), (0, .ref b_o), (1, .int p_1), (2, .int p_2), (3, .int p_3)] := hl
              refine g5_rs [(b_o, (oc12 0 u_sa b_rf b_ro b_im b_ke u_fd b_tp u_td u_fr u_to u_so u_wo u_fa u_bd u_nc b_nl u_co b_op b_ar u_le b_pi b_pa u_pd u_od b_ws b_hw z18 b_se b_re z19 z20 z21 z22 z23 z24 z25 z26 b_pt z27 z28 b_ip u_ic b_ah b_be b_me u_wd b_tr b_ld u_st b_wn u_id)), (b_ro, (arI G 5740 v_ro)), (b_se, (arJ G 13 z29)), (b_re, (arJ G 400 z30)), (b_pt, (arI G 200 z31)), (b_ip, (arZ G 1536 z32))] hP hD ?_
              clear hP hD
              intro hP hD
              refine lv_iload hx hb dX12_lit_51 (lv_at hl 1 rfl) ?_
              refine lv_bipush (v := 64) hx hb dX12_lit_53 (by decide +kernel) ?_
              refine lv_icmp_ge (tgt := 137) hx hb dX12_lit_55 (by decide +kernel) (fun c_35 => ?_) (fun c_35 => ?_)
              ·
                have i_35 : k51_5.toInt ≥ 64 := g5_ge (a := k51_5.toInt) (b := 64) rfl (by decide +kernel) c_35
                refine lv_iload hx hb dX12_lit_137 (lv_at hl 0 rfl) ?_
                exact W.iret (v := k51_4) hx hb hr (fun t ht hW => ⟨⟨k51_4, [(b_o, (oc12 0 u_sa b_rf b_ro b_im b_ke u_fd b_tp u_td u_fr u_to u_so u_wo u_fa u_bd u_nc b_nl u_co b_op b_ar u_le b_pi b_pa u_pd u_od b_ws b_hw z18 b_se b_re z19 z20 z21 z22 z23 z24 z25 z26 b_pt z27 z28 b_ip u_ic b_ah b_be b_me u_wd b_tr b_ld u_st b_wn u_id)), (b_ro, (arI G 5740 v_ro)), (b_se, (arJ G 13 z29)), (b_re, (arJ G 400 z30)), (b_pt, (arI G 200 z31)), (b_ip, (arZ G 1536 z32))], rfl, ⟨k51_4, 0, z18, z19, z20, z21, z22, z23, z24, z25, z26, z27, z28, z29, z30, z31, z32, i_10, i_11, i_12, i_13, i_14, i_15, i_16, i_17, rfl, rfl⟩, by rw [ht]; exact hP.sub [0, 1, 2, 3, 4, 5] rfl, hD.sub [0, 1, 2, 3, 4, 5] (by decide +kernel) rfl⟩, hS.F ht⟩) hS.2.2 dX12_lit_139
              ·
                have i_35 : k51_5.toInt < 64 := g5_geN (a := k51_5.toInt) (b := 64) rfl (by decide +kernel) c_35
                refine lv_iconst (v := 0) hx hb dX12_lit_58 (by decide +kernel) ?_
                refine lv_istore (lv' := [(6, .int 0), (4, .int k51_4), (5, .int k51_5), (0, .ref b_o), (1, .int p_1), (2, .int p_2), (3, .int p_3)]) hx hb dX12_lit_59 hl (by decide +kernel) rfl ?_
                clear hl
                intro ls hl
                refine lv_iconst (v := 0) hx hb dX12_lit_61 (by decide +kernel) ?_
                refine lv_istore (lv' := [(7, .int 0), (6, .int 0), (4, .int k51_4), (5, .int k51_5), (0, .ref b_o), (1, .int p_1), (2, .int p_2), (3, .int p_3)]) hx hb dX12_lit_62 hl (by decide +kernel) rfl ?_
                clear hl
                intro ls hl
                refine g5_loop (α := (Int32) × (Int32)) (fun (q : (Int32) × (Int32)) (ls : Array Slot) (H : Heap) (locs : List Loc) => match q with | (k64_7, k64_6) => lv_has ls 8 [(6, .int k64_6), (7, .int k64_7), (4, .int k51_4), (5, .int k51_5), (0, .ref b_o), (1, .int p_1), (2, .int p_2), (3, .int p_3)] ∧ va_P G.1 vwCl [(b_o, (oc12 0 u_sa b_rf b_ro b_im b_ke u_fd b_tp u_td u_fr u_to u_so u_wo u_fa u_bd u_nc b_nl u_co b_op b_ar u_le b_pi b_pa u_pd u_od b_ws b_hw z18 b_se b_re z19 z20 z21 z22 z23 z24 z25 z26 b_pt z27 z28 b_ip u_ic b_ah b_be b_me u_wd b_tr b_ld u_st b_wn u_id)), (b_ro, (arI G 5740 v_ro)), (b_se, (arJ G 13 z29)), (b_re, (arJ G 400 z30)), (b_pt, (arI G 200 z31)), (b_ip, (arZ G 1536 z32))] H ∧ va_D A [(b_o, (oc12 0 u_sa b_rf b_ro b_im b_ke u_fd b_tp u_td u_fr u_to u_so u_wo u_fa u_bd u_nc b_nl u_co b_op b_ar u_le b_pi b_pa u_pd u_od b_ws b_hw z18 b_se b_re z19 z20 z21 z22 z23 z24 z25 z26 b_pt z27 z28 b_ip u_ic b_ah b_be b_me u_wd b_tr b_ld u_st b_wn u_id)), (b_ro, (arI G 5740 v_ro)), (b_se, (arJ G 13 z29)), (b_re, (arJ G 400 z30)), (b_pt, (arI G 200 z31)), (b_ip, (arZ G 1536 z32))] ∧ va_S A s.heap H locs ∧ (0 ≤ k64_7.toInt ∧ k64_7.toInt ≤ 24) ∧ (0 ≤ k64_6.toInt ∧ k64_6.toInt ≤ 1)) (fun (q : (Int32) × (Int32)) => match q with | (k64_7, k64_6) => Int.toNat (24 - k64_7.toInt)) (0, 0) ⟨lv_sub hl [1, 0, 2, 3, 4, 5, 6, 7] rfl, hP, hD, hS, ⟨by decide, by decide⟩, ⟨by decide, by decide⟩⟩ ?_
                rintro ⟨k64_7, k64_6⟩ ls H locs ⟨hl, hP, hD, hS, (i_36 : 0 ≤ k64_7.toInt ∧ k64_7.toInt ≤ 24), (i_37 : 0 ≤ k64_6.toInt ∧ k64_6.toInt ≤ 1)⟩ ih_64_38
                replace hl : lv_has ls 8 [(6, .int k64_6), (7, .int k64_7), (4, .int k51_4), (5, .int k51_5), (0, .ref b_o), (1, .int p_1), (2, .int p_2), (3, .int p_3)] := hl
                refine g5_rs [(b_o, (oc12 0 u_sa b_rf b_ro b_im b_ke u_fd b_tp u_td u_fr u_to u_so u_wo u_fa u_bd u_nc b_nl u_co b_op b_ar u_le b_pi b_pa u_pd u_od b_ws b_hw z18 b_se b_re z19 z20 z21 z22 z23 z24 z25 z26 b_pt z27 z28 b_ip u_ic b_ah b_be b_me u_wd b_tr b_ld u_st b_wn u_id)), (b_ro, (arI G 5740 v_ro)), (b_se, (arJ G 13 z29)), (b_re, (arJ G 400 z30)), (b_pt, (arI G 200 z31)), (b_ip, (arZ G 1536 z32))] hP hD ?_
                clear hP hD
                intro hP hD
                refine lv_iload hx hb dX12_lit_64 (lv_at hl 1 rfl) ?_
                refine lv_bipush (v := 24) hx hb dX12_lit_66 (by decide +kernel) ?_
                refine lv_icmp_ge (tgt := 105) hx hb dX12_lit_68 (by decide +kernel) (fun c_39 => ?_) (fun c_39 => ?_)
                ·
                  have i_39 : k64_7.toInt ≥ 24 := g5_ge (a := k64_7.toInt) (b := 24) rfl (by decide +kernel) c_39
                  refine lv_iload hx hb dX12_lit_105 (lv_at hl 2 rfl) ?_
                  refine lv_iload hx hb dX12_lit_107 (lv_at hl 0 rfl) ?_
                  refine lv_if_eq (tgt := 127) hx hb dX12_lit_109 (by decide +kernel) (fun c_40 => ?_) (fun c_40 => ?_)
                  ·
                    have i_40 : k64_6.toInt = 0 := g5_eq (a := k64_6.toInt) (b := 0) rfl (by decide +kernel) c_40
                    refine lv_iconst (v := 0) hx hb dX12_lit_127 (by decide +kernel) ?_
                    refine lv_iadd hx hb dX12_lit_128 ?_
                    refine g5_ti (v := k51_4) (by simp) ?_
                    refine lv_istore (lv' := [(4, .int k51_4), (6, .int k64_6), (7, .int k64_7), (5, .int k51_5), (0, .ref b_o), (1, .int p_1), (2, .int p_2), (3, .int p_3)]) hx hb dX12_lit_129 hl (by decide +kernel) rfl ?_
                    clear hl
                    intro ls hl
                    refine lv_iinc (v := (k51_5 + 1)) (lv' := [(5, .int (k51_5 + 1)), (4, .int k51_4), (6, .int k64_6), (7, .int k64_7), (0, .ref b_o), (1, .int p_1), (2, .int p_2), (3, .int p_3)]) hx hb dX12_lit_131 hl (k := 3) rfl rfl (by decide +kernel) rfl ?_
                    clear hl
                    intro ls hl
                    have t_41 : (k51_5 + 1).toInt = k51_5.toInt + 1 := g5_iadd (a := k51_5.toInt) (b := 1) rfl (by decide +kernel) (by omega) (by omega)
                    refine lv_goto (tgt := 51) hx hb dX12_lit_134 (by decide +kernel) ?_
                    exact ih_51_34 ((k51_5 + 1), k51_4) ls H locs (show Int.toNat (64 - (k51_5 + 1).toInt) < Int.toNat (64 - k51_5.toInt) from g_up (show k51_5.toInt < (k51_5 + 1).toInt by omega) (show k51_5.toInt < 64 by omega)) ⟨lv_sub hl [1, 0, 4, 5, 6, 7] rfl, hP, hD, hS, ⟨by omega, by omega⟩⟩
                  ·
                    have n_40 : gNe (k64_6.toInt) (0) := g5_eqN (a := k64_6.toInt) (b := 0) rfl (by decide +kernel) c_40
                    have i_40 : k64_6.toInt ≥ 1 := by have z := g5_eqN (a := k64_6.toInt) (b := 0) (by rfl) (by decide +kernel) c_40; omega
                    refine lv_iload_n hx hb dX12_lit_112 rfl (lv_at hl 7 rfl) ?_
                    refine lv_iconst (v := (-1)) hx hb dX12_lit_113 (by decide +kernel) ?_
                    refine lv_icmp_eq (tgt := 123) hx hb dX12_lit_114 (by decide +kernel) (fun c_42 => ?_) (fun c_42 => ?_)
                    ·
                      have i_42 : p_3.toInt = (-1) := g5_eq (a := p_3.toInt) (b := (-1)) rfl (by decide +kernel) c_42
                      refine lv_iconst (v := 1) hx hb dX12_lit_123 (by decide +kernel) ?_
                      refine lv_goto (tgt := 128) hx hb dX12_lit_124 (by decide +kernel) ?_
                      refine lv_iadd hx hb dX12_lit_128 ?_
                      refine lv_istore (lv' := [(4, .int (k51_4 + 1)), (6, .int k64_6), (7, .int k64_7), (5, .int k51_5), (0, .ref b_o), (1, .int p_1), (2, .int p_2), (3, .int p_3)]) hx hb dX12_lit_129 hl (by decide +kernel) rfl ?_
                      clear hl
                      intro ls hl
                      refine lv_iinc (v := (k51_5 + 1)) (lv' := [(5, .int (k51_5 + 1)), (4, .int (k51_4 + 1)), (6, .int k64_6), (7, .int k64_7), (0, .ref b_o), (1, .int p_1), (2, .int p_2), (3, .int p_3)]) hx hb dX12_lit_131 hl (k := 3) rfl rfl (by decide +kernel) rfl ?_
                      clear hl
                      intro ls hl
                      have t_43 : (k51_5 + 1).toInt = k51_5.toInt + 1 := g5_iadd (a := k51_5.toInt) (b := 1) rfl (by decide +kernel) (by omega) (by omega)
                      refine lv_goto (tgt := 51) hx hb dX12_lit_134 (by decide +kernel) ?_
                      exact ih_51_34 ((k51_5 + 1), (k51_4 + 1)) ls H locs (show Int.toNat (64 - (k51_5 + 1).toInt) < Int.toNat (64 - k51_5.toInt) from g_up (show k51_5.toInt < (k51_5 + 1).toInt by omega) (show k51_5.toInt < 64 by omega)) ⟨lv_sub hl [1, 0, 4, 5, 6, 7] rfl, hP, hD, hS, ⟨by omega, by omega⟩⟩
                    ·
                      have n_42 : gNe (p_3.toInt) ((-1)) := g5_eqN (a := p_3.toInt) (b := (-1)) rfl (by decide +kernel) c_42
                      have i_42 : p_3.toInt ≥ 0 := by have z := g5_eqN (a := p_3.toInt) (b := (-1)) (by rfl) (by decide +kernel) c_42; omega
                      refine lv_iload_n hx hb dX12_lit_117 rfl (lv_at hl 7 rfl) ?_
                      refine lv_iload hx hb dX12_lit_118 (lv_at hl 3 rfl) ?_
                      refine lv_icmp_ne (tgt := 127) hx hb dX12_lit_120 (by decide +kernel) (fun c_44 => ?_) (fun c_44 => ?_)
                      ·
                        have n_44 : gNe (p_3.toInt) (k51_5.toInt) := g5_ne (a := p_3.toInt) (b := k51_5.toInt) rfl rfl c_44
                        refine lv_iconst (v := 0) hx hb dX12_lit_127 (by decide +kernel) ?_
                        refine lv_iadd hx hb dX12_lit_128 ?_
                        refine g5_ti (v := k51_4) (by simp) ?_
                        refine lv_istore (lv' := [(4, .int k51_4), (6, .int k64_6), (7, .int k64_7), (5, .int k51_5), (0, .ref b_o), (1, .int p_1), (2, .int p_2), (3, .int p_3)]) hx hb dX12_lit_129 hl (by decide +kernel) rfl ?_
                        clear hl
                        intro ls hl
                        refine lv_iinc (v := (k51_5 + 1)) (lv' := [(5, .int (k51_5 + 1)), (4, .int k51_4), (6, .int k64_6), (7, .int k64_7), (0, .ref b_o), (1, .int p_1), (2, .int p_2), (3, .int p_3)]) hx hb dX12_lit_131 hl (k := 3) rfl rfl (by decide +kernel) rfl ?_
                        clear hl
                        intro ls hl
                        have t_45 : (k51_5 + 1).toInt = k51_5.toInt + 1 := g5_iadd (a := k51_5.toInt) (b := 1) rfl (by decide +kernel) (by omega) (by omega)
                        refine lv_goto (tgt := 51) hx hb dX12_lit_134 (by decide +kernel) ?_
                        exact ih_51_34 ((k51_5 + 1), k51_4) ls H locs (show Int.toNat (64 - (k51_5 + 1).toInt) < Int.toNat (64 - k51_5.toInt) from g_up (show k51_5.toInt < (k51_5 + 1).toInt by omega) (show k51_5.toInt < 64 by omega)) ⟨lv_sub hl [1, 0, 4, 5, 6, 7] rfl, hP, hD, hS, ⟨by omega, by omega⟩⟩
                      ·
                        have i_44 : p_3.toInt = k51_5.toInt := g5_neN (a := p_3.toInt) (b := k51_5.toInt) rfl rfl c_44
                        refine lv_iconst (v := 1) hx hb dX12_lit_123 (by decide +kernel) ?_
                        refine lv_goto (tgt := 128) hx hb dX12_lit_124 (by decide +kernel) ?_
                        refine lv_iadd hx hb dX12_lit_128 ?_
                        refine lv_istore (lv' := [(4, .int (k51_4 + 1)), (6, .int k64_6), (7, .int k64_7), (5, .int k51_5), (0, .ref b_o), (1, .int p_1), (2, .int p_2), (3, .int p_3)]) hx hb dX12_lit_129 hl (by decide +kernel) rfl ?_
                        clear hl
                        intro ls hl
                        refine lv_iinc (v := (k51_5 + 1)) (lv' := [(5, .int (k51_5 + 1)), (4, .int (k51_4 + 1)), (6, .int k64_6), (7, .int k64_7), (0, .ref b_o), (1, .int p_1), (2, .int p_2), (3, .int p_3)]) hx hb dX12_lit_131 hl (k := 3) rfl rfl (by decide +kernel) rfl ?_
                        clear hl
                        intro ls hl
                        have t_46 : (k51_5 + 1).toInt = k51_5.toInt + 1 := g5_iadd (a := k51_5.toInt) (b := 1) rfl (by decide +kernel) (by omega) (by omega)
                        refine lv_goto (tgt := 51) hx hb dX12_lit_134 (by decide +kernel) ?_
                        exact ih_51_34 ((k51_5 + 1), (k51_4 + 1)) ls H locs (show Int.toNat (64 - (k51_5 + 1).toInt) < Int.toNat (64 - k51_5.toInt) from g_up (show k51_5.toInt < (k51_5 + 1).toInt by omega) (show k51_5.toInt < 64 by omega)) ⟨lv_sub hl [1, 0, 4, 5, 6, 7] rfl, hP, hD, hS, ⟨by omega, by omega⟩⟩
                ·
                  have i_39 : k64_7.toInt < 24 := g5_geN (a := k64_7.toInt) (b := 24) rfl (by decide +kernel) c_39
                  refine lv_iload hx hb dX12_lit_71 (lv_at hl 0 rfl) ?_
                  refine lv_if_ne (tgt := 92) hx hb dX12_lit_73 (by decide +kernel) (fun c_47 => ?_) (fun c_47 => ?_)
                  ·
                    have n_47 : gNe (k64_6.toInt) (0) := g5_ne (a := k64_6.toInt) (b := 0) rfl (by decide +kernel) c_47
                    have i_47 : k64_6.toInt ≥ 1 := by have z := g5_ne (a := k64_6.toInt) (b := 0) (by rfl) (by decide +kernel) c_47; omega
                    refine lv_iconst (v := 1) hx hb dX12_lit_92 (by decide +kernel) ?_
                    refine lv_goto (tgt := 97) hx hb dX12_lit_93 (by decide +kernel) ?_
                    refine lv_istore (lv' := [(6, .int 1), (7, .int k64_7), (4, .int k51_4), (5, .int k51_5), (0, .ref b_o), (1, .int p_1), (2, .int p_2), (3, .int p_3)]) hx hb dX12_lit_97 hl (by decide +kernel) rfl ?_
                    clear hl
                    intro ls hl
                    refine lv_iinc (v := (k64_7 + 1)) (lv' := [(7, .int (k64_7 + 1)), (6, .int 1), (4, .int k51_4), (5, .int k51_5), (0, .ref b_o), (1, .int p_1), (2, .int p_2), (3, .int p_3)]) hx hb dX12_lit_99 hl (k := 1) rfl rfl (by decide +kernel) rfl ?_
                    clear hl
                    intro ls hl
                    have t_48 : (k64_7 + 1).toInt = k64_7.toInt + 1 := g5_iadd (a := k64_7.toInt) (b := 1) rfl (by decide +kernel) (by omega) (by omega)
                    refine lv_goto (tgt := 64) hx hb dX12_lit_102 (by decide +kernel) ?_
                    exact ih_64_38 ((k64_7 + 1), 1) ls H locs (show Int.toNat (24 - (k64_7 + 1).toInt) < Int.toNat (24 - k64_7.toInt) from g_up (show k64_7.toInt < (k64_7 + 1).toInt by omega) (show k64_7.toInt < 24 by omega)) ⟨lv_sub hl [1, 0, 2, 3, 4, 5, 6, 7] rfl, hP, hD, hS, ⟨by omega, by omega⟩, ⟨by decide, by decide⟩⟩
                  ·
                    have i_47 : k64_6.toInt = 0 := g5_neN (a := k64_6.toInt) (b := 0) rfl (by decide +kernel) c_47
                    refine lv_aload_n hx hb dX12_lit_76 rfl (lv_at hl 4 rfl) ?_
                    refine va_get (D := G.1) (ci := 12) (v := .ref b_ip) (C := RX12) (T := TX12) (N := 52) hx hb hts inG_X12 hown hK hP 0 rfl rfl 41 (by decide +kernel) (hts _ fl_X12_85) (fun _ h9 => h9) rfl dX12_lit_77 ?_
                    refine lv_bipush (v := 64) hx hb dX12_lit_80 (by decide +kernel) ?_
                    refine lv_iload hx hb dX12_lit_82 (lv_at hl 1 rfl) ?_
                    refine lv_imul hx hb dX12_lit_84 ?_
                    have t_49 : (64 * k64_7).toInt = 64 * k64_7.toInt := g5_imul (a := 64) (b := k64_7.toInt) (by decide +kernel) (by rfl) (by omega) (by omega)
                    refine lv_iload hx hb dX12_lit_85 (lv_at hl 3 rfl) ?_
                    refine lv_iadd hx hb dX12_lit_87 ?_
                    have t_50 : ((64 * k64_7) + k51_5).toInt = (64 * k64_7).toInt + k51_5.toInt := g5_iadd (a := (64 * k64_7).toInt) (b := k51_5.toInt) (by rfl) (by rfl) (by omega) (by omega)
                    refine va_zald hx hb hK hP 5 2 rfl rfl (i := ((64 * k64_7) + k51_5)) (vp_in_iff.mpr ⟨by omega, by omega⟩) dX12_lit_88 ?_
                    refine lv_if_eq (tgt := 96) hx hb dX12_lit_89 (by decide +kernel) (fun c_51 => ?_) (fun c_51 => ?_)
                    ·
                      have i_51 : (z32 ((64 * k64_7) + k51_5).toNatClampNeg).toInt = 0 := g5_eq (a := (z32 ((64 * k64_7) + k51_5).toNatClampNeg).toInt) (b := 0) rfl (by decide +kernel) c_51
                      refine lv_iconst (v := 0) hx hb dX12_lit_96 (by decide +kernel) ?_
                      refine lv_istore (lv' := [(6, .int 0), (7, .int k64_7), (4, .int k51_4), (5, .int k51_5), (0, .ref b_o), (1, .int p_1), (2, .int p_2), (3, .int p_3)]) hx hb dX12_lit_97 hl (by decide +kernel) rfl ?_
                      clear hl
                      intro ls hl
                      refine lv_iinc (v := (k64_7 + 1)) (lv' := [(7, .int (k64_7 + 1)), (6, .int 0), (4, .int k51_4), (5, .int k51_5), (0, .ref b_o), (1, .int p_1), (2, .int p_2), (3, .int p_3)]) hx hb dX12_lit_99 hl (k := 1) rfl rfl (by decide +kernel) rfl ?_
                      clear hl
                      intro ls hl
                      have t_52 : (k64_7 + 1).toInt = k64_7.toInt + 1 := g5_iadd (a := k64_7.toInt) (b := 1) rfl (by decide +kernel) (by omega) (by omega)
                      refine lv_goto (tgt := 64) hx hb dX12_lit_102 (by decide +kernel) ?_
                      exact ih_64_38 ((k64_7 + 1), 0) ls H locs (show Int.toNat (24 - (k64_7 + 1).toInt) < Int.toNat (24 - k64_7.toInt) from g_up (show k64_7.toInt < (k64_7 + 1).toInt by omega) (show k64_7.toInt < 24 by omega)) ⟨lv_sub hl [1, 0, 2, 3, 4, 5, 6, 7] rfl, hP, hD, hS, ⟨by omega, by omega⟩, ⟨by decide, by decide⟩⟩
                    ·
                      have n_51 : gNe ((z32 ((64 * k64_7) + k51_5).toNatClampNeg).toInt) (0) := g5_eqN (a := (z32 ((64 * k64_7) + k51_5).toNatClampNeg).toInt) (b := 0) rfl (by decide +kernel) c_51
                      refine lv_iconst (v := 1) hx hb dX12_lit_92 (by decide +kernel) ?_
                      refine lv_goto (tgt := 97) hx hb dX12_lit_93 (by decide +kernel) ?_
                      refine lv_istore (lv' := [(6, .int 1), (7, .int k64_7), (4, .int k51_4), (5, .int k51_5), (0, .ref b_o), (1, .int p_1), (2, .int p_2), (3, .int p_3)]) hx hb dX12_lit_97 hl (by decide +kernel) rfl ?_
                      clear hl
                      intro ls hl
                      refine lv_iinc (v := (k64_7 + 1)) (lv' := [(7, .int (k64_7 + 1)), (6, .int 1), (4, .int k51_4), (5, .int k51_5), (0, .ref b_o), (1, .int p_1), (2, .int p_2), (3, .int p_3)]) hx hb dX12_lit_99 hl (k := 1) rfl rfl (by decide +kernel) rfl ?_
                      clear hl
                      intro ls hl
                      have t_53 : (k64_7 + 1).toInt = k64_7.toInt + 1 := g5_iadd (a := k64_7.toInt) (b := 1) rfl (by decide +kernel) (by omega) (by omega)
                      refine lv_goto (tgt := 64) hx hb dX12_lit_102 (by decide +kernel) ?_
                      exact ih_64_38 ((k64_7 + 1), 1) ls H locs (show Int.toNat (24 - (k64_7 + 1).toInt) < Int.toNat (24 - k64_7.toInt) from g_up (show k64_7.toInt < (k64_7 + 1).toInt by omega) (show k64_7.toInt < 24 by omega)) ⟨lv_sub hl [1, 0, 2, 3, 4, 5, 6, 7] rfl, hP, hD, hS, ⟨by omega, by omega⟩, ⟨by decide, by decide⟩⟩
            ·
              exact absurd c_8 (by decide +kernel)
      ·
        have hJ9 := g5_same hP hk1
        clear hP hPc hDc hFc ht hvm hz1 hk1 hP1 hD1
        have hP := hJ9
        clear hJ9
        refine lv_if_eq (tgt := 33) hx hb dX12_lit_16 (by decide +kernel) (fun c_54 => ?_) (fun c_54 => ?_)
        ·
          refine lv_iconst (v := (-1)) hx hb dX12_lit_33 (by decide +kernel) ?_
          exact W.iret (v := (-1)) hx hb hr (fun t ht hW => ⟨⟨(-1), [(b_o, (oc12 0 u_sa b_rf b_ro b_im b_ke u_fd b_tp u_td u_fr u_to u_so u_wo u_fa u_bd u_nc b_nl u_co b_op b_ar u_le b_pi b_pa u_pd u_od b_ws b_hw u_la b_se b_re u_bk u_va u_su u_ce u_ho u_wy u_bt u_ps b_pt u_tg u_sn b_ip u_ic b_ah b_be b_me u_wd b_tr b_ld u_st b_wn u_id)), (b_ro, (arI G 5740 v_ro)), (b_se, (arJ G 13 v_se)), (b_re, (arJ G 400 v_re)), (b_pt, (arI G 200 v_pt)), (b_ip, (arZ G 1536 v_ip))], rfl, ⟨(-1), 0, u_la, u_bk, u_va, u_su, u_ce, u_ho, u_wy, u_bt, u_ps, u_tg, u_sn, v_se, v_re, v_pt, v_ip, h_u_la, h_u_bk, h_u_ce, h_u_ho, h_u_wy, h_u_bt, h_u_ps, r_pt, rfl, rfl⟩, by rw [ht]; exact hP.sub [0, 1, 2, 3, 4, 5] rfl, hD.sub [0, 1, 2, 3, 4, 5] (by decide +kernel) rfl⟩, hS.F ht⟩) hS.2.2 dX12_lit_34
        ·
          exact absurd c_54 (by decide +kernel)
  ·
    have hJ9 := g5_same hP hk1
    clear hP hPc hDc hFc ht hvm hz1 hk1 hP1 hD1
    have hP := hJ9
    clear hJ9
    refine lv_if_eq (tgt := 33) hx hb dX12_lit_9 (by decide +kernel) (fun c_55 => ?_) (fun c_55 => ?_)
    ·
      refine lv_iconst (v := (-1)) hx hb dX12_lit_33 (by decide +kernel) ?_
      exact W.iret (v := (-1)) hx hb hr (fun t ht hW => ⟨⟨(-1), [(b_o, (oc12 0 u_sa b_rf b_ro b_im b_ke u_fd b_tp u_td u_fr u_to u_so u_wo u_fa u_bd u_nc b_nl u_co b_op b_ar u_le b_pi b_pa u_pd u_od b_ws b_hw u_la b_se b_re u_bk u_va u_su u_ce u_ho u_wy u_bt u_ps b_pt u_tg u_sn b_ip u_ic b_ah b_be b_me u_wd b_tr b_ld u_st b_wn u_id)), (b_ro, (arI G 5740 v_ro)), (b_se, (arJ G 13 v_se)), (b_re, (arJ G 400 v_re)), (b_pt, (arI G 200 v_pt)), (b_ip, (arZ G 1536 v_ip))], rfl, ⟨(-1), 0, u_la, u_bk, u_va, u_su, u_ce, u_ho, u_wy, u_bt, u_ps, u_tg, u_sn, v_se, v_re, v_pt, v_ip, h_u_la, h_u_bk, h_u_ce, h_u_ho, h_u_wy, h_u_bt, h_u_ps, r_pt, rfl, rfl⟩, by rw [ht]; exact hP.sub [0, 1, 2, 3, 4, 5] rfl, hD.sub [0, 1, 2, 3, 4, 5] (by decide +kernel) rfl⟩, hS.F ht⟩) hS.2.2 dX12_lit_34
    ·
      exact absurd c_55 (by decide +kernel)
theorem dgX12_markAll_0 : ∀ r ∈ ([(0, (.aload_n 0, 1)), (1, (.invokevirtual 413, 3)), (4, (.iconst 0, 1)), (5, (.istore_n 1, 1)), (6, (.iload_n 1, 1)), (7, (.aload_n 0, 1)), (8, (.getfield 13, 3)), (11, (.iconst 1, 1)), (12, (.iaload, 1)), (13, (.if_icmp .ge 44, 3)), (16, (.iconst 0, 1)), (17, (.istore_n 2, 1)), (18, (.iload_n 2, 1)), (19, (.bipush 24, 2)), (21, (.if_icmp .ge 30, 3)), (24, (.aload_n 0, 1)), (25, (.iload_n 1, 1)), (26, (.iload_n 2, 1)), (27, (.invokevirtual 187, 3)), (30, (.iconst (-1), 1)), (31, (.if_icmp .eq 14, 3)), (34, (.aload_n 0, 1)), (35, (.aload_n 0, 1)), (36, (.iload_n 1, 1)), (37, (.iload_n 2, 1)), (38, (.invokevirtual 187, 3)), (41, (.iload_n 2, 1)), (42, (.invokevirtual 416, 3)), (45, (.iinc 2 1, 3)), (48, (.goto (-30), 3)), (51, (.iinc 1 1, 3)), (54, (.goto (-48), 3)), (57, (.return_, 1))] : List (Nat × (Instr × Nat))), decode cX12_markAll r.1 = .ok r.2 := by decide +kernel
theorem dX12_markAll_0 : decode cX12_markAll 0 = .ok (.aload_n 0, 1) := dgX12_markAll_0 (0, (.aload_n 0, 1)) (List.mem_of_getElem? (i := 0) rfl)
theorem dX12_markAll_1 : decode cX12_markAll 1 = .ok (.invokevirtual 413, 3) := dgX12_markAll_0 (1, (.invokevirtual 413, 3)) (List.mem_of_getElem? (i := 1) rfl)
theorem dX12_markAll_4 : decode cX12_markAll 4 = .ok (.iconst 0, 1) := dgX12_markAll_0 (4, (.iconst 0, 1)) (List.mem_of_getElem? (i := 2) rfl)
theorem dX12_markAll_5 : decode cX12_markAll 5 = .ok (.istore_n 1, 1) := dgX12_markAll_0 (5, (.istore_n 1, 1)) (List.mem_of_getElem? (i := 3) rfl)
theorem dX12_markAll_6 : decode cX12_markAll 6 = .ok (.iload_n 1, 1) := dgX12_markAll_0 (6, (.iload_n 1, 1)) (List.mem_of_getElem? (i := 4) rfl)
theorem dX12_markAll_7 : decode cX12_markAll 7 = .ok (.aload_n 0, 1) := dgX12_markAll_0 (7, (.aload_n 0, 1)) (List.mem_of_getElem? (i := 5) rfl)
theorem dX12_markAll_8 : decode cX12_markAll 8 = .ok (.getfield 13, 3) := dgX12_markAll_0 (8, (.getfield 13, 3)) (List.mem_of_getElem? (i := 6) rfl)
theorem dX12_markAll_11 : decode cX12_markAll 11 = .ok (.iconst 1, 1) := dgX12_markAll_0 (11, (.iconst 1, 1)) (List.mem_of_getElem? (i := 7) rfl)
theorem dX12_markAll_12 : decode cX12_markAll 12 = .ok (.iaload, 1) := dgX12_markAll_0 (12, (.iaload, 1)) (List.mem_of_getElem? (i := 8) rfl)
theorem dX12_markAll_13 : decode cX12_markAll 13 = .ok (.if_icmp .ge 44, 3) := dgX12_markAll_0 (13, (.if_icmp .ge 44, 3)) (List.mem_of_getElem? (i := 9) rfl)
theorem dX12_markAll_16 : decode cX12_markAll 16 = .ok (.iconst 0, 1) := dgX12_markAll_0 (16, (.iconst 0, 1)) (List.mem_of_getElem? (i := 10) rfl)
theorem dX12_markAll_17 : decode cX12_markAll 17 = .ok (.istore_n 2, 1) := dgX12_markAll_0 (17, (.istore_n 2, 1)) (List.mem_of_getElem? (i := 11) rfl)
theorem dX12_markAll_18 : decode cX12_markAll 18 = .ok (.iload_n 2, 1) := dgX12_markAll_0 (18, (.iload_n 2, 1)) (List.mem_of_getElem? (i := 12) rfl)
theorem dX12_markAll_19 : decode cX12_markAll 19 = .ok (.bipush 24, 2) := dgX12_markAll_0 (19, (.bipush 24, 2)) (List.mem_of_getElem? (i := 13) rfl)
theorem dX12_markAll_21 : decode cX12_markAll 21 = .ok (.if_icmp .ge 30, 3) := dgX12_markAll_0 (21, (.if_icmp .ge 30, 3)) (List.mem_of_getElem? (i := 14) rfl)
theorem dX12_markAll_24 : decode cX12_markAll 24 = .ok (.aload_n 0, 1) := dgX12_markAll_0 (24, (.aload_n 0, 1)) (List.mem_of_getElem? (i := 15) rfl)
theorem dX12_markAll_25 : decode cX12_markAll 25 = .ok (.iload_n 1, 1) := dgX12_markAll_0 (25, (.iload_n 1, 1)) (List.mem_of_getElem? (i := 16) rfl)
theorem dX12_markAll_26 : decode cX12_markAll 26 = .ok (.iload_n 2, 1) := dgX12_markAll_0 (26, (.iload_n 2, 1)) (List.mem_of_getElem? (i := 17) rfl)
theorem dX12_markAll_27 : decode cX12_markAll 27 = .ok (.invokevirtual 187, 3) := dgX12_markAll_0 (27, (.invokevirtual 187, 3)) (List.mem_of_getElem? (i := 18) rfl)
theorem dX12_markAll_30 : decode cX12_markAll 30 = .ok (.iconst (-1), 1) := dgX12_markAll_0 (30, (.iconst (-1), 1)) (List.mem_of_getElem? (i := 19) rfl)
theorem dX12_markAll_31 : decode cX12_markAll 31 = .ok (.if_icmp .eq 14, 3) := dgX12_markAll_0 (31, (.if_icmp .eq 14, 3)) (List.mem_of_getElem? (i := 20) rfl)
theorem dX12_markAll_34 : decode cX12_markAll 34 = .ok (.aload_n 0, 1) := dgX12_markAll_0 (34, (.aload_n 0, 1)) (List.mem_of_getElem? (i := 21) rfl)
theorem dX12_markAll_35 : decode cX12_markAll 35 = .ok (.aload_n 0, 1) := dgX12_markAll_0 (35, (.aload_n 0, 1)) (List.mem_of_getElem? (i := 22) rfl)
theorem dX12_markAll_36 : decode cX12_markAll 36 = .ok (.iload_n 1, 1) := dgX12_markAll_0 (36, (.iload_n 1, 1)) (List.mem_of_getElem? (i := 23) rfl)
theorem dX12_markAll_37 : decode cX12_markAll 37 = .ok (.iload_n 2, 1) := dgX12_markAll_0 (37, (.iload_n 2, 1)) (List.mem_of_getElem? (i := 24) rfl)
theorem dX12_markAll_38 : decode cX12_markAll 38 = .ok (.invokevirtual 187, 3) := dgX12_markAll_0 (38, (.invokevirtual 187, 3)) (List.mem_of_getElem? (i := 25) rfl)
theorem dX12_markAll_41 : decode cX12_markAll 41 = .ok (.iload_n 2, 1) := dgX12_markAll_0 (41, (.iload_n 2, 1)) (List.mem_of_getElem? (i := 26) rfl)
theorem dX12_markAll_42 : decode cX12_markAll 42 = .ok (.invokevirtual 416, 3) := dgX12_markAll_0 (42, (.invokevirtual 416, 3)) (List.mem_of_getElem? (i := 27) rfl)
theorem dX12_markAll_45 : decode cX12_markAll 45 = .ok (.iinc 2 1, 3) := dgX12_markAll_0 (45, (.iinc 2 1, 3)) (List.mem_of_getElem? (i := 28) rfl)
theorem dX12_markAll_48 : decode cX12_markAll 48 = .ok (.goto (-30), 3) := dgX12_markAll_0 (48, (.goto (-30), 3)) (List.mem_of_getElem? (i := 29) rfl)
theorem dX12_markAll_51 : decode cX12_markAll 51 = .ok (.iinc 1 1, 3) := dgX12_markAll_0 (51, (.iinc 1 1, 3)) (List.mem_of_getElem? (i := 30) rfl)
theorem dX12_markAll_54 : decode cX12_markAll 54 = .ok (.goto (-48), 3) := dgX12_markAll_0 (54, (.goto (-48), 3)) (List.mem_of_getElem? (i := 31) rfl)
theorem dX12_markAll_57 : decode cX12_markAll 57 = .ok (.return_, 1) := dgX12_markAll_0 (57, (.return_, 1)) (List.mem_of_getElem? (i := 32) rfl)
set_option maxHeartbeats 4000000 in
set_option maxRecDepth 100000 in
theorem n_markAll (l : Launch) (G : g5_G) (b_o b_ro b_se b_re b_pt b_ip b_rf b_im b_ke b_tp b_nl b_op b_ar b_pi b_pa b_ws b_hw b_ah b_be b_me b_tr b_ld b_wn : Nat) (sz : Nat) (u_th : Int32) (u_sa : Int32) (u_fd : Int32) (u_td : Int32) (u_fr : Int32) (u_to : Int32) (u_so : Int32) (u_fa : Int32) (u_bd : Int32) (u_nc : Int32) (u_co : Int32) (u_le : Int32) (u_pd : Int32) (u_od : Int32) (u_la : Int32) (u_bk : Int32) (u_ce : Int32) (u_ho : Int32) (u_wy : Int32) (u_bt : Int32) (u_ps : Int32) (u_tg : Int32) (u_sn : Int32) (u_ic : Int32) (u_wd : Int32) (u_id : Int32) (u_wo : Int64) (u_va : Int64) (u_su : Int64) (u_st : Int64) (v_ro : Nat → Int32) (v_se : Nat → Int64) (v_re : Nat → Int64) (v_pt : Nat → Int32) (v_ip : Nat → Int32) (h_u_td : 0 ≤ u_td.toInt ∧ u_td.toInt ≤ 400) (h_u_fr : 0 ≤ u_fr.toInt ∧ u_fr.toInt ≤ 400) (h_u_to : 0 ≤ u_to.toInt ∧ u_to.toInt ≤ 400) (h_u_bd : 0 ≤ u_bd.toInt ∧ u_bd.toInt ≤ 1) (h_u_nc : 0 ≤ u_nc.toInt ∧ u_nc.toInt ≤ 12) (h_u_co : 0 ≤ u_co.toInt ∧ u_co.toInt ≤ 400) (h_u_pd : 0 ≤ u_pd.toInt ∧ u_pd.toInt ≤ 400) (h_u_la : 0 ≤ u_la.toInt ∧ u_la.toInt ≤ 4840) (h_u_bk : 0 ≤ u_bk.toInt ∧ u_bk.toInt ≤ 1) (h_u_ce : 0 ≤ u_ce.toInt ∧ u_ce.toInt ≤ 63) (h_u_ho : 0 ≤ u_ho.toInt ∧ u_ho.toInt ≤ 23) (h_u_wy : 0 ≤ u_wy.toInt ∧ u_wy.toInt ≤ 3) (h_u_bt : 0 ≤ u_bt.toInt ∧ u_bt.toInt ≤ 1000000) (h_u_ps : 0 ≤ u_ps.toInt ∧ u_ps.toInt ≤ 200) (h_u_ic : 0 ≤ u_ic.toInt ∧ u_ic.toInt ≤ 1) (h_u_id : 0 ≤ u_id.toInt ∧ u_id.toInt ≤ 1) (r_ro : MI v_ro) (r_pt : PTI v_pt) : Met l yX12_markAll (wsG yX12_markAll cX12_markAll 3 none) ({ frames := 8, cells := 0, slots := 0, locals := 200 }) (va_Pc [.ref b_o] (g5_P G [(b_o, (oc12 u_th u_sa b_rf b_ro b_im b_ke u_fd b_tp u_td u_fr u_to u_so u_wo u_fa u_bd u_nc b_nl u_co b_op b_ar u_le b_pi b_pa u_pd u_od b_ws b_hw u_la b_se b_re u_bk u_va u_su u_ce u_ho u_wy u_bt u_ps b_pt u_tg u_sn b_ip u_ic b_ah b_be b_me u_wd b_tr b_ld u_st b_wn u_id)), (b_ro, (arI G 5740 v_ro)), (b_se, (arJ G 13 v_se)), (b_re, (arJ G 400 v_re)), (b_pt, (arI G 200 v_pt)), (b_ip, (arZ G 1536 v_ip))] sz)) (va_Qv (fun (u : va_W) => (∃ (o_la : Int32) (o_bk : Int32) (o_va : Int64) (o_su : Int64) (o_ce : Int32) (o_ho : Int32) (o_wy : Int32) (o_bt : Int32) (o_ps : Int32) (o_tg : Int32) (o_sn : Int32) (o_se : Nat → Int64) (o_re : Nat → Int64) (o_pt : Nat → Int32) (o_ip : Nat → Int32), (0 ≤ o_la.toInt ∧ o_la.toInt ≤ 4840) ∧ (0 ≤ o_bk.toInt ∧ o_bk.toInt ≤ 1) ∧ (0 ≤ o_ce.toInt ∧ o_ce.toInt ≤ 63) ∧ (0 ≤ o_ho.toInt ∧ o_ho.toInt ≤ 23) ∧ (0 ≤ o_wy.toInt ∧ o_wy.toInt ≤ 3) ∧ (0 ≤ o_bt.toInt ∧ o_bt.toInt ≤ 1000000) ∧ (0 ≤ o_ps.toInt ∧ o_ps.toInt ≤ 200) ∧ (PTI o_pt) ∧ (u = [(b_o, (oc12 u_th u_sa b_rf b_ro b_im b_ke u_fd b_tp u_td u_fr u_to u_so u_wo u_fa u_bd u_nc b_nl u_co b_op b_ar u_le b_pi b_pa u_pd u_od b_ws b_hw o_la b_se b_re o_bk o_va o_su o_ce o_ho o_wy o_bt o_ps b_pt o_tg o_sn b_ip u_ic b_ah b_be b_me u_wd b_tr b_ld u_st b_wn u_id)), (b_ro, (arI G 5740 v_ro)), (b_se, (arJ G 13 o_se)), (b_re, (arJ G 400 o_re)), (b_pt, (arI G 200 o_pt)), (b_ip, (arZ G 1536 o_ip))]))) (g5_B G (va_A [(b_o, (oc12 u_th u_sa b_rf b_ro b_im b_ke u_fd b_tp u_td u_fr u_to u_so u_wo u_fa u_bd u_nc b_nl u_co b_op b_ar u_le b_pi b_pa u_pd u_od b_ws b_hw u_la b_se b_re u_bk u_va u_su u_ce u_ho u_wy u_bt u_ps b_pt u_tg u_sn b_ip u_ic b_ah b_be b_me u_wd b_tr b_ld u_st b_wn u_id)), (b_ro, (arI G 5740 v_ro)), (b_se, (arJ G 13 v_se)), (b_re, (arJ G 400 v_re)), (b_pt, (arI G 200 v_pt)), (b_ip, (arZ G 1536 v_ip))] sz)) (va_A [(b_o, (oc12 u_th u_sa b_rf b_ro b_im b_ke u_fd b_tp u_td u_fr u_to u_so u_wo u_fa u_bd u_nc b_nl u_co b_op b_ar u_le b_pi b_pa u_pd u_od b_ws b_hw u_la b_se b_re u_bk u_va u_su u_ce u_ho u_wy u_bt u_ps b_pt u_tg u_sn b_ip u_ic b_ah b_be b_me u_wd b_tr b_ld u_st b_wn u_id)), (b_ro, (arI G 5740 v_ro)), (b_se, (arJ G 13 v_se)), (b_re, (arJ G 400 v_re)), (b_pt, (arI G 200 v_pt)), (b_ip, (arZ G 1536 v_ip))] sz)) 0 0 (va_A [(b_o, (oc12 u_th u_sa b_rf b_ro b_im b_ke u_fd b_tp u_td u_fr u_to u_so u_wo u_fa u_bd u_nc b_nl u_co b_op b_ar u_le b_pi b_pa u_pd u_od b_ws b_hw u_la b_se b_re u_bk u_va u_su u_ce u_ho u_wy u_bt u_ps b_pt u_tg u_sn b_ip u_ic b_ah b_be b_me u_wd b_tr b_ld u_st b_wn u_id)), (b_ro, (arI G 5740 v_ro)), (b_se, (arJ G 13 v_se)), (b_re, (arJ G 400 v_re)), (b_pt, (arI G 200 v_pt)), (b_ip, (arZ G 1536 v_ip))] sz) := by
  refine Met.ofW (cc := cX12_markAll) (maxL := 3) (ret := none) (by decide +kernel) rfl ?_
  intro p e s m args below meth c s₁ B hml hv
  obtain ⟨rfl, hsz, hP, hK, hD0, hN, hT⟩ := hv
  have hx := B.exec
  have hb := B.bytes
  have hr := B.returns
  have hts : ∀ w ∈ tblG, w.before _ s = true := fun w h => atoms_spec (ws := (wsG yX12_markAll cX12_markAll 3 none)) B.pre w (List.mem_cons_of_mem _ h)
  have hown : s.vm.findClass RX12 = some m.cls := findClass_of_methodNamed B.named
  have hlocks := B.notSynchronized
  subst hsz
  have hD := hD0.self (sz := s.heap.size)
  generalize hAe : va_A [(b_o, (oc12 u_th u_sa b_rf b_ro b_im b_ke u_fd b_tp u_td u_fr u_to u_so u_wo u_fa u_bd u_nc b_nl u_co b_op b_ar u_le b_pi b_pa u_pd u_od b_ws b_hw u_la b_se b_re u_bk u_va u_su u_ce u_ho u_wy u_bt u_ps b_pt u_tg u_sn b_ip u_ic b_ah b_be b_me u_wd b_tr b_ld u_st b_wn u_id)), (b_ro, (arI G 5740 v_ro)), (b_se, (arJ G 13 v_se)), (b_re, (arJ G 400 v_re)), (b_pt, (arI G 200 v_pt)), (b_ip, (arZ G 1536 v_ip))] s.heap.size = A at hD hT ⊢
  have hA : ∀ q : Nat, s.heap.size ≤ q → A q := fun q h => by rw [← hAe]; exact Or.inr h
  have hS : va_S A s.heap s.heap [] := va_S.rf
  replace hP : va_P G.1 vwCl [(b_o, (oc12 u_th u_sa b_rf b_ro b_im b_ke u_fd b_tp u_td u_fr u_to u_so u_wo u_fa u_bd u_nc b_nl u_co b_op b_ar u_le b_pi b_pa u_pd u_od b_ws b_hw u_la b_se b_re u_bk u_va u_su u_ce u_ho u_wy u_bt u_ps b_pt u_tg u_sn b_ip u_ic b_ah b_be b_me u_wd b_tr b_ld u_st b_wn u_id)), (b_ro, (arI G 5740 v_ro)), (b_se, (arJ G 13 v_se)), (b_re, (arJ G 400 v_re)), (b_pt, (arI G 200 v_pt)), (b_ip, (arZ G 1536 v_ip))] s.heap := hP
  have hl := lv_entry ([.ref b_o]) (n := 3) (Nat.le_of_ble_eq_true rfl)
  rw [lg_entry_eq]
  generalize (lg_sl ([.ref b_o]) ++ List.replicate (3 - (lg_sl ([.ref b_o])).length) Slot.unset).toArray = ls at hl ⊢
  replace hl : lv_has ls 3 [(0, .ref b_o)] := hl
  refine lv_aload_n hx hb dX12_markAll_0 rfl (lv_at hl 0 rfl) ?_
  obtain ⟨hPc, hDc, hFc⟩ := g5_sub3 (wc := [(b_o, (oc12 u_th u_sa b_rf b_ro b_im b_ke u_fd b_tp u_td u_fr u_to u_so u_wo u_fa u_bd u_nc b_nl u_co b_op b_ar u_le b_pi b_pa u_pd u_od b_ws b_hw u_la b_se b_re u_bk u_va u_su u_ce u_ho u_wy u_bt u_ps b_pt u_tg u_sn b_ip u_ic b_ah b_be b_me u_wd b_tr b_ld u_st b_wn u_id)), (b_ip, (arZ G 1536 v_ip))]) hP hD hS hA [0, 5] (by decide +kernel) rfl
  refine va_callv (va_runV (As := []) (rest := []) ⟨hx, hb, hml, hown, hts⟩ (n_clearPoints l G b_o b_ip b_rf b_ro b_im b_ke b_tp b_nl b_op b_ar b_pi b_pa b_ws b_hw b_se b_re b_pt b_ah b_be b_me b_tr b_ld b_wn s.heap.size u_th u_sa u_fd u_td u_fr u_to u_so u_fa u_bd u_nc u_co u_le u_pd u_od u_la u_bk u_ce u_ho u_wy u_bt u_ps u_tg u_sn u_ic u_wd u_id u_wo u_va u_su u_st v_ip h_u_td h_u_fr h_u_to h_u_bd h_u_nc h_u_co h_u_pd h_u_la h_u_bk h_u_ce h_u_ho h_u_wy h_u_bt h_u_ps h_u_ic h_u_id) (cwV 0 hts gV_X12_413 rfl rfl rfl hv_X12_clearPoints ⟨Nat.le_of_ble_eq_true rfl, Nat.le_of_ble_eq_true rfl⟩) (g5_preV hPc hK hDc hN hT hS hFc (ci := 12) (q0 := 0) rfl rfl) rfl rfl hl.1 rfl (lv_room (Nat.le_of_ble_eq_true rfl)) dX12_markAll_1 ⟨Nat.le_of_ble_eq_true rfl, Nat.le_of_ble_eq_true rfl⟩) hS (fun q _ h => hFc q h) hFc (fun u t H locs ht hvm hw hB hz1 hk1 hS => ?_)
  obtain ⟨hP1, hD1⟩ := hB
  have hP1 := g5_ht ht hP1
  obtain ⟨z1, rfl⟩ := hw
  have hJ9 := va_join (wr := [(b_ro, (arI G 5740 v_ro)), (b_se, (arJ G 13 v_se)), (b_re, (arJ G 400 v_re)), (b_pt, (arI G 200 v_pt))]) hP hD [0, 5] [1, 2, 3, 4] rfl rfl (by decide +kernel) (by decide +kernel) hk1 hFc hP1 hD1
  clear hP hD hPc hDc hFc ht hvm hz1 hk1 hP1 hD1
  obtain ⟨hP, hD⟩ := hJ9
  refine g5_rs [(b_ro, (arI G 5740 v_ro)), (b_se, (arJ G 13 v_se)), (b_re, (arJ G 400 v_re)), (b_pt, (arI G 200 v_pt)), (b_o, (oc12 u_th u_sa b_rf b_ro b_im b_ke u_fd b_tp u_td u_fr u_to u_so u_wo u_fa u_bd u_nc b_nl u_co b_op b_ar u_le b_pi b_pa u_pd u_od b_ws b_hw u_la b_se b_re u_bk u_va u_su u_ce u_ho u_wy u_bt u_ps b_pt u_tg u_sn b_ip u_ic b_ah b_be b_me u_wd b_tr b_ld u_st b_wn u_id)), (b_ip, (arZ G 1536 z1))] hP hD ?_
  clear hP hD
  intro hP hD
  refine lv_iconst (v := 0) hx hb dX12_markAll_4 (by decide +kernel) ?_
  refine lv_istore_n (lv' := [(1, .int 0), (0, .ref b_o)]) hx hb dX12_markAll_5 rfl hl (by decide +kernel) rfl ?_
  clear hl
  intro ls hl
  refine g5_loop (α := (Int32) × (Int32) × (Int32) × (Int64) × (Int64) × (Int32) × (Int32) × (Int32) × (Int32) × (Int32) × (Int32) × (Int32) × (Nat → Int64) × (Nat → Int64) × (Nat → Int32) × (Nat → Int32)) (fun (q : (Int32) × (Int32) × (Int32) × (Int64) × (Int64) × (Int32) × (Int32) × (Int32) × (Int32) × (Int32) × (Int32) × (Int32) × (Nat → Int64) × (Nat → Int64) × (Nat → Int32) × (Nat → Int32)) (ls : Array Slot) (H : Heap) (locs : List Loc) => match q with | (k6_1, k6_la, k6_bk, k6_va, k6_su, k6_ce, k6_ho, k6_wy, k6_bt, k6_ps, k6_tg, k6_sn, k6_se, k6_re, k6_pt, k6_ip) => lv_has ls 3 [(1, .int k6_1), (0, .ref b_o)] ∧ va_P G.1 vwCl [(b_ro, (arI G 5740 v_ro)), (b_se, (arJ G 13 k6_se)), (b_re, (arJ G 400 k6_re)), (b_pt, (arI G 200 k6_pt)), (b_o, (oc12 u_th u_sa b_rf b_ro b_im b_ke u_fd b_tp u_td u_fr u_to u_so u_wo u_fa u_bd u_nc b_nl u_co b_op b_ar u_le b_pi b_pa u_pd u_od b_ws b_hw k6_la b_se b_re k6_bk k6_va k6_su k6_ce k6_ho k6_wy k6_bt k6_ps b_pt k6_tg k6_sn b_ip u_ic b_ah b_be b_me u_wd b_tr b_ld u_st b_wn u_id)), (b_ip, (arZ G 1536 k6_ip))] H ∧ va_D A [(b_ro, (arI G 5740 v_ro)), (b_se, (arJ G 13 k6_se)), (b_re, (arJ G 400 k6_re)), (b_pt, (arI G 200 k6_pt)), (b_o, (oc12 u_th u_sa b_rf b_ro b_im b_ke u_fd b_tp u_td u_fr u_to u_so u_wo u_fa u_bd u_nc b_nl u_co b_op b_ar u_le b_pi b_pa u_pd u_od b_ws b_hw k6_la b_se b_re k6_bk k6_va k6_su k6_ce k6_ho k6_wy k6_bt k6_ps b_pt k6_tg k6_sn b_ip u_ic b_ah b_be b_me u_wd b_tr b_ld u_st b_wn u_id)), (b_ip, (arZ G 1536 k6_ip))] ∧ va_S A s.heap H locs ∧ (0 ≤ k6_1.toInt ∧ k6_1.toInt ≤ 5) ∧ (0 ≤ k6_la.toInt ∧ k6_la.toInt ≤ 4840) ∧ (0 ≤ k6_bk.toInt ∧ k6_bk.toInt ≤ 1) ∧ (0 ≤ k6_ce.toInt ∧ k6_ce.toInt ≤ 63) ∧ (0 ≤ k6_ho.toInt ∧ k6_ho.toInt ≤ 23) ∧ (0 ≤ k6_wy.toInt ∧ k6_wy.toInt ≤ 3) ∧ (0 ≤ k6_bt.toInt ∧ k6_bt.toInt ≤ 1000000) ∧ (0 ≤ k6_ps.toInt ∧ k6_ps.toInt ≤ 200) ∧ (PTI k6_pt)) (fun (q : (Int32) × (Int32) × (Int32) × (Int64) × (Int64) × (Int32) × (Int32) × (Int32) × (Int32) × (Int32) × (Int32) × (Int32) × (Nat → Int64) × (Nat → Int64) × (Nat → Int32) × (Nat → Int32)) => match q with | (k6_1, k6_la, k6_bk, k6_va, k6_su, k6_ce, k6_ho, k6_wy, k6_bt, k6_ps, k6_tg, k6_sn, k6_se, k6_re, k6_pt, k6_ip) => Int.toNat (5 - k6_1.toInt)) (0, u_la, u_bk, u_va, u_su, u_ce, u_ho, u_wy, u_bt, u_ps, u_tg, u_sn, v_se, v_re, v_pt, z1) ⟨lv_sub hl [0, 1] rfl, hP, hD, hS, ⟨by decide, by decide⟩, h_u_la, h_u_bk, h_u_ce, h_u_ho, h_u_wy, h_u_bt, h_u_ps, r_pt⟩ ?_
  rintro ⟨k6_1, k6_la, k6_bk, k6_va, k6_su, k6_ce, k6_ho, k6_wy, k6_bt, k6_ps, k6_tg, k6_sn, k6_se, k6_re, k6_pt, k6_ip⟩ ls H locs ⟨hl, hP, hD, hS, (i_2 : 0 ≤ k6_1.toInt ∧ k6_1.toInt ≤ 5), (i_3 : 0 ≤ k6_la.toInt ∧ k6_la.toInt ≤ 4840), (i_4 : 0 ≤ k6_bk.toInt ∧ k6_bk.toInt ≤ 1), (i_5 : 0 ≤ k6_ce.toInt ∧ k6_ce.toInt ≤ 63), (i_6 : 0 ≤ k6_ho.toInt ∧ k6_ho.toInt ≤ 23), (i_7 : 0 ≤ k6_wy.toInt ∧ k6_wy.toInt ≤ 3), (i_8 : 0 ≤ k6_bt.toInt ∧ k6_bt.toInt ≤ 1000000), (i_9 : 0 ≤ k6_ps.toInt ∧ k6_ps.toInt ≤ 200), (i_10 : PTI k6_pt)⟩ ih_6_11
  replace hl : lv_has ls 3 [(1, .int k6_1), (0, .ref b_o)] := hl
  refine g5_rs [(b_ro, (arI G 5740 v_ro)), (b_se, (arJ G 13 k6_se)), (b_re, (arJ G 400 k6_re)), (b_pt, (arI G 200 k6_pt)), (b_o, (oc12 u_th u_sa b_rf b_ro b_im b_ke u_fd b_tp u_td u_fr u_to u_so u_wo u_fa u_bd u_nc b_nl u_co b_op b_ar u_le b_pi b_pa u_pd u_od b_ws b_hw k6_la b_se b_re k6_bk k6_va k6_su k6_ce k6_ho k6_wy k6_bt k6_ps b_pt k6_tg k6_sn b_ip u_ic b_ah b_be b_me u_wd b_tr b_ld u_st b_wn u_id)), (b_ip, (arZ G 1536 k6_ip))] hP hD ?_
  clear hP hD
  intro hP hD
  refine lv_iload_n hx hb dX12_markAll_6 rfl (lv_at hl 0 rfl) ?_
  refine lv_aload_n hx hb dX12_markAll_7 rfl (lv_at hl 1 rfl) ?_
  refine va_get (D := G.1) (ci := 12) (v := .ref b_ro) (C := RX12) (T := TX12) (N := 52) hx hb hts inG_X12 hown hK hP 4 rfl rfl 3 (by decide +kernel) (hts _ fl_X12_13) (fun _ h9 => h9) rfl dX12_markAll_8 ?_
  refine lv_iconst (v := 1) hx hb dX12_markAll_11 (by decide +kernel) ?_
  refine va_iald hx hb hK hP 0 0 rfl rfl (i := 1) (by unfold vp_in; decide) dX12_markAll_12 ?_
  refine g5_ti (v := (v_ro 1)) rfl ?_
  have hr_12 : 0 ≤ (v_ro 1).toInt ∧ (v_ro 1).toInt ≤ 5 := mi_1 r_ro
  refine lv_icmp_ge (tgt := 57) hx hb dX12_markAll_13 (by decide +kernel) (fun c_13 => ?_) (fun c_13 => ?_)
  ·
    have i_13 : k6_1.toInt ≥ (v_ro 1).toInt := g5_ge (a := k6_1.toInt) (b := (v_ro 1).toInt) rfl rfl c_13
    exact W.vret hx hb hr (fun t ht hW => ⟨⟨[(b_o, (oc12 u_th u_sa b_rf b_ro b_im b_ke u_fd b_tp u_td u_fr u_to u_so u_wo u_fa u_bd u_nc b_nl u_co b_op b_ar u_le b_pi b_pa u_pd u_od b_ws b_hw k6_la b_se b_re k6_bk k6_va k6_su k6_ce k6_ho k6_wy k6_bt k6_ps b_pt k6_tg k6_sn b_ip u_ic b_ah b_be b_me u_wd b_tr b_ld u_st b_wn u_id)), (b_ro, (arI G 5740 v_ro)), (b_se, (arJ G 13 k6_se)), (b_re, (arJ G 400 k6_re)), (b_pt, (arI G 200 k6_pt)), (b_ip, (arZ G 1536 k6_ip))], rfl, ⟨k6_la, k6_bk, k6_va, k6_su, k6_ce, k6_ho, k6_wy, k6_bt, k6_ps, k6_tg, k6_sn, k6_se, k6_re, k6_pt, k6_ip, i_3, i_4, i_5, i_6, i_7, i_8, i_9, i_10, rfl⟩, by rw [ht]; exact hP.sub [4, 0, 1, 2, 3, 5] rfl, hD.sub [4, 0, 1, 2, 3, 5] (by decide +kernel) rfl⟩, hS.F ht⟩) hS.2.2 dX12_markAll_57
  ·
    have i_13 : k6_1.toInt < (v_ro 1).toInt := g5_geN (a := k6_1.toInt) (b := (v_ro 1).toInt) rfl rfl c_13
    refine lv_iconst (v := 0) hx hb dX12_markAll_16 (by decide +kernel) ?_
    refine lv_istore_n (lv' := [(2, .int 0), (1, .int k6_1), (0, .ref b_o)]) hx hb dX12_markAll_17 rfl hl (by decide +kernel) rfl ?_
    clear hl
    intro ls hl
    refine g5_loop (α := (Int32) × (Int32) × (Int32) × (Int64) × (Int64) × (Int32) × (Int32) × (Int32) × (Int32) × (Int32) × (Int32) × (Int32) × (Nat → Int64) × (Nat → Int64) × (Nat → Int32) × (Nat → Int32)) (fun (q : (Int32) × (Int32) × (Int32) × (Int64) × (Int64) × (Int32) × (Int32) × (Int32) × (Int32) × (Int32) × (Int32) × (Int32) × (Nat → Int64) × (Nat → Int64) × (Nat → Int32) × (Nat → Int32)) (ls : Array Slot) (H : Heap) (locs : List Loc) => match q with | (k18_2, k18_la, k18_bk, k18_va, k18_su, k18_ce, k18_ho, k18_wy, k18_bt, k18_ps, k18_tg, k18_sn, k18_se, k18_re, k18_pt, k18_ip) => lv_has ls 3 [(2, .int k18_2), (1, .int k6_1), (0, .ref b_o)] ∧ va_P G.1 vwCl [(b_ro, (arI G 5740 v_ro)), (b_se, (arJ G 13 k18_se)), (b_re, (arJ G 400 k18_re)), (b_pt, (arI G 200 k18_pt)), (b_o, (oc12 u_th u_sa b_rf b_ro b_im b_ke u_fd b_tp u_td u_fr u_to u_so u_wo u_fa u_bd u_nc b_nl u_co b_op b_ar u_le b_pi b_pa u_pd u_od b_ws b_hw k18_la b_se b_re k18_bk k18_va k18_su k18_ce k18_ho k18_wy k18_bt k18_ps b_pt k18_tg k18_sn b_ip u_ic b_ah b_be b_me u_wd b_tr b_ld u_st b_wn u_id)), (b_ip, (arZ G 1536 k18_ip))] H ∧ va_D A [(b_ro, (arI G 5740 v_ro)), (b_se, (arJ G 13 k18_se)), (b_re, (arJ G 400 k18_re)), (b_pt, (arI G 200 k18_pt)), (b_o, (oc12 u_th u_sa b_rf b_ro b_im b_ke u_fd b_tp u_td u_fr u_to u_so u_wo u_fa u_bd u_nc b_nl u_co b_op b_ar u_le b_pi b_pa u_pd u_od b_ws b_hw k18_la b_se b_re k18_bk k18_va k18_su k18_ce k18_ho k18_wy k18_bt k18_ps b_pt k18_tg k18_sn b_ip u_ic b_ah b_be b_me u_wd b_tr b_ld u_st b_wn u_id)), (b_ip, (arZ G 1536 k18_ip))] ∧ va_S A s.heap H locs ∧ (0 ≤ k18_2.toInt ∧ k18_2.toInt ≤ 24) ∧ (0 ≤ k18_la.toInt ∧ k18_la.toInt ≤ 4840) ∧ (0 ≤ k18_bk.toInt ∧ k18_bk.toInt ≤ 1) ∧ (0 ≤ k18_ce.toInt ∧ k18_ce.toInt ≤ 63) ∧ (0 ≤ k18_ho.toInt ∧ k18_ho.toInt ≤ 23) ∧ (0 ≤ k18_wy.toInt ∧ k18_wy.toInt ≤ 3) ∧ (0 ≤ k18_bt.toInt ∧ k18_bt.toInt ≤ 1000000) ∧ (0 ≤ k18_ps.toInt ∧ k18_ps.toInt ≤ 200) ∧ (PTI k18_pt)) (fun (q : (Int32) × (Int32) × (Int32) × (Int64) × (Int64) × (Int32) × (Int32) × (Int32) × (Int32) × (Int32) × (Int32) × (Int32) × (Nat → Int64) × (Nat → Int64) × (Nat → Int32) × (Nat → Int32)) => match q with | (k18_2, k18_la, k18_bk, k18_va, k18_su, k18_ce, k18_ho, k18_wy, k18_bt, k18_ps, k18_tg, k18_sn, k18_se, k18_re, k18_pt, k18_ip) => Int.toNat (24 - k18_2.toInt)) (0, k6_la, k6_bk, k6_va, k6_su, k6_ce, k6_ho, k6_wy, k6_bt, k6_ps, k6_tg, k6_sn, k6_se, k6_re, k6_pt, k6_ip) ⟨lv_sub hl [0, 1, 2] rfl, hP, hD, hS, ⟨by decide, by decide⟩, i_3, i_4, i_5, i_6, i_7, i_8, i_9, i_10⟩ ?_
    rintro ⟨k18_2, k18_la, k18_bk, k18_va, k18_su, k18_ce, k18_ho, k18_wy, k18_bt, k18_ps, k18_tg, k18_sn, k18_se, k18_re, k18_pt, k18_ip⟩ ls H locs ⟨hl, hP, hD, hS, (i_14 : 0 ≤ k18_2.toInt ∧ k18_2.toInt ≤ 24), (i_15 : 0 ≤ k18_la.toInt ∧ k18_la.toInt ≤ 4840), (i_16 : 0 ≤ k18_bk.toInt ∧ k18_bk.toInt ≤ 1), (i_17 : 0 ≤ k18_ce.toInt ∧ k18_ce.toInt ≤ 63), (i_18 : 0 ≤ k18_ho.toInt ∧ k18_ho.toInt ≤ 23), (i_19 : 0 ≤ k18_wy.toInt ∧ k18_wy.toInt ≤ 3), (i_20 : 0 ≤ k18_bt.toInt ∧ k18_bt.toInt ≤ 1000000), (i_21 : 0 ≤ k18_ps.toInt ∧ k18_ps.toInt ≤ 200), (i_22 : PTI k18_pt)⟩ ih_18_23
    replace hl : lv_has ls 3 [(2, .int k18_2), (1, .int k6_1), (0, .ref b_o)] := hl
    refine g5_rs [(b_ro, (arI G 5740 v_ro)), (b_se, (arJ G 13 k18_se)), (b_re, (arJ G 400 k18_re)), (b_pt, (arI G 200 k18_pt)), (b_o, (oc12 u_th u_sa b_rf b_ro b_im b_ke u_fd b_tp u_td u_fr u_to u_so u_wo u_fa u_bd u_nc b_nl u_co b_op b_ar u_le b_pi b_pa u_pd u_od b_ws b_hw k18_la b_se b_re k18_bk k18_va k18_su k18_ce k18_ho k18_wy k18_bt k18_ps b_pt k18_tg k18_sn b_ip u_ic b_ah b_be b_me u_wd b_tr b_ld u_st b_wn u_id)), (b_ip, (arZ G 1536 k18_ip))] hP hD ?_
    clear hP hD
    intro hP hD
    refine lv_iload_n hx hb dX12_markAll_18 rfl (lv_at hl 0 rfl) ?_
    refine lv_bipush (v := 24) hx hb dX12_markAll_19 (by decide +kernel) ?_
    refine lv_icmp_ge (tgt := 51) hx hb dX12_markAll_21 (by decide +kernel) (fun c_24 => ?_) (fun c_24 => ?_)
    ·
      have i_24 : k18_2.toInt ≥ 24 := g5_ge (a := k18_2.toInt) (b := 24) rfl (by decide +kernel) c_24
      refine lv_iinc (v := (k6_1 + 1)) (lv' := [(1, .int (k6_1 + 1)), (2, .int k18_2), (0, .ref b_o)]) hx hb dX12_markAll_51 hl (k := 1) rfl rfl (by decide +kernel) rfl ?_
      clear hl
      intro ls hl
      have t_25 : (k6_1 + 1).toInt = k6_1.toInt + 1 := g5_iadd (a := k6_1.toInt) (b := 1) rfl (by decide +kernel) (by omega) (by omega)
      refine lv_goto (tgt := 6) hx hb dX12_markAll_54 (by decide +kernel) ?_
      exact ih_6_11 ((k6_1 + 1), k18_la, k18_bk, k18_va, k18_su, k18_ce, k18_ho, k18_wy, k18_bt, k18_ps, k18_tg, k18_sn, k18_se, k18_re, k18_pt, k18_ip) ls H locs (show Int.toNat (5 - (k6_1 + 1).toInt) < Int.toNat (5 - k6_1.toInt) from g_up (show k6_1.toInt < (k6_1 + 1).toInt by omega) (show k6_1.toInt < 5 by omega)) ⟨lv_sub hl [0, 2] rfl, hP, hD, hS, ⟨by omega, by omega⟩, i_15, i_16, i_17, i_18, i_19, i_20, i_21, i_22⟩
    ·
      have i_24 : k18_2.toInt < 24 := g5_geN (a := k18_2.toInt) (b := 24) rfl (by decide +kernel) c_24
      refine lv_aload_n hx hb dX12_markAll_24 rfl (lv_at hl 2 rfl) ?_
      refine lv_iload_n hx hb dX12_markAll_25 rfl (lv_at hl 1 rfl) ?_
      refine lv_iload_n hx hb dX12_markAll_26 rfl (lv_at hl 0 rfl) ?_
      obtain ⟨hPc, hDc, hFc⟩ := g5_sub3 (wc := [(b_o, (oc12 u_th u_sa b_rf b_ro b_im b_ke u_fd b_tp u_td u_fr u_to u_so u_wo u_fa u_bd u_nc b_nl u_co b_op b_ar u_le b_pi b_pa u_pd u_od b_ws b_hw k18_la b_se b_re k18_bk k18_va k18_su k18_ce k18_ho k18_wy k18_bt k18_ps b_pt k18_tg k18_sn b_ip u_ic b_ah b_be b_me u_wd b_tr b_ld u_st b_wn u_id)), (b_ro, (arI G 5740 v_ro))]) hP hD hS hA [4, 0] (by decide +kernel) rfl
      refine va_calli (va_runV (As := [.int k6_1, .int k18_2]) (rest := []) ⟨hx, hb, hml, hown, hts⟩ (n_whereIsX l G b_o b_ro b_rf b_im b_ke b_tp b_nl b_op b_ar b_pi b_pa b_ws b_hw b_se b_re b_pt b_ip b_ah b_be b_me b_tr b_ld b_wn H.size u_th u_sa u_fd u_td u_fr u_to u_so u_fa u_bd u_nc u_co u_le u_pd u_od k18_la k18_bk k18_ce k18_ho k18_wy k18_bt k18_ps k18_tg k18_sn u_ic u_wd u_id k6_1 k18_2 u_wo k18_va k18_su u_st v_ro h_u_td h_u_fr h_u_to h_u_bd h_u_nc h_u_co h_u_pd i_15 i_16 i_17 i_18 i_19 i_20 i_21 h_u_ic h_u_id ⟨by omega, by omega⟩ ⟨by omega, by omega⟩ (r_ro)) (cwV 2 hts gV_X12_187 rfl rfl rfl hv_X12_whereIs ⟨Nat.le_of_ble_eq_true rfl, Nat.le_of_ble_eq_true rfl⟩) (g5_preV hPc hK hDc hN hT hS hFc (ci := 12) (q0 := 0) rfl rfl) rfl rfl hl.1 rfl (lv_room (Nat.le_of_ble_eq_true rfl)) dX12_markAll_27 ⟨Nat.le_of_ble_eq_true rfl, Nat.le_of_ble_eq_true rfl⟩) hS (fun q _ h => hFc q h) hFc (fun r u t H locs ht hvm hw hB hz1 hk1 hS => ?_)
      obtain ⟨hP1, hD1⟩ := hB
      have hP1 := g5_ht ht hP1
      obtain ⟨z28, (i_26 : (-1) ≤ z28.toInt ∧ z28.toInt ≤ 63), (i_27 : z28.toInt = (v_ro ((110 + (24 * k6_1)) + k18_2).toNatClampNeg).toInt), y29, rfl⟩ := hw
      have hJ9 := va_join (wr := [(b_se, (arJ G 13 k18_se)), (b_re, (arJ G 400 k18_re)), (b_pt, (arI G 200 k18_pt)), (b_ip, (arZ G 1536 k18_ip))]) hP hD [4, 0] [1, 2, 3, 5] rfl rfl (by decide +kernel) (by decide +kernel) hk1 hFc hP1 hD1
      clear hP hD hPc hDc hFc ht hvm hz1 hk1 hP1 hD1
      obtain ⟨hP, hD⟩ := hJ9
      refine g5_rs [(b_se, (arJ G 13 k18_se)), (b_re, (arJ G 400 k18_re)), (b_pt, (arI G 200 k18_pt)), (b_ip, (arZ G 1536 k18_ip)), (b_o, (oc12 u_th u_sa b_rf b_ro b_im b_ke u_fd b_tp u_td u_fr u_to u_so u_wo u_fa u_bd u_nc b_nl u_co b_op b_ar u_le b_pi b_pa u_pd u_od b_ws b_hw k18_la b_se b_re k18_bk k18_va k18_su k18_ce k18_ho k18_wy k18_bt k18_ps b_pt k18_tg k18_sn b_ip u_ic b_ah b_be b_me u_wd b_tr b_ld u_st b_wn u_id)), (b_ro, (arI G 5740 v_ro))] hP hD ?_
      clear hP hD
      intro hP hD
      refine g5_ti (v := z28) y29 ?_
      refine lv_iconst (v := (-1)) hx hb dX12_markAll_30 (by decide +kernel) ?_
      refine lv_icmp_eq (tgt := 45) hx hb dX12_markAll_31 (by decide +kernel) (fun c_30 => ?_) (fun c_30 => ?_)
      ·
        have i_30 : z28.toInt = (-1) := g5_eq (a := z28.toInt) (b := (-1)) rfl (by decide +kernel) c_30
        refine lv_iinc (v := (k18_2 + 1)) (lv' := [(2, .int (k18_2 + 1)), (1, .int k6_1), (0, .ref b_o)]) hx hb dX12_markAll_45 hl (k := 0) rfl rfl (by decide +kernel) rfl ?_
        clear hl
        intro ls hl
        have t_31 : (k18_2 + 1).toInt = k18_2.toInt + 1 := g5_iadd (a := k18_2.toInt) (b := 1) rfl (by decide +kernel) (by omega) (by omega)
        refine lv_goto (tgt := 18) hx hb dX12_markAll_48 (by decide +kernel) ?_
        exact ih_18_23 ((k18_2 + 1), k18_la, k18_bk, k18_va, k18_su, k18_ce, k18_ho, k18_wy, k18_bt, k18_ps, k18_tg, k18_sn, k18_se, k18_re, k18_pt, k18_ip) ls H locs (show Int.toNat (24 - (k18_2 + 1).toInt) < Int.toNat (24 - k18_2.toInt) from g_up (show k18_2.toInt < (k18_2 + 1).toInt by omega) (show k18_2.toInt < 24 by omega)) ⟨lv_sub hl [0, 1, 2] rfl, hP.sub [5, 0, 1, 2, 4, 3] rfl, hD.sub [5, 0, 1, 2, 4, 3] (by decide +kernel) rfl, hS, ⟨by omega, by omega⟩, i_15, i_16, i_17, i_18, i_19, i_20, i_21, i_22⟩
      ·
        have n_30 : gNe (z28.toInt) ((-1)) := g5_eqN (a := z28.toInt) (b := (-1)) rfl (by decide +kernel) c_30
        have i_30 : z28.toInt ≥ 0 := by have z := g5_eqN (a := z28.toInt) (b := (-1)) (by rfl) (by decide +kernel) c_30; omega
        refine lv_aload_n hx hb dX12_markAll_34 rfl (lv_at hl 2 rfl) ?_
        refine lv_aload_n hx hb dX12_markAll_35 rfl (lv_at hl 2 rfl) ?_
        refine lv_iload_n hx hb dX12_markAll_36 rfl (lv_at hl 1 rfl) ?_
        refine lv_iload_n hx hb dX12_markAll_37 rfl (lv_at hl 0 rfl) ?_
        obtain ⟨hPc, hDc, hFc⟩ := g5_sub3 (wc := [(b_o, (oc12 u_th u_sa b_rf b_ro b_im b_ke u_fd b_tp u_td u_fr u_to u_so u_wo u_fa u_bd u_nc b_nl u_co b_op b_ar u_le b_pi b_pa u_pd u_od b_ws b_hw k18_la b_se b_re k18_bk k18_va k18_su k18_ce k18_ho k18_wy k18_bt k18_ps b_pt k18_tg k18_sn b_ip u_ic b_ah b_be b_me u_wd b_tr b_ld u_st b_wn u_id)), (b_ro, (arI G 5740 v_ro))]) hP hD hS hA [4, 5] (by decide +kernel) rfl
        refine va_calli (va_runV (As := [.int k6_1, .int k18_2]) (rest := [.ref b_o]) ⟨hx, hb, hml, hown, hts⟩ (n_whereIsX l G b_o b_ro b_rf b_im b_ke b_tp b_nl b_op b_ar b_pi b_pa b_ws b_hw b_se b_re b_pt b_ip b_ah b_be b_me b_tr b_ld b_wn H.size u_th u_sa u_fd u_td u_fr u_to u_so u_fa u_bd u_nc u_co u_le u_pd u_od k18_la k18_bk k18_ce k18_ho k18_wy k18_bt k18_ps k18_tg k18_sn u_ic u_wd u_id k6_1 k18_2 u_wo k18_va k18_su u_st v_ro h_u_td h_u_fr h_u_to h_u_bd h_u_nc h_u_co h_u_pd i_15 i_16 i_17 i_18 i_19 i_20 i_21 h_u_ic h_u_id ⟨by omega, by omega⟩ ⟨by omega, by omega⟩ (r_ro)) (cwV 2 hts gV_X12_187 rfl rfl rfl hv_X12_whereIs ⟨Nat.le_of_ble_eq_true rfl, Nat.le_of_ble_eq_true rfl⟩) (g5_preV hPc hK hDc hN hT hS hFc (ci := 12) (q0 := 0) rfl rfl) rfl rfl hl.1 rfl (lv_room (Nat.le_of_ble_eq_true rfl)) dX12_markAll_38 ⟨Nat.le_of_ble_eq_true rfl, Nat.le_of_ble_eq_true rfl⟩) hS (fun q _ h => hFc q h) hFc (fun r u t H locs ht hvm hw hB hz1 hk1 hS => ?_)
        obtain ⟨hP1, hD1⟩ := hB
        have hP1 := g5_ht ht hP1
        obtain ⟨z34, (i_32 : (-1) ≤ z34.toInt ∧ z34.toInt ≤ 63), (i_33 : z34.toInt = (v_ro ((110 + (24 * k6_1)) + k18_2).toNatClampNeg).toInt), y35, rfl⟩ := hw
        have hJ9 := va_join (wr := [(b_se, (arJ G 13 k18_se)), (b_re, (arJ G 400 k18_re)), (b_pt, (arI G 200 k18_pt)), (b_ip, (arZ G 1536 k18_ip))]) hP hD [4, 5] [0, 1, 2, 3] rfl rfl (by decide +kernel) (by decide +kernel) hk1 hFc hP1 hD1
        clear hP hD hPc hDc hFc ht hvm hz1 hk1 hP1 hD1
        obtain ⟨hP, hD⟩ := hJ9
        refine g5_rs [(b_se, (arJ G 13 k18_se)), (b_re, (arJ G 400 k18_re)), (b_pt, (arI G 200 k18_pt)), (b_ip, (arZ G 1536 k18_ip)), (b_o, (oc12 u_th u_sa b_rf b_ro b_im b_ke u_fd b_tp u_td u_fr u_to u_so u_wo u_fa u_bd u_nc b_nl u_co b_op b_ar u_le b_pi b_pa u_pd u_od b_ws b_hw k18_la b_se b_re k18_bk k18_va k18_su k18_ce k18_ho k18_wy k18_bt k18_ps b_pt k18_tg k18_sn b_ip u_ic b_ah b_be b_me u_wd b_tr b_ld u_st b_wn u_id)), (b_ro, (arI G 5740 v_ro))] hP hD ?_
        clear hP hD
        intro hP hD
        refine g5_ti (v := z34) y35 ?_
        refine lv_iload_n hx hb dX12_markAll_41 rfl (lv_at hl 0 rfl) ?_
        obtain ⟨hPc, hDc, hFc⟩ := g5_sub3 (wc := [(b_o, (oc12 u_th u_sa b_rf b_ro b_im b_ke u_fd b_tp u_td u_fr u_to u_so u_wo u_fa u_bd u_nc b_nl u_co b_op b_ar u_le b_pi b_pa u_pd u_od b_ws b_hw k18_la b_se b_re k18_bk k18_va k18_su k18_ce k18_ho k18_wy k18_bt k18_ps b_pt k18_tg k18_sn b_ip u_ic b_ah b_be b_me u_wd b_tr b_ld u_st b_wn u_id)), (b_ro, (arI G 5740 v_ro)), (b_se, (arJ G 13 k18_se)), (b_re, (arJ G 400 k18_re)), (b_pt, (arI G 200 k18_pt)), (b_ip, (arZ G 1536 k18_ip))]) hP hD hS hA [4, 5, 0, 1, 2, 3] (by decide +kernel) rfl
        refine va_callv (va_runV (As := [.int z34, .int k18_2]) (rest := []) ⟨hx, hb, hml, hown, hts⟩ (n_mark l G b_o b_ro b_se b_re b_pt b_ip b_rf b_im b_ke b_tp b_nl b_op b_ar b_pi b_pa b_ws b_hw b_ah b_be b_me b_tr b_ld b_wn H.size u_th u_sa u_fd u_td u_fr u_to u_so u_fa u_bd u_nc u_co u_le u_pd u_od k18_la k18_bk k18_ce k18_ho k18_wy k18_bt k18_ps k18_tg k18_sn u_ic u_wd u_id z34 k18_2 u_wo k18_va k18_su u_st v_ro k18_se k18_re k18_pt k18_ip h_u_td h_u_fr h_u_to h_u_bd h_u_nc h_u_co h_u_pd i_15 i_16 i_17 i_18 i_19 i_20 i_21 h_u_ic h_u_id ⟨by omega, by omega⟩ ⟨by omega, by omega⟩ (r_ro) (i_22)) (cwV 2 hts gV_X12_416 rfl rfl rfl hv_X12_mark ⟨Nat.le_of_ble_eq_true rfl, Nat.le_of_ble_eq_true rfl⟩) (g5_preV hPc hK hDc hN hT hS hFc (ci := 12) (q0 := 0) rfl rfl) rfl rfl hl.1 rfl (lv_room (Nat.le_of_ble_eq_true rfl)) dX12_markAll_42 ⟨Nat.le_of_ble_eq_true rfl, Nat.le_of_ble_eq_true rfl⟩) hS (fun q _ h => hFc q h) hFc (fun u t H locs ht hvm hw hB hz1 hk1 hS => ?_)
        obtain ⟨hP1, hD1⟩ := hB
        have hP1 := g5_ht ht hP1
        obtain ⟨z44, z45, z46, z47, z48, z49, z50, z51, z52, z53, z54, z55, z56, z57, z58, (i_36 : 0 ≤ z44.toInt ∧ z44.toInt ≤ 4840), (i_37 : 0 ≤ z45.toInt ∧ z45.toInt ≤ 1), (i_38 : 0 ≤ z48.toInt ∧ z48.toInt ≤ 63), (i_39 : 0 ≤ z49.toInt ∧ z49.toInt ≤ 23), (i_40 : 0 ≤ z50.toInt ∧ z50.toInt ≤ 3), (i_41 : 0 ≤ z51.toInt ∧ z51.toInt ≤ 1000000), (i_42 : 0 ≤ z52.toInt ∧ z52.toInt ≤ 200), (i_43 : PTI z57), rfl⟩ := hw
        have hJ9 := va_join (wr := []) hP hD [4, 5, 0, 1, 2, 3] [] rfl rfl (by decide +kernel) (by decide +kernel) hk1 hFc hP1 hD1
        clear hP hD hPc hDc hFc ht hvm hz1 hk1 hP1 hD1
        obtain ⟨hP, hD⟩ := hJ9
        refine g5_rs [(b_o, (oc12 u_th u_sa b_rf b_ro b_im b_ke u_fd b_tp u_td u_fr u_to u_so u_wo u_fa u_bd u_nc b_nl u_co b_op b_ar u_le b_pi b_pa u_pd u_od b_ws b_hw z44 b_se b_re z45 z46 z47 z48 z49 z50 z51 z52 b_pt z53 z54 b_ip u_ic b_ah b_be b_me u_wd b_tr b_ld u_st b_wn u_id)), (b_ro, (arI G 5740 v_ro)), (b_se, (arJ G 13 z55)), (b_re, (arJ G 400 z56)), (b_pt, (arI G 200 z57)), (b_ip, (arZ G 1536 z58))] hP hD ?_
        clear hP hD
        intro hP hD
        refine lv_iinc (v := (k18_2 + 1)) (lv' := [(2, .int (k18_2 + 1)), (1, .int k6_1), (0, .ref b_o)]) hx hb dX12_markAll_45 hl (k := 0) rfl rfl (by decide +kernel) rfl ?_
        clear hl
        intro ls hl
        have t_59 : (k18_2 + 1).toInt = k18_2.toInt + 1 := g5_iadd (a := k18_2.toInt) (b := 1) rfl (by decide +kernel) (by omega) (by omega)
        refine lv_goto (tgt := 18) hx hb dX12_markAll_48 (by decide +kernel) ?_
        exact ih_18_23 ((k18_2 + 1), z44, z45, z46, z47, z48, z49, z50, z51, z52, z53, z54, z55, z56, z57, z58) ls H locs (show Int.toNat (24 - (k18_2 + 1).toInt) < Int.toNat (24 - k18_2.toInt) from g_up (show k18_2.toInt < (k18_2 + 1).toInt by omega) (show k18_2.toInt < 24 by omega)) ⟨lv_sub hl [0, 1, 2] rfl, hP.sub [1, 2, 3, 4, 0, 5] rfl, hD.sub [1, 2, 3, 4, 0, 5] (by decide +kernel) rfl, hS, ⟨by omega, by omega⟩, i_36, i_37, i_38, i_39, i_40, i_41, i_42, i_43⟩
theorem dgX12_unseen_0 : ∀ r ∈ ([(0, (.aload_n 0, 1)), (1, (.iconst 0, 1)), (2, (.putfield 107, 3)), (5, (.iload_n 1, 1)), (6, (.invokestatic 138, 3)), (9, (.ifCond .ne 5, 3)), (12, (.iconst (-1), 1)), (13, (.ireturn, 1)), (14, (.aload_n 0, 1)), (15, (.invokevirtual 419, 3)), (18, (.iconst 0, 1)), (19, (.istore_n 2, 1)), (20, (.iconst 0, 1)), (21, (.istore_n 3, 1)), (22, (.iload_n 3, 1)), (23, (.bipush 24, 2)), (25, (.if_icmp .ge 31, 3)), (28, (.iload_n 2, 1)), (29, (.aload_n 0, 1)), (30, (.getfield 85, 3)), (33, (.bipush 64, 2)), (35, (.iload_n 3, 1)), (36, (.imul, 1)), (37, (.iload_n 1, 1)), (38, (.iadd, 1)), (39, (.baload, 1)), (40, (.ifCond .eq 7, 3)), (43, (.iconst 0, 1)), (44, (.goto 4, 3)), (47, (.iconst 1, 1)), (48, (.iadd, 1)), (49, (.istore_n 2, 1)), (50, (.iinc 3 1, 3)), (53, (.goto (-31), 3)), (56, (.iload_n 2, 1)), (57, (.ireturn, 1))] : List (Nat × (Instr × Nat))), decode cX12_unseen r.1 = .ok r.2 := by decide +kernel
theorem dX12_unseen_0 : decode cX12_unseen 0 = .ok (.aload_n 0, 1) := dgX12_unseen_0 (0, (.aload_n 0, 1)) (List.mem_of_getElem? (i := 0) rfl)
theorem dX12_unseen_1 : decode cX12_unseen 1 = .ok (.iconst 0, 1) := dgX12_unseen_0 (1, (.iconst 0, 1)) (List.mem_of_getElem? (i := 1) rfl)
theorem dX12_unseen_2 : decode cX12_unseen 2 = .ok (.putfield 107, 3) := dgX12_unseen_0 (2, (.putfield 107, 3)) (List.mem_of_getElem? (i := 2) rfl)
theorem dX12_unseen_5 : decode cX12_unseen 5 = .ok (.iload_n 1, 1) := dgX12_unseen_0 (5, (.iload_n 1, 1)) (List.mem_of_getElem? (i := 3) rfl)
theorem dX12_unseen_6 : decode cX12_unseen 6 = .ok (.invokestatic 138, 3) := dgX12_unseen_0 (6, (.invokestatic 138, 3)) (List.mem_of_getElem? (i := 4) rfl)
theorem dX12_unseen_9 : decode cX12_unseen 9 = .ok (.ifCond .ne 5, 3) := dgX12_unseen_0 (9, (.ifCond .ne 5, 3)) (List.mem_of_getElem? (i := 5) rfl)
theorem dX12_unseen_12 : decode cX12_unseen 12 = .ok (.iconst (-1), 1) := dgX12_unseen_0 (12, (.iconst (-1), 1)) (List.mem_of_getElem? (i := 6) rfl)
theorem dX12_unseen_13 : decode cX12_unseen 13 = .ok (.ireturn, 1) := dgX12_unseen_0 (13, (.ireturn, 1)) (List.mem_of_getElem? (i := 7) rfl)
theorem dX12_unseen_14 : decode cX12_unseen 14 = .ok (.aload_n 0, 1) := dgX12_unseen_0 (14, (.aload_n 0, 1)) (List.mem_of_getElem? (i := 8) rfl)
theorem dX12_unseen_15 : decode cX12_unseen 15 = .ok (.invokevirtual 419, 3) := dgX12_unseen_0 (15, (.invokevirtual 419, 3)) (List.mem_of_getElem? (i := 9) rfl)
theorem dX12_unseen_18 : decode cX12_unseen 18 = .ok (.iconst 0, 1) := dgX12_unseen_0 (18, (.iconst 0, 1)) (List.mem_of_getElem? (i := 10) rfl)
theorem dX12_unseen_19 : decode cX12_unseen 19 = .ok (.istore_n 2, 1) := dgX12_unseen_0 (19, (.istore_n 2, 1)) (List.mem_of_getElem? (i := 11) rfl)
theorem dX12_unseen_20 : decode cX12_unseen 20 = .ok (.iconst 0, 1) := dgX12_unseen_0 (20, (.iconst 0, 1)) (List.mem_of_getElem? (i := 12) rfl)
theorem dX12_unseen_21 : decode cX12_unseen 21 = .ok (.istore_n 3, 1) := dgX12_unseen_0 (21, (.istore_n 3, 1)) (List.mem_of_getElem? (i := 13) rfl)
theorem dX12_unseen_22 : decode cX12_unseen 22 = .ok (.iload_n 3, 1) := dgX12_unseen_0 (22, (.iload_n 3, 1)) (List.mem_of_getElem? (i := 14) rfl)
theorem dX12_unseen_23 : decode cX12_unseen 23 = .ok (.bipush 24, 2) := dgX12_unseen_0 (23, (.bipush 24, 2)) (List.mem_of_getElem? (i := 15) rfl)
theorem dX12_unseen_25 : decode cX12_unseen 25 = .ok (.if_icmp .ge 31, 3) := dgX12_unseen_0 (25, (.if_icmp .ge 31, 3)) (List.mem_of_getElem? (i := 16) rfl)
theorem dX12_unseen_28 : decode cX12_unseen 28 = .ok (.iload_n 2, 1) := dgX12_unseen_0 (28, (.iload_n 2, 1)) (List.mem_of_getElem? (i := 17) rfl)
theorem dX12_unseen_29 : decode cX12_unseen 29 = .ok (.aload_n 0, 1) := dgX12_unseen_0 (29, (.aload_n 0, 1)) (List.mem_of_getElem? (i := 18) rfl)
theorem dX12_unseen_30 : decode cX12_unseen 30 = .ok (.getfield 85, 3) := dgX12_unseen_0 (30, (.getfield 85, 3)) (List.mem_of_getElem? (i := 19) rfl)
theorem dX12_unseen_33 : decode cX12_unseen 33 = .ok (.bipush 64, 2) := dgX12_unseen_0 (33, (.bipush 64, 2)) (List.mem_of_getElem? (i := 20) rfl)
theorem dX12_unseen_35 : decode cX12_unseen 35 = .ok (.iload_n 3, 1) := dgX12_unseen_0 (35, (.iload_n 3, 1)) (List.mem_of_getElem? (i := 21) rfl)
theorem dX12_unseen_36 : decode cX12_unseen 36 = .ok (.imul, 1) := dgX12_unseen_0 (36, (.imul, 1)) (List.mem_of_getElem? (i := 22) rfl)
theorem dX12_unseen_37 : decode cX12_unseen 37 = .ok (.iload_n 1, 1) := dgX12_unseen_0 (37, (.iload_n 1, 1)) (List.mem_of_getElem? (i := 23) rfl)
theorem dX12_unseen_38 : decode cX12_unseen 38 = .ok (.iadd, 1) := dgX12_unseen_0 (38, (.iadd, 1)) (List.mem_of_getElem? (i := 24) rfl)
theorem dX12_unseen_39 : decode cX12_unseen 39 = .ok (.baload, 1) := dgX12_unseen_0 (39, (.baload, 1)) (List.mem_of_getElem? (i := 25) rfl)
theorem dX12_unseen_40 : decode cX12_unseen 40 = .ok (.ifCond .eq 7, 3) := dgX12_unseen_0 (40, (.ifCond .eq 7, 3)) (List.mem_of_getElem? (i := 26) rfl)
theorem dX12_unseen_43 : decode cX12_unseen 43 = .ok (.iconst 0, 1) := dgX12_unseen_0 (43, (.iconst 0, 1)) (List.mem_of_getElem? (i := 27) rfl)
theorem dX12_unseen_44 : decode cX12_unseen 44 = .ok (.goto 4, 3) := dgX12_unseen_0 (44, (.goto 4, 3)) (List.mem_of_getElem? (i := 28) rfl)
theorem dX12_unseen_47 : decode cX12_unseen 47 = .ok (.iconst 1, 1) := dgX12_unseen_0 (47, (.iconst 1, 1)) (List.mem_of_getElem? (i := 29) rfl)
theorem dX12_unseen_48 : decode cX12_unseen 48 = .ok (.iadd, 1) := dgX12_unseen_0 (48, (.iadd, 1)) (List.mem_of_getElem? (i := 30) rfl)
theorem dX12_unseen_49 : decode cX12_unseen 49 = .ok (.istore_n 2, 1) := dgX12_unseen_0 (49, (.istore_n 2, 1)) (List.mem_of_getElem? (i := 31) rfl)
theorem dX12_unseen_50 : decode cX12_unseen 50 = .ok (.iinc 3 1, 3) := dgX12_unseen_0 (50, (.iinc 3 1, 3)) (List.mem_of_getElem? (i := 32) rfl)
theorem dX12_unseen_53 : decode cX12_unseen 53 = .ok (.goto (-31), 3) := dgX12_unseen_0 (53, (.goto (-31), 3)) (List.mem_of_getElem? (i := 33) rfl)
theorem dX12_unseen_56 : decode cX12_unseen 56 = .ok (.iload_n 2, 1) := dgX12_unseen_0 (56, (.iload_n 2, 1)) (List.mem_of_getElem? (i := 34) rfl)
theorem dX12_unseen_57 : decode cX12_unseen 57 = .ok (.ireturn, 1) := dgX12_unseen_0 (57, (.ireturn, 1)) (List.mem_of_getElem? (i := 35) rfl)
theorem ml_X12_419 : Cond.methodLink RX12 419 yX12_markAll ∈ tblG := tg 1692 (by decide +kernel) (by decide +kernel)
theorem im_X12_markAll : Cond.instanceMethod yX12_markAll ∈ tblG := tg 1694 (by decide +kernel) (by decide +kernel)
theorem se_X12_markAll : Cond.selects RX12 yX12_markAll yX12_markAll ∈ tblG := tg 74 (by decide +kernel) (by decide +kernel)
theorem cd_X12_markAll : Cond.code yX12_markAll cX12_markAll 3 none ∈ tblG := tg 1695 (by decide +kernel) (by decide +kernel)
theorem gW_X12_markAll : GoodIn tblG (wsG yX12_markAll cX12_markAll 3 none) := tgi cd_X12_markAll
theorem gV_X12_419 : GoodIn tblG (wsV RX12 419 RX12 yX12_markAll (wsG yX12_markAll cX12_markAll 3 none)) := tgV ml_X12_419 im_X12_markAll se_X12_markAll ini_X12 gW_X12_markAll
theorem hv_X12_markAll : yX12_markAll.cls = RX12 ∧ yX12_markAll.cls ≠ "java/lang/invoke/MethodHandle" ∧ yX12_markAll.cls ≠ "java/lang/invoke/VarHandle" ∧ (parseMethodDescriptor yX12_markAll.desc).map (fun d => d.parameters.length) = some 0 := by decide +kernel
set_option maxHeartbeats 4000000 in
set_option maxRecDepth 100000 in
theorem n_unseen (l : Launch) (G : g5_G) (b_o b_ro b_se b_re b_pt b_ip b_rf b_im b_ke b_tp b_nl b_op b_ar b_pi b_pa b_ws b_hw b_ah b_be b_me b_tr b_ld b_wn : Nat) (sz : Nat) (u_th : Int32) (u_sa : Int32) (u_fd : Int32) (u_td : Int32) (u_fr : Int32) (u_to : Int32) (u_so : Int32) (u_fa : Int32) (u_bd : Int32) (u_nc : Int32) (u_co : Int32) (u_le : Int32) (u_pd : Int32) (u_od : Int32) (u_la : Int32) (u_bk : Int32) (u_ce : Int32) (u_ho : Int32) (u_wy : Int32) (u_bt : Int32) (u_ps : Int32) (u_tg : Int32) (u_sn : Int32) (u_ic : Int32) (u_wd : Int32) (u_id : Int32) (p_1 : Int32) (u_wo : Int64) (u_va : Int64) (u_su : Int64) (u_st : Int64) (v_ro : Nat → Int32) (v_se : Nat → Int64) (v_re : Nat → Int64) (v_pt : Nat → Int32) (v_ip : Nat → Int32) (h_u_td : 0 ≤ u_td.toInt ∧ u_td.toInt ≤ 400) (h_u_fr : 0 ≤ u_fr.toInt ∧ u_fr.toInt ≤ 400) (h_u_to : 0 ≤ u_to.toInt ∧ u_to.toInt ≤ 400) (h_u_bd : 0 ≤ u_bd.toInt ∧ u_bd.toInt ≤ 1) (h_u_nc : 0 ≤ u_nc.toInt ∧ u_nc.toInt ≤ 12) (h_u_co : 0 ≤ u_co.toInt ∧ u_co.toInt ≤ 400) (h_u_pd : 0 ≤ u_pd.toInt ∧ u_pd.toInt ≤ 400) (h_u_la : 0 ≤ u_la.toInt ∧ u_la.toInt ≤ 4840) (h_u_bk : 0 ≤ u_bk.toInt ∧ u_bk.toInt ≤ 1) (h_u_ce : 0 ≤ u_ce.toInt ∧ u_ce.toInt ≤ 63) (h_u_ho : 0 ≤ u_ho.toInt ∧ u_ho.toInt ≤ 23) (h_u_wy : 0 ≤ u_wy.toInt ∧ u_wy.toInt ≤ 3) (h_u_bt : 0 ≤ u_bt.toInt ∧ u_bt.toInt ≤ 1000000) (h_u_ps : 0 ≤ u_ps.toInt ∧ u_ps.toInt ≤ 200) (h_u_ic : 0 ≤ u_ic.toInt ∧ u_ic.toInt ≤ 1) (h_u_id : 0 ≤ u_id.toInt ∧ u_id.toInt ≤ 1) (r_ro : MI v_ro) (r_pt : PTI v_pt) : Met l yX12_unseen (wsG yX12_unseen cX12_unseen 4 (some .int)) ({ frames := 9, cells := 0, slots := 0, locals := 222 }) (va_Pc [.ref b_o, .int p_1] (g5_P G [(b_o, (oc12 u_th u_sa b_rf b_ro b_im b_ke u_fd b_tp u_td u_fr u_to u_so u_wo u_fa u_bd u_nc b_nl u_co b_op b_ar u_le b_pi b_pa u_pd u_od b_ws b_hw u_la b_se b_re u_bk u_va u_su u_ce u_ho u_wy u_bt u_ps b_pt u_tg u_sn b_ip u_ic b_ah b_be b_me u_wd b_tr b_ld u_st b_wn u_id)), (b_ro, (arI G 5740 v_ro)), (b_se, (arJ G 13 v_se)), (b_re, (arJ G 400 v_re)), (b_pt, (arI G 200 v_pt)), (b_ip, (arZ G 1536 v_ip))] sz)) (va_Qi (fun (r : Int32) (u : va_W) => (∃ (o_r : Int32) (o_th : Int32) (o_la : Int32) (o_bk : Int32) (o_va : Int64) (o_su : Int64) (o_ce : Int32) (o_ho : Int32) (o_wy : Int32) (o_bt : Int32) (o_ps : Int32) (o_tg : Int32) (o_sn : Int32) (o_se : Nat → Int64) (o_re : Nat → Int64) (o_pt : Nat → Int32) (o_ip : Nat → Int32), (0 ≤ o_la.toInt ∧ o_la.toInt ≤ 4840) ∧ (0 ≤ o_bk.toInt ∧ o_bk.toInt ≤ 1) ∧ (0 ≤ o_ce.toInt ∧ o_ce.toInt ≤ 63) ∧ (0 ≤ o_ho.toInt ∧ o_ho.toInt ≤ 23) ∧ (0 ≤ o_wy.toInt ∧ o_wy.toInt ≤ 3) ∧ (0 ≤ o_bt.toInt ∧ o_bt.toInt ≤ 1000000) ∧ (0 ≤ o_ps.toInt ∧ o_ps.toInt ≤ 200) ∧ (PTI o_pt) ∧ (r = o_r) ∧ (u = [(b_o, (oc12 o_th u_sa b_rf b_ro b_im b_ke u_fd b_tp u_td u_fr u_to u_so u_wo u_fa u_bd u_nc b_nl u_co b_op b_ar u_le b_pi b_pa u_pd u_od b_ws b_hw o_la b_se b_re o_bk o_va o_su o_ce o_ho o_wy o_bt o_ps b_pt o_tg o_sn b_ip u_ic b_ah b_be b_me u_wd b_tr b_ld u_st b_wn u_id)), (b_ro, (arI G 5740 v_ro)), (b_se, (arJ G 13 o_se)), (b_re, (arJ G 400 o_re)), (b_pt, (arI G 200 o_pt)), (b_ip, (arZ G 1536 o_ip))]))) (g5_B G (va_A [(b_o, (oc12 u_th u_sa b_rf b_ro b_im b_ke u_fd b_tp u_td u_fr u_to u_so u_wo u_fa u_bd u_nc b_nl u_co b_op b_ar u_le b_pi b_pa u_pd u_od b_ws b_hw u_la b_se b_re u_bk u_va u_su u_ce u_ho u_wy u_bt u_ps b_pt u_tg u_sn b_ip u_ic b_ah b_be b_me u_wd b_tr b_ld u_st b_wn u_id)), (b_ro, (arI G 5740 v_ro)), (b_se, (arJ G 13 v_se)), (b_re, (arJ G 400 v_re)), (b_pt, (arI G 200 v_pt)), (b_ip, (arZ G 1536 v_ip))] sz)) (va_A [(b_o, (oc12 u_th u_sa b_rf b_ro b_im b_ke u_fd b_tp u_td u_fr u_to u_so u_wo u_fa u_bd u_nc b_nl u_co b_op b_ar u_le b_pi b_pa u_pd u_od b_ws b_hw u_la b_se b_re u_bk u_va u_su u_ce u_ho u_wy u_bt u_ps b_pt u_tg u_sn b_ip u_ic b_ah b_be b_me u_wd b_tr b_ld u_st b_wn u_id)), (b_ro, (arI G 5740 v_ro)), (b_se, (arJ G 13 v_se)), (b_re, (arJ G 400 v_re)), (b_pt, (arI G 200 v_pt)), (b_ip, (arZ G 1536 v_ip))] sz)) 0 0 (va_A [(b_o, (oc12 u_th u_sa b_rf b_ro b_im b_ke u_fd b_tp u_td u_fr u_to u_so u_wo u_fa u_bd u_nc b_nl u_co b_op b_ar u_le b_pi b_pa u_pd u_od b_ws b_hw u_la b_se b_re u_bk u_va u_su u_ce u_ho u_wy u_bt u_ps b_pt u_tg u_sn b_ip u_ic b_ah b_be b_me u_wd b_tr b_ld u_st b_wn u_id)), (b_ro, (arI G 5740 v_ro)), (b_se, (arJ G 13 v_se)), (b_re, (arJ G 400 v_re)), (b_pt, (arI G 200 v_pt)), (b_ip, (arZ G 1536 v_ip))] sz) := by
  refine Met.ofW (cc := cX12_unseen) (maxL := 4) (ret := (some .int)) (by decide +kernel) rfl ?_
  intro p e s m args below meth c s₁ B hml hv
  obtain ⟨rfl, hsz, hP, hK, hD0, hN, hT⟩ := hv
  have hx := B.exec
  have hb := B.bytes
  have hr := B.returns
  have hts : ∀ w ∈ tblG, w.before _ s = true := fun w h => atoms_spec (ws := (wsG yX12_unseen cX12_unseen 4 (some .int))) B.pre w (List.mem_cons_of_mem _ h)
  have hown : s.vm.findClass RX12 = some m.cls := findClass_of_methodNamed B.named
  have hlocks := B.notSynchronized
  subst hsz
  have hD := hD0.self (sz := s.heap.size)
  generalize hAe : va_A [(b_o, (oc12 u_th u_sa b_rf b_ro b_im b_ke u_fd b_tp u_td u_fr u_to u_so u_wo u_fa u_bd u_nc b_nl u_co b_op b_ar u_le b_pi b_pa u_pd u_od b_ws b_hw u_la b_se b_re u_bk u_va u_su u_ce u_ho u_wy u_bt u_ps b_pt u_tg u_sn b_ip u_ic b_ah b_be b_me u_wd b_tr b_ld u_st b_wn u_id)), (b_ro, (arI G 5740 v_ro)), (b_se, (arJ G 13 v_se)), (b_re, (arJ G 400 v_re)), (b_pt, (arI G 200 v_pt)), (b_ip, (arZ G 1536 v_ip))] s.heap.size = A at hD hT ⊢
  have hA : ∀ q : Nat, s.heap.size ≤ q → A q := fun q h => by rw [← hAe]; exact Or.inr h
  have hS : va_S A s.heap s.heap [] := va_S.rf
  replace hP : va_P G.1 vwCl [(b_o, (oc12 u_th u_sa b_rf b_ro b_im b_ke u_fd b_tp u_td u_fr u_to u_so u_wo u_fa u_bd u_nc b_nl u_co b_op b_ar u_le b_pi b_pa u_pd u_od b_ws b_hw u_la b_se b_re u_bk u_va u_su u_ce u_ho u_wy u_bt u_ps b_pt u_tg u_sn b_ip u_ic b_ah b_be b_me u_wd b_tr b_ld u_st b_wn u_id)), (b_ro, (arI G 5740 v_ro)), (b_se, (arJ G 13 v_se)), (b_re, (arJ G 400 v_re)), (b_pt, (arI G 200 v_pt)), (b_ip, (arZ G 1536 v_ip))] s.heap := hP
  have hl := lv_entry ([.ref b_o, .int p_1]) (n := 4) (Nat.le_of_ble_eq_true rfl)
  rw [lg_entry_eq]
  generalize (lg_sl ([.ref b_o, .int p_1]) ++ List.replicate (4 - (lg_sl ([.ref b_o, .int p_1])).length) Slot.unset).toArray = ls at hl ⊢
  replace hl : lv_has ls 4 [(0, .ref b_o), (1, .int p_1)] := hl
  refine lv_aload_n hx hb dX12_unseen_0 rfl (lv_at hl 0 rfl) ?_
  refine lv_iconst (v := 0) hx hb dX12_unseen_1 (by decide +kernel) ?_
  refine va_put (D := G.1) (ci := 12) (v := .int 0) (ty := .int) (C := RX12) (T := TX12) (N := 52) hx hb hts inG_X12 tyX12 tyX12_ok nmX12 hown hK hP hD hS 0 rfl rfl 0 (by decide +kernel) (hts _ fl_X12_107) (fun _ h9 => h9) rfl (by decide +kernel) rfl rfl (Nat.le_of_ble_eq_true rfl) dX12_unseen_2 ?_
  clear hP hD hS
  intro H locs hP hD hS
  refine g5_rs [(b_o, (oc12 0 u_sa b_rf b_ro b_im b_ke u_fd b_tp u_td u_fr u_to u_so u_wo u_fa u_bd u_nc b_nl u_co b_op b_ar u_le b_pi b_pa u_pd u_od b_ws b_hw u_la b_se b_re u_bk u_va u_su u_ce u_ho u_wy u_bt u_ps b_pt u_tg u_sn b_ip u_ic b_ah b_be b_me u_wd b_tr b_ld u_st b_wn u_id)), (b_ro, (arI G 5740 v_ro)), (b_se, (arJ G 13 v_se)), (b_re, (arJ G 400 v_re)), (b_pt, (arI G 200 v_pt)), (b_ip, (arZ G 1536 v_ip))] hP hD ?_
  clear hP hD
  intro hP hD
  refine lv_iload_n hx hb dX12_unseen_5 rfl (lv_at hl 1 rfl) ?_
  obtain ⟨hPc, hDc, hFc⟩ := g5_sub3 (wc := []) hP hD hS hA [] (by decide +kernel) rfl
  refine va_calli (va_runS (As := [.int p_1]) (rest := []) ⟨hx, hb, hml, hown, hts⟩ (n_isCell l G H.size p_1) (va_cwS 1 hts gS_X12_138 rfl rfl rfl hs_X12_isCell ⟨Nat.le_of_ble_eq_true rfl, Nat.le_of_ble_eq_true rfl⟩) (g5_preS hPc hK hDc hN hT hS hFc) rfl rfl hl.1 rfl (lv_room (Nat.le_of_ble_eq_true rfl)) dX12_unseen_6 ⟨Nat.le_of_ble_eq_true rfl, Nat.le_of_ble_eq_true rfl⟩) hS (fun q _ h => hFc q h) hFc (fun r u t H locs ht hvm hw hB hz1 hk1 hS => ?_)
  obtain ⟨hP1, hD1⟩ := hB
  have hP1 := g5_ht ht hP1
  rcases hw with ⟨(i_1 : 0 ≤ p_1.toInt ∧ p_1.toInt ≤ 63), rfl, rfl⟩ | ⟨rfl, rfl⟩
  ·
    have hJ9 := g5_same hP hk1
    clear hP hPc hDc hFc ht hvm hz1 hk1 hP1 hD1
    have hP := hJ9
    clear hJ9
    refine lv_if_ne (tgt := 14) hx hb dX12_unseen_9 (by decide +kernel) (fun c_2 => ?_) (fun c_2 => ?_)
    ·
      refine lv_aload_n hx hb dX12_unseen_14 rfl (lv_at hl 0 rfl) ?_
      obtain ⟨hPc, hDc, hFc⟩ := g5_sub3 (wc := [(b_o, (oc12 0 u_sa b_rf b_ro b_im b_ke u_fd b_tp u_td u_fr u_to u_so u_wo u_fa u_bd u_nc b_nl u_co b_op b_ar u_le b_pi b_pa u_pd u_od b_ws b_hw u_la b_se b_re u_bk u_va u_su u_ce u_ho u_wy u_bt u_ps b_pt u_tg u_sn b_ip u_ic b_ah b_be b_me u_wd b_tr b_ld u_st b_wn u_id)), (b_ro, (arI G 5740 v_ro)), (b_se, (arJ G 13 v_se)), (b_re, (arJ G 400 v_re)), (b_pt, (arI G 200 v_pt)), (b_ip, (arZ G 1536 v_ip))]) hP hD hS hA [0, 1, 2, 3, 4, 5] (by decide +kernel) rfl
      refine va_callv (va_runV (As := []) (rest := []) ⟨hx, hb, hml, hown, hts⟩ (n_markAll l G b_o b_ro b_se b_re b_pt b_ip b_rf b_im b_ke b_tp b_nl b_op b_ar b_pi b_pa b_ws b_hw b_ah b_be b_me b_tr b_ld b_wn H.size 0 u_sa u_fd u_td u_fr u_to u_so u_fa u_bd u_nc u_co u_le u_pd u_od u_la u_bk u_ce u_ho u_wy u_bt u_ps u_tg u_sn u_ic u_wd u_id u_wo u_va u_su u_st v_ro v_se v_re v_pt v_ip h_u_td h_u_fr h_u_to h_u_bd h_u_nc h_u_co h_u_pd h_u_la h_u_bk h_u_ce h_u_ho h_u_wy h_u_bt h_u_ps h_u_ic h_u_id (r_ro) (r_pt)) (cwV 0 hts gV_X12_419 rfl rfl rfl hv_X12_markAll ⟨Nat.le_of_ble_eq_true rfl, Nat.le_of_ble_eq_true rfl⟩) (g5_preV hPc hK hDc hN hT hS hFc (ci := 12) (q0 := 0) rfl rfl) rfl rfl hl.1 rfl (lv_room (Nat.le_of_ble_eq_true rfl)) dX12_unseen_15 ⟨Nat.le_of_ble_eq_true rfl, Nat.le_of_ble_eq_true rfl⟩) hS (fun q _ h => hFc q h) hFc (fun u t H locs ht hvm hw hB hz1 hk1 hS => ?_)
      obtain ⟨hP1, hD1⟩ := hB
      have hP1 := g5_ht ht hP1
      obtain ⟨z11, z12, z13, z14, z15, z16, z17, z18, z19, z20, z21, z22, z23, z24, z25, (i_3 : 0 ≤ z11.toInt ∧ z11.toInt ≤ 4840), (i_4 : 0 ≤ z12.toInt ∧ z12.toInt ≤ 1), (i_5 : 0 ≤ z15.toInt ∧ z15.toInt ≤ 63), (i_6 : 0 ≤ z16.toInt ∧ z16.toInt ≤ 23), (i_7 : 0 ≤ z17.toInt ∧ z17.toInt ≤ 3), (i_8 : 0 ≤ z18.toInt ∧ z18.toInt ≤ 1000000), (i_9 : 0 ≤ z19.toInt ∧ z19.toInt ≤ 200), (i_10 : PTI z24), rfl⟩ := hw
      have hJ9 := va_join (wr := []) hP hD [0, 1, 2, 3, 4, 5] [] rfl rfl (by decide +kernel) (by decide +kernel) hk1 hFc hP1 hD1
      clear hP hD hPc hDc hFc ht hvm hz1 hk1 hP1 hD1
      obtain ⟨hP, hD⟩ := hJ9
      refine g5_rs [(b_o, (oc12 0 u_sa b_rf b_ro b_im b_ke u_fd b_tp u_td u_fr u_to u_so u_wo u_fa u_bd u_nc b_nl u_co b_op b_ar u_le b_pi b_pa u_pd u_od b_ws b_hw z11 b_se b_re z12 z13 z14 z15 z16 z17 z18 z19 b_pt z20 z21 b_ip u_ic b_ah b_be b_me u_wd b_tr b_ld u_st b_wn u_id)), (b_ro, (arI G 5740 v_ro)), (b_se, (arJ G 13 z22)), (b_re, (arJ G 400 z23)), (b_pt, (arI G 200 z24)), (b_ip, (arZ G 1536 z25))] hP hD ?_
      clear hP hD
      intro hP hD
      refine lv_iconst (v := 0) hx hb dX12_unseen_18 (by decide +kernel) ?_
      refine lv_istore_n (lv' := [(2, .int 0), (0, .ref b_o), (1, .int p_1)]) hx hb dX12_unseen_19 rfl hl (by decide +kernel) rfl ?_
      clear hl
      intro ls hl
      refine lv_iconst (v := 0) hx hb dX12_unseen_20 (by decide +kernel) ?_
      refine lv_istore_n (lv' := [(3, .int 0), (2, .int 0), (0, .ref b_o), (1, .int p_1)]) hx hb dX12_unseen_21 rfl hl (by decide +kernel) rfl ?_
      clear hl
      intro ls hl
      refine g5_loop (α := (Int32) × (Int32)) (fun (q : (Int32) × (Int32)) (ls : Array Slot) (H : Heap) (locs : List Loc) => match q with | (k22_3, k22_2) => lv_has ls 4 [(2, .int k22_2), (3, .int k22_3), (0, .ref b_o), (1, .int p_1)] ∧ va_P G.1 vwCl [(b_o, (oc12 0 u_sa b_rf b_ro b_im b_ke u_fd b_tp u_td u_fr u_to u_so u_wo u_fa u_bd u_nc b_nl u_co b_op b_ar u_le b_pi b_pa u_pd u_od b_ws b_hw z11 b_se b_re z12 z13 z14 z15 z16 z17 z18 z19 b_pt z20 z21 b_ip u_ic b_ah b_be b_me u_wd b_tr b_ld u_st b_wn u_id)), (b_ro, (arI G 5740 v_ro)), (b_se, (arJ G 13 z22)), (b_re, (arJ G 400 z23)), (b_pt, (arI G 200 z24)), (b_ip, (arZ G 1536 z25))] H ∧ va_D A [(b_o, (oc12 0 u_sa b_rf b_ro b_im b_ke u_fd b_tp u_td u_fr u_to u_so u_wo u_fa u_bd u_nc b_nl u_co b_op b_ar u_le b_pi b_pa u_pd u_od b_ws b_hw z11 b_se b_re z12 z13 z14 z15 z16 z17 z18 z19 b_pt z20 z21 b_ip u_ic b_ah b_be b_me u_wd b_tr b_ld u_st b_wn u_id)), (b_ro, (arI G 5740 v_ro)), (b_se, (arJ G 13 z22)), (b_re, (arJ G 400 z23)), (b_pt, (arI G 200 z24)), (b_ip, (arZ G 1536 z25))] ∧ va_S A s.heap H locs ∧ (0 ≤ k22_3.toInt ∧ k22_3.toInt ≤ 24)) (fun (q : (Int32) × (Int32)) => match q with | (k22_3, k22_2) => Int.toNat (24 - k22_3.toInt)) (0, 0) ⟨lv_sub hl [1, 0, 2, 3] rfl, hP, hD, hS, ⟨by decide, by decide⟩⟩ ?_
      rintro ⟨k22_3, k22_2⟩ ls H locs ⟨hl, hP, hD, hS, (i_26 : 0 ≤ k22_3.toInt ∧ k22_3.toInt ≤ 24)⟩ ih_22_27
      replace hl : lv_has ls 4 [(2, .int k22_2), (3, .int k22_3), (0, .ref b_o), (1, .int p_1)] := hl
      refine g5_rs [(b_o, (oc12 0 u_sa b_rf b_ro b_im b_ke u_fd b_tp u_td u_fr u_to u_so u_wo u_fa u_bd u_nc b_nl u_co b_op b_ar u_le b_pi b_pa u_pd u_od b_ws b_hw z11 b_se b_re z12 z13 z14 z15 z16 z17 z18 z19 b_pt z20 z21 b_ip u_ic b_ah b_be b_me u_wd b_tr b_ld u_st b_wn u_id)), (b_ro, (arI G 5740 v_ro)), (b_se, (arJ G 13 z22)), (b_re, (arJ G 400 z23)), (b_pt, (arI G 200 z24)), (b_ip, (arZ G 1536 z25))] hP hD ?_
      clear hP hD
      intro hP hD
      refine lv_iload_n hx hb dX12_unseen_22 rfl (lv_at hl 1 rfl) ?_
      refine lv_bipush (v := 24) hx hb dX12_unseen_23 (by decide +kernel) ?_
      refine lv_icmp_ge (tgt := 56) hx hb dX12_unseen_25 (by decide +kernel) (fun c_28 => ?_) (fun c_28 => ?_)
      ·
        have i_28 : k22_3.toInt ≥ 24 := g5_ge (a := k22_3.toInt) (b := 24) rfl (by decide +kernel) c_28
        refine lv_iload_n hx hb dX12_unseen_56 rfl (lv_at hl 0 rfl) ?_
        exact W.iret (v := k22_2) hx hb hr (fun t ht hW => ⟨⟨k22_2, [(b_o, (oc12 0 u_sa b_rf b_ro b_im b_ke u_fd b_tp u_td u_fr u_to u_so u_wo u_fa u_bd u_nc b_nl u_co b_op b_ar u_le b_pi b_pa u_pd u_od b_ws b_hw z11 b_se b_re z12 z13 z14 z15 z16 z17 z18 z19 b_pt z20 z21 b_ip u_ic b_ah b_be b_me u_wd b_tr b_ld u_st b_wn u_id)), (b_ro, (arI G 5740 v_ro)), (b_se, (arJ G 13 z22)), (b_re, (arJ G 400 z23)), (b_pt, (arI G 200 z24)), (b_ip, (arZ G 1536 z25))], rfl, ⟨k22_2, 0, z11, z12, z13, z14, z15, z16, z17, z18, z19, z20, z21, z22, z23, z24, z25, i_3, i_4, i_5, i_6, i_7, i_8, i_9, i_10, rfl, rfl⟩, by rw [ht]; exact hP.sub [0, 1, 2, 3, 4, 5] rfl, hD.sub [0, 1, 2, 3, 4, 5] (by decide +kernel) rfl⟩, hS.F ht⟩) hS.2.2 dX12_unseen_57
      ·
        have i_28 : k22_3.toInt < 24 := g5_geN (a := k22_3.toInt) (b := 24) rfl (by decide +kernel) c_28
        refine lv_iload_n hx hb dX12_unseen_28 rfl (lv_at hl 0 rfl) ?_
        refine lv_aload_n hx hb dX12_unseen_29 rfl (lv_at hl 2 rfl) ?_
        refine va_get (D := G.1) (ci := 12) (v := .ref b_ip) (C := RX12) (T := TX12) (N := 52) hx hb hts inG_X12 hown hK hP 0 rfl rfl 41 (by decide +kernel) (hts _ fl_X12_85) (fun _ h9 => h9) rfl dX12_unseen_30 ?_
        refine lv_bipush (v := 64) hx hb dX12_unseen_33 (by decide +kernel) ?_
        refine lv_iload_n hx hb dX12_unseen_35 rfl (lv_at hl 1 rfl) ?_
        refine lv_imul hx hb dX12_unseen_36 ?_
        have t_29 : (64 * k22_3).toInt = 64 * k22_3.toInt := g5_imul (a := 64) (b := k22_3.toInt) (by decide +kernel) (by rfl) (by omega) (by omega)
        refine lv_iload_n hx hb dX12_unseen_37 rfl (lv_at hl 3 rfl) ?_
        refine lv_iadd hx hb dX12_unseen_38 ?_
        have t_30 : ((64 * k22_3) + p_1).toInt = (64 * k22_3).toInt + p_1.toInt := g5_iadd (a := (64 * k22_3).toInt) (b := p_1.toInt) (by rfl) (by rfl) (by omega) (by omega)
        refine va_zald hx hb hK hP 5 2 rfl rfl (i := ((64 * k22_3) + p_1)) (vp_in_iff.mpr ⟨by omega, by omega⟩) dX12_unseen_39 ?_
        refine lv_if_eq (tgt := 47) hx hb dX12_unseen_40 (by decide +kernel) (fun c_31 => ?_) (fun c_31 => ?_)
        ·
          have i_31 : (z25 ((64 * k22_3) + p_1).toNatClampNeg).toInt = 0 := g5_eq (a := (z25 ((64 * k22_3) + p_1).toNatClampNeg).toInt) (b := 0) rfl (by decide +kernel) c_31
          refine lv_iconst (v := 1) hx hb dX12_unseen_47 (by decide +kernel) ?_
          refine lv_iadd hx hb dX12_unseen_48 ?_
          refine lv_istore_n (lv' := [(2, .int (k22_2 + 1)), (3, .int k22_3), (0, .ref b_o), (1, .int p_1)]) hx hb dX12_unseen_49 rfl hl (by decide +kernel) rfl ?_
          clear hl
          intro ls hl
          refine lv_iinc (v := (k22_3 + 1)) (lv' := [(3, .int (k22_3 + 1)), (2, .int (k22_2 + 1)), (0, .ref b_o), (1, .int p_1)]) hx hb dX12_unseen_50 hl (k := 1) rfl rfl (by decide +kernel) rfl ?_
          clear hl
          intro ls hl
          have t_32 : (k22_3 + 1).toInt = k22_3.toInt + 1 := g5_iadd (a := k22_3.toInt) (b := 1) rfl (by decide +kernel) (by omega) (by omega)
          refine lv_goto (tgt := 22) hx hb dX12_unseen_53 (by decide +kernel) ?_
          exact ih_22_27 ((k22_3 + 1), (k22_2 + 1)) ls H locs (show Int.toNat (24 - (k22_3 + 1).toInt) < Int.toNat (24 - k22_3.toInt) from g_up (show k22_3.toInt < (k22_3 + 1).toInt by omega) (show k22_3.toInt < 24 by omega)) ⟨lv_sub hl [1, 0, 2, 3] rfl, hP, hD, hS, ⟨by omega, by omega⟩⟩
        ·
          have n_31 : gNe ((z25 ((64 * k22_3) + p_1).toNatClampNeg).toInt) (0) := g5_eqN (a := (z25 ((64 * k22_3) + p_1).toNatClampNeg).toInt) (b := 0) rfl (by decide +kernel) c_31
          refine lv_iconst (v := 0) hx hb dX12_unseen_43 (by decide +kernel) ?_
          refine lv_goto (tgt := 48) hx hb dX12_unseen_44 (by decide +kernel) ?_
          refine lv_iadd hx hb dX12_unseen_48 ?_
          refine g5_ti (v := k22_2) (by simp) ?_
          refine lv_istore_n (lv' := [(2, .int k22_2), (3, .int k22_3), (0, .ref b_o), (1, .int p_1)]) hx hb dX12_unseen_49 rfl hl (by decide +kernel) rfl ?_
          clear hl
          intro ls hl
          refine lv_iinc (v := (k22_3 + 1)) (lv' := [(3, .int (k22_3 + 1)), (2, .int k22_2), (0, .ref b_o), (1, .int p_1)]) hx hb dX12_unseen_50 hl (k := 1) rfl rfl (by decide +kernel) rfl ?_
          clear hl
          intro ls hl
          have t_33 : (k22_3 + 1).toInt = k22_3.toInt + 1 := g5_iadd (a := k22_3.toInt) (b := 1) rfl (by decide +kernel) (by omega) (by omega)
          refine lv_goto (tgt := 22) hx hb dX12_unseen_53 (by decide +kernel) ?_
          exact ih_22_27 ((k22_3 + 1), k22_2) ls H locs (show Int.toNat (24 - (k22_3 + 1).toInt) < Int.toNat (24 - k22_3.toInt) from g_up (show k22_3.toInt < (k22_3 + 1).toInt by omega) (show k22_3.toInt < 24 by omega)) ⟨lv_sub hl [1, 0, 2, 3] rfl, hP, hD, hS, ⟨by omega, by omega⟩⟩
    ·
      exact absurd c_2 (by decide +kernel)
  ·
    have hJ9 := g5_same hP hk1
    clear hP hPc hDc hFc ht hvm hz1 hk1 hP1 hD1
    have hP := hJ9
    clear hJ9
    refine lv_if_ne (tgt := 14) hx hb dX12_unseen_9 (by decide +kernel) (fun c_34 => ?_) (fun c_34 => ?_)
    ·
      exact absurd c_34 (by decide +kernel)
    ·
      refine lv_iconst (v := (-1)) hx hb dX12_unseen_12 (by decide +kernel) ?_
      exact W.iret (v := (-1)) hx hb hr (fun t ht hW => ⟨⟨(-1), [(b_o, (oc12 0 u_sa b_rf b_ro b_im b_ke u_fd b_tp u_td u_fr u_to u_so u_wo u_fa u_bd u_nc b_nl u_co b_op b_ar u_le b_pi b_pa u_pd u_od b_ws b_hw u_la b_se b_re u_bk u_va u_su u_ce u_ho u_wy u_bt u_ps b_pt u_tg u_sn b_ip u_ic b_ah b_be b_me u_wd b_tr b_ld u_st b_wn u_id)), (b_ro, (arI G 5740 v_ro)), (b_se, (arJ G 13 v_se)), (b_re, (arJ G 400 v_re)), (b_pt, (arI G 200 v_pt)), (b_ip, (arZ G 1536 v_ip))], rfl, ⟨(-1), 0, u_la, u_bk, u_va, u_su, u_ce, u_ho, u_wy, u_bt, u_ps, u_tg, u_sn, v_se, v_re, v_pt, v_ip, h_u_la, h_u_bk, h_u_ce, h_u_ho, h_u_wy, h_u_bt, h_u_ps, r_pt, rfl, rfl⟩, by rw [ht]; exact hP.sub [0, 1, 2, 3, 4, 5] rfl, hD.sub [0, 1, 2, 3, 4, 5] (by decide +kernel) rfl⟩, hS.F ht⟩) hS.2.2 dX12_unseen_13
theorem dgX12_lacking_0 : ∀ r ∈ ([(0, (.iconst 0, 1)), (1, (.istore_n 2, 1)), (2, (.iconst 0, 1)), (3, (.istore_n 3, 1)), (4, (.iload_n 3, 1)), (5, (.aload_n 0, 1)), (6, (.getfield 13, 3)), (9, (.bipush 8, 2)), (11, (.iaload, 1)), (12, (.if_icmp .ge 134, 3)), (15, (.sipush 300, 3)), (18, (.bipush 6, 2)), (20, (.iload_n 3, 1)), (21, (.imul, 1)), (22, (.iadd, 1)), (23, (.istore 4, 2)), (25, (.aload_n 0, 1)), (26, (.aload_n 0, 1)), (27, (.getfield 13, 3)), (30, (.iload 4, 2)), (32, (.iaload, 1)), (33, (.aload_n 0, 1)), (34, (.getfield 13, 3)), (37, (.iload 4, 2)), (39, (.iconst 1, 1)), (40, (.iadd, 1)), (41, (.iaload, 1)), (42, (.aload_n 0, 1)), (43, (.getfield 13, 3)), (46, (.iload 4, 2)), (48, (.iconst 2, 1)), (49, (.iadd, 1)), (50, (.iaload, 1)), (51, (.iload_n 1, 1)), (52, (.invokevirtual 401, 3)), (55, (.iconst 0, 1)), (56, (.istore 5, 2)), (58, (.iconst 0, 1)), (59, (.istore 6, 2)), (61, (.iload 6, 2))] : List (Nat × (Instr × Nat))), decode cX12_lacking r.1 = .ok r.2 := by decide +kernel
theorem dX12_lacking_0 : decode cX12_lacking 0 = .ok (.iconst 0, 1) := dgX12_lacking_0 (0, (.iconst 0, 1)) (List.mem_of_getElem? (i := 0) rfl)
theorem dX12_lacking_1 : decode cX12_lacking 1 = .ok (.istore_n 2, 1) := dgX12_lacking_0 (1, (.istore_n 2, 1)) (List.mem_of_getElem? (i := 1) rfl)
theorem dX12_lacking_2 : decode cX12_lacking 2 = .ok (.iconst 0, 1) := dgX12_lacking_0 (2, (.iconst 0, 1)) (List.mem_of_getElem? (i := 2) rfl)
theorem dX12_lacking_3 : decode cX12_lacking 3 = .ok (.istore_n 3, 1) := dgX12_lacking_0 (3, (.istore_n 3, 1)) (List.mem_of_getElem? (i := 3) rfl)
theorem dX12_lacking_4 : decode cX12_lacking 4 = .ok (.iload_n 3, 1) := dgX12_lacking_0 (4, (.iload_n 3, 1)) (List.mem_of_getElem? (i := 4) rfl)
theorem dX12_lacking_5 : decode cX12_lacking 5 = .ok (.aload_n 0, 1) := dgX12_lacking_0 (5, (.aload_n 0, 1)) (List.mem_of_getElem? (i := 5) rfl)
theorem dX12_lacking_6 : decode cX12_lacking 6 = .ok (.getfield 13, 3) := dgX12_lacking_0 (6, (.getfield 13, 3)) (List.mem_of_getElem? (i := 6) rfl)
theorem dX12_lacking_9 : decode cX12_lacking 9 = .ok (.bipush 8, 2) := dgX12_lacking_0 (9, (.bipush 8, 2)) (List.mem_of_getElem? (i := 7) rfl)
theorem dX12_lacking_11 : decode cX12_lacking 11 = .ok (.iaload, 1) := dgX12_lacking_0 (11, (.iaload, 1)) (List.mem_of_getElem? (i := 8) rfl)
theorem dX12_lacking_12 : decode cX12_lacking 12 = .ok (.if_icmp .ge 134, 3) := dgX12_lacking_0 (12, (.if_icmp .ge 134, 3)) (List.mem_of_getElem? (i := 9) rfl)
theorem dX12_lacking_15 : decode cX12_lacking 15 = .ok (.sipush 300, 3) := dgX12_lacking_0 (15, (.sipush 300, 3)) (List.mem_of_getElem? (i := 10) rfl)
theorem dX12_lacking_18 : decode cX12_lacking 18 = .ok (.bipush 6, 2) := dgX12_lacking_0 (18, (.bipush 6, 2)) (List.mem_of_getElem? (i := 11) rfl)
theorem dX12_lacking_20 : decode cX12_lacking 20 = .ok (.iload_n 3, 1) := dgX12_lacking_0 (20, (.iload_n 3, 1)) (List.mem_of_getElem? (i := 12) rfl)
theorem dX12_lacking_21 : decode cX12_lacking 21 = .ok (.imul, 1) := dgX12_lacking_0 (21, (.imul, 1)) (List.mem_of_getElem? (i := 13) rfl)
theorem dX12_lacking_22 : decode cX12_lacking 22 = .ok (.iadd, 1) := dgX12_lacking_0 (22, (.iadd, 1)) (List.mem_of_getElem? (i := 14) rfl)
theorem dX12_lacking_23 : decode cX12_lacking 23 = .ok (.istore 4, 2) := dgX12_lacking_0 (23, (.istore 4, 2)) (List.mem_of_getElem? (i := 15) rfl)
theorem dX12_lacking_25 : decode cX12_lacking 25 = .ok (.aload_n 0, 1) := dgX12_lacking_0 (25, (.aload_n 0, 1)) (List.mem_of_getElem? (i := 16) rfl)
theorem dX12_lacking_26 : decode cX12_lacking 26 = .ok (.aload_n 0, 1) := dgX12_lacking_0 (26, (.aload_n 0, 1)) (List.mem_of_getElem? (i := 17) rfl)
theorem dX12_lacking_27 : decode cX12_lacking 27 = .ok (.getfield 13, 3) := dgX12_lacking_0 (27, (.getfield 13, 3)) (List.mem_of_getElem? (i := 18) rfl)
theorem dX12_lacking_30 : decode cX12_lacking 30 = .ok (.iload 4, 2) := dgX12_lacking_0 (30, (.iload 4, 2)) (List.mem_of_getElem? (i := 19) rfl)
theorem dX12_lacking_32 : decode cX12_lacking 32 = .ok (.iaload, 1) := dgX12_lacking_0 (32, (.iaload, 1)) (List.mem_of_getElem? (i := 20) rfl)
theorem dX12_lacking_33 : decode cX12_lacking 33 = .ok (.aload_n 0, 1) := dgX12_lacking_0 (33, (.aload_n 0, 1)) (List.mem_of_getElem? (i := 21) rfl)
theorem dX12_lacking_34 : decode cX12_lacking 34 = .ok (.getfield 13, 3) := dgX12_lacking_0 (34, (.getfield 13, 3)) (List.mem_of_getElem? (i := 22) rfl)
theorem dX12_lacking_37 : decode cX12_lacking 37 = .ok (.iload 4, 2) := dgX12_lacking_0 (37, (.iload 4, 2)) (List.mem_of_getElem? (i := 23) rfl)
theorem dX12_lacking_39 : decode cX12_lacking 39 = .ok (.iconst 1, 1) := dgX12_lacking_0 (39, (.iconst 1, 1)) (List.mem_of_getElem? (i := 24) rfl)
theorem dX12_lacking_40 : decode cX12_lacking 40 = .ok (.iadd, 1) := dgX12_lacking_0 (40, (.iadd, 1)) (List.mem_of_getElem? (i := 25) rfl)
theorem dX12_lacking_41 : decode cX12_lacking 41 = .ok (.iaload, 1) := dgX12_lacking_0 (41, (.iaload, 1)) (List.mem_of_getElem? (i := 26) rfl)
theorem dX12_lacking_42 : decode cX12_lacking 42 = .ok (.aload_n 0, 1) := dgX12_lacking_0 (42, (.aload_n 0, 1)) (List.mem_of_getElem? (i := 27) rfl)
theorem dX12_lacking_43 : decode cX12_lacking 43 = .ok (.getfield 13, 3) := dgX12_lacking_0 (43, (.getfield 13, 3)) (List.mem_of_getElem? (i := 28) rfl)
theorem dX12_lacking_46 : decode cX12_lacking 46 = .ok (.iload 4, 2) := dgX12_lacking_0 (46, (.iload 4, 2)) (List.mem_of_getElem? (i := 29) rfl)
theorem dX12_lacking_48 : decode cX12_lacking 48 = .ok (.iconst 2, 1) := dgX12_lacking_0 (48, (.iconst 2, 1)) (List.mem_of_getElem? (i := 30) rfl)
theorem dX12_lacking_49 : decode cX12_lacking 49 = .ok (.iadd, 1) := dgX12_lacking_0 (49, (.iadd, 1)) (List.mem_of_getElem? (i := 31) rfl)
theorem dX12_lacking_50 : decode cX12_lacking 50 = .ok (.iaload, 1) := dgX12_lacking_0 (50, (.iaload, 1)) (List.mem_of_getElem? (i := 32) rfl)
theorem dX12_lacking_51 : decode cX12_lacking 51 = .ok (.iload_n 1, 1) := dgX12_lacking_0 (51, (.iload_n 1, 1)) (List.mem_of_getElem? (i := 33) rfl)
theorem dX12_lacking_52 : decode cX12_lacking 52 = .ok (.invokevirtual 401, 3) := dgX12_lacking_0 (52, (.invokevirtual 401, 3)) (List.mem_of_getElem? (i := 34) rfl)
theorem dX12_lacking_55 : decode cX12_lacking 55 = .ok (.iconst 0, 1) := dgX12_lacking_0 (55, (.iconst 0, 1)) (List.mem_of_getElem? (i := 35) rfl)
theorem dX12_lacking_56 : decode cX12_lacking 56 = .ok (.istore 5, 2) := dgX12_lacking_0 (56, (.istore 5, 2)) (List.mem_of_getElem? (i := 36) rfl)
theorem dX12_lacking_58 : decode cX12_lacking 58 = .ok (.iconst 0, 1) := dgX12_lacking_0 (58, (.iconst 0, 1)) (List.mem_of_getElem? (i := 37) rfl)
theorem dX12_lacking_59 : decode cX12_lacking 59 = .ok (.istore 6, 2) := dgX12_lacking_0 (59, (.istore 6, 2)) (List.mem_of_getElem? (i := 38) rfl)
theorem dX12_lacking_61 : decode cX12_lacking 61 = .ok (.iload 6, 2) := dgX12_lacking_0 (61, (.iload 6, 2)) (List.mem_of_getElem? (i := 39) rfl)
theorem dgX12_lacking_1 : ∀ r ∈ ([(63, (.aload_n 0, 1)), (64, (.getfield 358, 3)), (67, (.if_icmp .ge 49, 3)), (70, (.aload_n 0, 1)), (71, (.getfield 82, 3)), (74, (.iload 6, 2)), (76, (.iaload, 1)), (77, (.bipush 64, 2)), (79, (.aload_n 0, 1)), (80, (.getfield 13, 3)), (83, (.iload 4, 2)), (85, (.iconst 4, 1)), (86, (.iadd, 1)), (87, (.iaload, 1)), (88, (.imul, 1)), (89, (.aload_n 0, 1)), (90, (.getfield 13, 3)), (93, (.iload 4, 2)), (95, (.iconst 3, 1)), (96, (.iadd, 1)), (97, (.iaload, 1)), (98, (.iadd, 1)), (99, (.if_icmp .ne 7, 3)), (102, (.iconst 1, 1)), (103, (.goto 5, 3)), (106, (.iload 5, 2)), (108, (.istore 5, 2)), (110, (.iinc 6 1, 3)), (113, (.goto (-52), 3)), (116, (.iload_n 2, 1)), (117, (.iload 5, 2)), (119, (.aload_n 0, 1)), (120, (.getfield 13, 3)), (123, (.iload 4, 2)), (125, (.iconst 5, 1)), (126, (.iadd, 1)), (127, (.iaload, 1)), (128, (.if_icmp .eq 9, 3)), (131, (.iconst 1, 1)), (132, (.iload_n 3, 1))] : List (Nat × (Instr × Nat))), decode cX12_lacking r.1 = .ok r.2 := by decide +kernel
theorem dX12_lacking_63 : decode cX12_lacking 63 = .ok (.aload_n 0, 1) := dgX12_lacking_1 (63, (.aload_n 0, 1)) (List.mem_of_getElem? (i := 0) rfl)
theorem dX12_lacking_64 : decode cX12_lacking 64 = .ok (.getfield 358, 3) := dgX12_lacking_1 (64, (.getfield 358, 3)) (List.mem_of_getElem? (i := 1) rfl)
theorem dX12_lacking_67 : decode cX12_lacking 67 = .ok (.if_icmp .ge 49, 3) := dgX12_lacking_1 (67, (.if_icmp .ge 49, 3)) (List.mem_of_getElem? (i := 2) rfl)
theorem dX12_lacking_70 : decode cX12_lacking 70 = .ok (.aload_n 0, 1) := dgX12_lacking_1 (70, (.aload_n 0, 1)) (List.mem_of_getElem? (i := 3) rfl)
theorem dX12_lacking_71 : decode cX12_lacking 71 = .ok (.getfield 82, 3) := dgX12_lacking_1 (71, (.getfield 82, 3)) (List.mem_of_getElem? (i := 4) rfl)
theorem dX12_lacking_74 : decode cX12_lacking 74 = .ok (.iload 6, 2) := dgX12_lacking_1 (74, (.iload 6, 2)) (List.mem_of_getElem? (i := 5) rfl)
theorem dX12_lacking_76 : decode cX12_lacking 76 = .ok (.iaload, 1) := dgX12_lacking_1 (76, (.iaload, 1)) (List.mem_of_getElem? (i := 6) rfl)
theorem dX12_lacking_77 : decode cX12_lacking 77 = .ok (.bipush 64, 2) := dgX12_lacking_1 (77, (.bipush 64, 2)) (List.mem_of_getElem? (i := 7) rfl)
theorem dX12_lacking_79 : decode cX12_lacking 79 = .ok (.aload_n 0, 1) := dgX12_lacking_1 (79, (.aload_n 0, 1)) (List.mem_of_getElem? (i := 8) rfl)
theorem dX12_lacking_80 : decode cX12_lacking 80 = .ok (.getfield 13, 3) := dgX12_lacking_1 (80, (.getfield 13, 3)) (List.mem_of_getElem? (i := 9) rfl)
theorem dX12_lacking_83 : decode cX12_lacking 83 = .ok (.iload 4, 2) := dgX12_lacking_1 (83, (.iload 4, 2)) (List.mem_of_getElem? (i := 10) rfl)
theorem dX12_lacking_85 : decode cX12_lacking 85 = .ok (.iconst 4, 1) := dgX12_lacking_1 (85, (.iconst 4, 1)) (List.mem_of_getElem? (i := 11) rfl)
theorem dX12_lacking_86 : decode cX12_lacking 86 = .ok (.iadd, 1) := dgX12_lacking_1 (86, (.iadd, 1)) (List.mem_of_getElem? (i := 12) rfl)
theorem dX12_lacking_87 : decode cX12_lacking 87 = .ok (.iaload, 1) := dgX12_lacking_1 (87, (.iaload, 1)) (List.mem_of_getElem? (i := 13) rfl)
theorem dX12_lacking_88 : decode cX12_lacking 88 = .ok (.imul, 1) := dgX12_lacking_1 (88, (.imul, 1)) (List.mem_of_getElem? (i := 14) rfl)
theorem dX12_lacking_89 : decode cX12_lacking 89 = .ok (.aload_n 0, 1) := dgX12_lacking_1 (89, (.aload_n 0, 1)) (List.mem_of_getElem? (i := 15) rfl)
theorem dX12_lacking_90 : decode cX12_lacking 90 = .ok (.getfield 13, 3) := dgX12_lacking_1 (90, (.getfield 13, 3)) (List.mem_of_getElem? (i := 16) rfl)
theorem dX12_lacking_93 : decode cX12_lacking 93 = .ok (.iload 4, 2) := dgX12_lacking_1 (93, (.iload 4, 2)) (List.mem_of_getElem? (i := 17) rfl)
theorem dX12_lacking_95 : decode cX12_lacking 95 = .ok (.iconst 3, 1) := dgX12_lacking_1 (95, (.iconst 3, 1)) (List.mem_of_getElem? (i := 18) rfl)
theorem dX12_lacking_96 : decode cX12_lacking 96 = .ok (.iadd, 1) := dgX12_lacking_1 (96, (.iadd, 1)) (List.mem_of_getElem? (i := 19) rfl)
theorem dX12_lacking_97 : decode cX12_lacking 97 = .ok (.iaload, 1) := dgX12_lacking_1 (97, (.iaload, 1)) (List.mem_of_getElem? (i := 20) rfl)
theorem dX12_lacking_98 : decode cX12_lacking 98 = .ok (.iadd, 1) := dgX12_lacking_1 (98, (.iadd, 1)) (List.mem_of_getElem? (i := 21) rfl)
theorem dX12_lacking_99 : decode cX12_lacking 99 = .ok (.if_icmp .ne 7, 3) := dgX12_lacking_1 (99, (.if_icmp .ne 7, 3)) (List.mem_of_getElem? (i := 22) rfl)
theorem dX12_lacking_102 : decode cX12_lacking 102 = .ok (.iconst 1, 1) := dgX12_lacking_1 (102, (.iconst 1, 1)) (List.mem_of_getElem? (i := 23) rfl)
theorem dX12_lacking_103 : decode cX12_lacking 103 = .ok (.goto 5, 3) := dgX12_lacking_1 (103, (.goto 5, 3)) (List.mem_of_getElem? (i := 24) rfl)
theorem dX12_lacking_106 : decode cX12_lacking 106 = .ok (.iload 5, 2) := dgX12_lacking_1 (106, (.iload 5, 2)) (List.mem_of_getElem? (i := 25) rfl)
theorem dX12_lacking_108 : decode cX12_lacking 108 = .ok (.istore 5, 2) := dgX12_lacking_1 (108, (.istore 5, 2)) (List.mem_of_getElem? (i := 26) rfl)
theorem dX12_lacking_110 : decode cX12_lacking 110 = .ok (.iinc 6 1, 3) := dgX12_lacking_1 (110, (.iinc 6 1, 3)) (List.mem_of_getElem? (i := 27) rfl)
theorem dX12_lacking_113 : decode cX12_lacking 113 = .ok (.goto (-52), 3) := dgX12_lacking_1 (113, (.goto (-52), 3)) (List.mem_of_getElem? (i := 28) rfl)
theorem dX12_lacking_116 : decode cX12_lacking 116 = .ok (.iload_n 2, 1) := dgX12_lacking_1 (116, (.iload_n 2, 1)) (List.mem_of_getElem? (i := 29) rfl)
theorem dX12_lacking_117 : decode cX12_lacking 117 = .ok (.iload 5, 2) := dgX12_lacking_1 (117, (.iload 5, 2)) (List.mem_of_getElem? (i := 30) rfl)
theorem dX12_lacking_119 : decode cX12_lacking 119 = .ok (.aload_n 0, 1) := dgX12_lacking_1 (119, (.aload_n 0, 1)) (List.mem_of_getElem? (i := 31) rfl)
theorem dX12_lacking_120 : decode cX12_lacking 120 = .ok (.getfield 13, 3) := dgX12_lacking_1 (120, (.getfield 13, 3)) (List.mem_of_getElem? (i := 32) rfl)
theorem dX12_lacking_123 : decode cX12_lacking 123 = .ok (.iload 4, 2) := dgX12_lacking_1 (123, (.iload 4, 2)) (List.mem_of_getElem? (i := 33) rfl)
theorem dX12_lacking_125 : decode cX12_lacking 125 = .ok (.iconst 5, 1) := dgX12_lacking_1 (125, (.iconst 5, 1)) (List.mem_of_getElem? (i := 34) rfl)
theorem dX12_lacking_126 : decode cX12_lacking 126 = .ok (.iadd, 1) := dgX12_lacking_1 (126, (.iadd, 1)) (List.mem_of_getElem? (i := 35) rfl)
theorem dX12_lacking_127 : decode cX12_lacking 127 = .ok (.iaload, 1) := dgX12_lacking_1 (127, (.iaload, 1)) (List.mem_of_getElem? (i := 36) rfl)
theorem dX12_lacking_128 : decode cX12_lacking 128 = .ok (.if_icmp .eq 9, 3) := dgX12_lacking_1 (128, (.if_icmp .eq 9, 3)) (List.mem_of_getElem? (i := 37) rfl)
theorem dX12_lacking_131 : decode cX12_lacking 131 = .ok (.iconst 1, 1) := dgX12_lacking_1 (131, (.iconst 1, 1)) (List.mem_of_getElem? (i := 38) rfl)
theorem dX12_lacking_132 : decode cX12_lacking 132 = .ok (.iload_n 3, 1) := dgX12_lacking_1 (132, (.iload_n 3, 1)) (List.mem_of_getElem? (i := 39) rfl)
theorem dgX12_lacking_2 : ∀ r ∈ ([(133, (.ishl, 1)), (134, (.goto 4, 3)), (137, (.iconst 0, 1)), (138, (.ior, 1)), (139, (.istore_n 2, 1)), (140, (.iinc 3 1, 3)), (143, (.goto (-139), 3)), (146, (.iload_n 2, 1)), (147, (.ireturn, 1))] : List (Nat × (Instr × Nat))), decode cX12_lacking r.1 = .ok r.2 := by decide +kernel
theorem dX12_lacking_133 : decode cX12_lacking 133 = .ok (.ishl, 1) := dgX12_lacking_2 (133, (.ishl, 1)) (List.mem_of_getElem? (i := 0) rfl)
theorem dX12_lacking_134 : decode cX12_lacking 134 = .ok (.goto 4, 3) := dgX12_lacking_2 (134, (.goto 4, 3)) (List.mem_of_getElem? (i := 1) rfl)
theorem dX12_lacking_137 : decode cX12_lacking 137 = .ok (.iconst 0, 1) := dgX12_lacking_2 (137, (.iconst 0, 1)) (List.mem_of_getElem? (i := 2) rfl)
theorem dX12_lacking_138 : decode cX12_lacking 138 = .ok (.ior, 1) := dgX12_lacking_2 (138, (.ior, 1)) (List.mem_of_getElem? (i := 3) rfl)
theorem dX12_lacking_139 : decode cX12_lacking 139 = .ok (.istore_n 2, 1) := dgX12_lacking_2 (139, (.istore_n 2, 1)) (List.mem_of_getElem? (i := 4) rfl)
theorem dX12_lacking_140 : decode cX12_lacking 140 = .ok (.iinc 3 1, 3) := dgX12_lacking_2 (140, (.iinc 3 1, 3)) (List.mem_of_getElem? (i := 5) rfl)
theorem dX12_lacking_143 : decode cX12_lacking 143 = .ok (.goto (-139), 3) := dgX12_lacking_2 (143, (.goto (-139), 3)) (List.mem_of_getElem? (i := 6) rfl)
theorem dX12_lacking_146 : decode cX12_lacking 146 = .ok (.iload_n 2, 1) := dgX12_lacking_2 (146, (.iload_n 2, 1)) (List.mem_of_getElem? (i := 7) rfl)
theorem dX12_lacking_147 : decode cX12_lacking 147 = .ok (.ireturn, 1) := dgX12_lacking_2 (147, (.ireturn, 1)) (List.mem_of_getElem? (i := 8) rfl)
set_option maxHeartbeats 4000000 in
set_option maxRecDepth 100000 in
theorem n_lacking (l : Launch) (G : g5_G) (b_o b_ro b_se b_re b_pt b_rf b_im b_ke b_tp b_nl b_op b_ar b_pi b_pa b_ws b_hw b_ip b_ah b_be b_me b_tr b_ld b_wn : Nat) (sz : Nat) (u_th : Int32) (u_sa : Int32) (u_fd : Int32) (u_td : Int32) (u_fr : Int32) (u_to : Int32) (u_so : Int32) (u_fa : Int32) (u_bd : Int32) (u_nc : Int32) (u_co : Int32) (u_le : Int32) (u_pd : Int32) (u_od : Int32) (u_la : Int32) (u_bk : Int32) (u_ce : Int32) (u_ho : Int32) (u_wy : Int32) (u_bt : Int32) (u_ps : Int32) (u_tg : Int32) (u_sn : Int32) (u_ic : Int32) (u_wd : Int32) (u_id : Int32) (p_1 : Int32) (u_wo : Int64) (u_va : Int64) (u_su : Int64) (u_st : Int64) (v_ro : Nat → Int32) (v_se : Nat → Int64) (v_re : Nat → Int64) (v_pt : Nat → Int32) (h_u_td : 0 ≤ u_td.toInt ∧ u_td.toInt ≤ 400) (h_u_fr : 0 ≤ u_fr.toInt ∧ u_fr.toInt ≤ 400) (h_u_to : 0 ≤ u_to.toInt ∧ u_to.toInt ≤ 400) (h_u_bd : 0 ≤ u_bd.toInt ∧ u_bd.toInt ≤ 1) (h_u_nc : 0 ≤ u_nc.toInt ∧ u_nc.toInt ≤ 12) (h_u_co : 0 ≤ u_co.toInt ∧ u_co.toInt ≤ 400) (h_u_pd : 0 ≤ u_pd.toInt ∧ u_pd.toInt ≤ 400) (h_u_la : 0 ≤ u_la.toInt ∧ u_la.toInt ≤ 4840) (h_u_bk : 0 ≤ u_bk.toInt ∧ u_bk.toInt ≤ 1) (h_u_ce : 0 ≤ u_ce.toInt ∧ u_ce.toInt ≤ 63) (h_u_ho : 0 ≤ u_ho.toInt ∧ u_ho.toInt ≤ 23) (h_u_wy : 0 ≤ u_wy.toInt ∧ u_wy.toInt ≤ 3) (h_u_bt : 0 ≤ u_bt.toInt ∧ u_bt.toInt ≤ 1000000) (h_u_ps : 0 ≤ u_ps.toInt ∧ u_ps.toInt ≤ 200) (h_u_ic : 0 ≤ u_ic.toInt ∧ u_ic.toInt ≤ 1) (h_u_id : 0 ≤ u_id.toInt ∧ u_id.toInt ≤ 1) (r_ro : MI v_ro) (r_pt : PTI v_pt) : Met l yX12_lacking (wsG yX12_lacking cX12_lacking 7 (some .int)) ({ frames := 7, cells := 0, slots := 0, locals := 176 }) (va_Pc [.ref b_o, .int p_1] (g5_P G [(b_o, (oc12 u_th u_sa b_rf b_ro b_im b_ke u_fd b_tp u_td u_fr u_to u_so u_wo u_fa u_bd u_nc b_nl u_co b_op b_ar u_le b_pi b_pa u_pd u_od b_ws b_hw u_la b_se b_re u_bk u_va u_su u_ce u_ho u_wy u_bt u_ps b_pt u_tg u_sn b_ip u_ic b_ah b_be b_me u_wd b_tr b_ld u_st b_wn u_id)), (b_ro, (arI G 5740 v_ro)), (b_se, (arJ G 13 v_se)), (b_re, (arJ G 400 v_re)), (b_pt, (arI G 200 v_pt))] sz)) (va_Qi (fun (r : Int32) (u : va_W) => (∃ (o_r : Int32) (o_la : Int32) (o_bk : Int32) (o_va : Int64) (o_su : Int64) (o_ce : Int32) (o_ho : Int32) (o_wy : Int32) (o_bt : Int32) (o_ps : Int32) (o_tg : Int32) (o_sn : Int32) (o_se : Nat → Int64) (o_re : Nat → Int64) (o_pt : Nat → Int32), (0 ≤ o_la.toInt ∧ o_la.toInt ≤ 4840) ∧ (0 ≤ o_bk.toInt ∧ o_bk.toInt ≤ 1) ∧ (0 ≤ o_ce.toInt ∧ o_ce.toInt ≤ 63) ∧ (0 ≤ o_ho.toInt ∧ o_ho.toInt ≤ 23) ∧ (0 ≤ o_wy.toInt ∧ o_wy.toInt ≤ 3) ∧ (0 ≤ o_bt.toInt ∧ o_bt.toInt ≤ 1000000) ∧ (0 ≤ o_ps.toInt ∧ o_ps.toInt ≤ 200) ∧ (PTI o_pt) ∧ (r = o_r) ∧ (u = [(b_o, (oc12 u_th u_sa b_rf b_ro b_im b_ke u_fd b_tp u_td u_fr u_to u_so u_wo u_fa u_bd u_nc b_nl u_co b_op b_ar u_le b_pi b_pa u_pd u_od b_ws b_hw o_la b_se b_re o_bk o_va o_su o_ce o_ho o_wy o_bt o_ps b_pt o_tg o_sn b_ip u_ic b_ah b_be b_me u_wd b_tr b_ld u_st b_wn u_id)), (b_ro, (arI G 5740 v_ro)), (b_se, (arJ G 13 o_se)), (b_re, (arJ G 400 o_re)), (b_pt, (arI G 200 o_pt))]))) (g5_B G (va_A [(b_o, (oc12 u_th u_sa b_rf b_ro b_im b_ke u_fd b_tp u_td u_fr u_to u_so u_wo u_fa u_bd u_nc b_nl u_co b_op b_ar u_le b_pi b_pa u_pd u_od b_ws b_hw u_la b_se b_re u_bk u_va u_su u_ce u_ho u_wy u_bt u_ps b_pt u_tg u_sn b_ip u_ic b_ah b_be b_me u_wd b_tr b_ld u_st b_wn u_id)), (b_ro, (arI G 5740 v_ro)), (b_se, (arJ G 13 v_se)), (b_re, (arJ G 400 v_re)), (b_pt, (arI G 200 v_pt))] sz)) (va_A [(b_o, (oc12 u_th u_sa b_rf b_ro b_im b_ke u_fd b_tp u_td u_fr u_to u_so u_wo u_fa u_bd u_nc b_nl u_co b_op b_ar u_le b_pi b_pa u_pd u_od b_ws b_hw u_la b_se b_re u_bk u_va u_su u_ce u_ho u_wy u_bt u_ps b_pt u_tg u_sn b_ip u_ic b_ah b_be b_me u_wd b_tr b_ld u_st b_wn u_id)), (b_ro, (arI G 5740 v_ro)), (b_se, (arJ G 13 v_se)), (b_re, (arJ G 400 v_re)), (b_pt, (arI G 200 v_pt))] sz)) 0 0 (va_A [(b_o, (oc12 u_th u_sa b_rf b_ro b_im b_ke u_fd b_tp u_td u_fr u_to u_so u_wo u_fa u_bd u_nc b_nl u_co b_op b_ar u_le b_pi b_pa u_pd u_od b_ws b_hw u_la b_se b_re u_bk u_va u_su u_ce u_ho u_wy u_bt u_ps b_pt u_tg u_sn b_ip u_ic b_ah b_be b_me u_wd b_tr b_ld u_st b_wn u_id)), (b_ro, (arI G 5740 v_ro)), (b_se, (arJ G 13 v_se)), (b_re, (arJ G 400 v_re)), (b_pt, (arI G 200 v_pt))] sz) := by
  refine Met.ofW (cc := cX12_lacking) (maxL := 7) (ret := (some .int)) (by decide +kernel) rfl ?_
  intro p e s m args below meth c s₁ B hml hv
  obtain ⟨rfl, hsz, hP, hK, hD0, hN, hT⟩ := hv
  have hx := B.exec
  have hb := B.bytes
  have hr := B.returns
  have hts : ∀ w ∈ tblG, w.before _ s = true := fun w h => atoms_spec (ws := (wsG yX12_lacking cX12_lacking 7 (some .int))) B.pre w (List.mem_cons_of_mem _ h)
  have hown : s.vm.findClass RX12 = some m.cls := findClass_of_methodNamed B.named
  have hlocks := B.notSynchronized
  subst hsz
  have hD := hD0.self (sz := s.heap.size)
  generalize hAe : va_A [(b_o, (oc12 u_th u_sa b_rf b_ro b_im b_ke u_fd b_tp u_td u_fr u_to u_so u_wo u_fa u_bd u_nc b_nl u_co b_op b_ar u_le b_pi b_pa u_pd u_od b_ws b_hw u_la b_se b_re u_bk u_va u_su u_ce u_ho u_wy u_bt u_ps b_pt u_tg u_sn b_ip u_ic b_ah b_be b_me u_wd b_tr b_ld u_st b_wn u_id)), (b_ro, (arI G 5740 v_ro)), (b_se, (arJ G 13 v_se)), (b_re, (arJ G 400 v_re)), (b_pt, (arI G 200 v_pt))] s.heap.size = A at hD hT ⊢
  have hA : ∀ q : Nat, s.heap.size ≤ q → A q := fun q h => by rw [← hAe]; exact Or.inr h
  have hS : va_S A s.heap s.heap [] := va_S.rf
  replace hP : va_P G.1 vwCl [(b_o, (oc12 u_th u_sa b_rf b_ro b_im b_ke u_fd b_tp u_td u_fr u_to u_so u_wo u_fa u_bd u_nc b_nl u_co b_op b_ar u_le b_pi b_pa u_pd u_od b_ws b_hw u_la b_se b_re u_bk u_va u_su u_ce u_ho u_wy u_bt u_ps b_pt u_tg u_sn b_ip u_ic b_ah b_be b_me u_wd b_tr b_ld u_st b_wn u_id)), (b_ro, (arI G 5740 v_ro)), (b_se, (arJ G 13 v_se)), (b_re, (arJ G 400 v_re)), (b_pt, (arI G 200 v_pt))] s.heap := hP
  have hl := lv_entry ([.ref b_o, .int p_1]) (n := 7) (Nat.le_of_ble_eq_true rfl)
  rw [lg_entry_eq]
  generalize (lg_sl ([.ref b_o, .int p_1]) ++ List.replicate (7 - (lg_sl ([.ref b_o, .int p_1])).length) Slot.unset).toArray = ls at hl ⊢
  replace hl : lv_has ls 7 [(0, .ref b_o), (1, .int p_1)] := hl
  refine lv_iconst (v := 0) hx hb dX12_lacking_0 (by decide +kernel) ?_
  refine lv_istore_n (lv' := [(2, .int 0), (0, .ref b_o), (1, .int p_1)]) hx hb dX12_lacking_1 rfl hl (by decide +kernel) rfl ?_
  clear hl
  intro ls hl
  refine lv_iconst (v := 0) hx hb dX12_lacking_2 (by decide +kernel) ?_
  refine lv_istore_n (lv' := [(3, .int 0), (2, .int 0), (0, .ref b_o), (1, .int p_1)]) hx hb dX12_lacking_3 rfl hl (by decide +kernel) rfl ?_
  clear hl
  intro ls hl
  refine g5_loop (α := (Int32) × (Int32) × (Int32) × (Int32) × (Int64) × (Int64) × (Int32) × (Int32) × (Int32) × (Int32) × (Int32) × (Int32) × (Int32) × (Nat → Int64) × (Nat → Int64) × (Nat → Int32)) (fun (q : (Int32) × (Int32) × (Int32) × (Int32) × (Int64) × (Int64) × (Int32) × (Int32) × (Int32) × (Int32) × (Int32) × (Int32) × (Int32) × (Nat → Int64) × (Nat → Int64) × (Nat → Int32)) (ls : Array Slot) (H : Heap) (locs : List Loc) => match q with | (k4_3, k4_2, k4_la, k4_bk, k4_va, k4_su, k4_ce, k4_ho, k4_wy, k4_bt, k4_ps, k4_tg, k4_sn, k4_se, k4_re, k4_pt) => lv_has ls 7 [(2, .int k4_2), (3, .int k4_3), (0, .ref b_o), (1, .int p_1)] ∧ va_P G.1 vwCl [(b_o, (oc12 u_th u_sa b_rf b_ro b_im b_ke u_fd b_tp u_td u_fr u_to u_so u_wo u_fa u_bd u_nc b_nl u_co b_op b_ar u_le b_pi b_pa u_pd u_od b_ws b_hw k4_la b_se b_re k4_bk k4_va k4_su k4_ce k4_ho k4_wy k4_bt k4_ps b_pt k4_tg k4_sn b_ip u_ic b_ah b_be b_me u_wd b_tr b_ld u_st b_wn u_id)), (b_ro, (arI G 5740 v_ro)), (b_se, (arJ G 13 k4_se)), (b_re, (arJ G 400 k4_re)), (b_pt, (arI G 200 k4_pt))] H ∧ va_D A [(b_o, (oc12 u_th u_sa b_rf b_ro b_im b_ke u_fd b_tp u_td u_fr u_to u_so u_wo u_fa u_bd u_nc b_nl u_co b_op b_ar u_le b_pi b_pa u_pd u_od b_ws b_hw k4_la b_se b_re k4_bk k4_va k4_su k4_ce k4_ho k4_wy k4_bt k4_ps b_pt k4_tg k4_sn b_ip u_ic b_ah b_be b_me u_wd b_tr b_ld u_st b_wn u_id)), (b_ro, (arI G 5740 v_ro)), (b_se, (arJ G 13 k4_se)), (b_re, (arJ G 400 k4_re)), (b_pt, (arI G 200 k4_pt))] ∧ va_S A s.heap H locs ∧ (0 ≤ k4_3.toInt ∧ k4_3.toInt ≤ 6) ∧ (0 ≤ k4_la.toInt ∧ k4_la.toInt ≤ 4840) ∧ (0 ≤ k4_bk.toInt ∧ k4_bk.toInt ≤ 1) ∧ (0 ≤ k4_ce.toInt ∧ k4_ce.toInt ≤ 63) ∧ (0 ≤ k4_ho.toInt ∧ k4_ho.toInt ≤ 23) ∧ (0 ≤ k4_wy.toInt ∧ k4_wy.toInt ≤ 3) ∧ (0 ≤ k4_bt.toInt ∧ k4_bt.toInt ≤ 1000000) ∧ (0 ≤ k4_ps.toInt ∧ k4_ps.toInt ≤ 200) ∧ (PTI k4_pt)) (fun (q : (Int32) × (Int32) × (Int32) × (Int32) × (Int64) × (Int64) × (Int32) × (Int32) × (Int32) × (Int32) × (Int32) × (Int32) × (Int32) × (Nat → Int64) × (Nat → Int64) × (Nat → Int32)) => match q with | (k4_3, k4_2, k4_la, k4_bk, k4_va, k4_su, k4_ce, k4_ho, k4_wy, k4_bt, k4_ps, k4_tg, k4_sn, k4_se, k4_re, k4_pt) => Int.toNat (6 - k4_3.toInt)) (0, 0, u_la, u_bk, u_va, u_su, u_ce, u_ho, u_wy, u_bt, u_ps, u_tg, u_sn, v_se, v_re, v_pt) ⟨lv_sub hl [1, 0, 2, 3] rfl, hP, hD, hS, ⟨by decide, by decide⟩, h_u_la, h_u_bk, h_u_ce, h_u_ho, h_u_wy, h_u_bt, h_u_ps, r_pt⟩ ?_
  rintro ⟨k4_3, k4_2, k4_la, k4_bk, k4_va, k4_su, k4_ce, k4_ho, k4_wy, k4_bt, k4_ps, k4_tg, k4_sn, k4_se, k4_re, k4_pt⟩ ls H locs ⟨hl, hP, hD, hS, (i_1 : 0 ≤ k4_3.toInt ∧ k4_3.toInt ≤ 6), (i_2 : 0 ≤ k4_la.toInt ∧ k4_la.toInt ≤ 4840), (i_3 : 0 ≤ k4_bk.toInt ∧ k4_bk.toInt ≤ 1), (i_4 : 0 ≤ k4_ce.toInt ∧ k4_ce.toInt ≤ 63), (i_5 : 0 ≤ k4_ho.toInt ∧ k4_ho.toInt ≤ 23), (i_6 : 0 ≤ k4_wy.toInt ∧ k4_wy.toInt ≤ 3), (i_7 : 0 ≤ k4_bt.toInt ∧ k4_bt.toInt ≤ 1000000), (i_8 : 0 ≤ k4_ps.toInt ∧ k4_ps.toInt ≤ 200), (i_9 : PTI k4_pt)⟩ ih_4_10
  replace hl : lv_has ls 7 [(2, .int k4_2), (3, .int k4_3), (0, .ref b_o), (1, .int p_1)] := hl
  refine g5_rs [(b_o, (oc12 u_th u_sa b_rf b_ro b_im b_ke u_fd b_tp u_td u_fr u_to u_so u_wo u_fa u_bd u_nc b_nl u_co b_op b_ar u_le b_pi b_pa u_pd u_od b_ws b_hw k4_la b_se b_re k4_bk k4_va k4_su k4_ce k4_ho k4_wy k4_bt k4_ps b_pt k4_tg k4_sn b_ip u_ic b_ah b_be b_me u_wd b_tr b_ld u_st b_wn u_id)), (b_ro, (arI G 5740 v_ro)), (b_se, (arJ G 13 k4_se)), (b_re, (arJ G 400 k4_re)), (b_pt, (arI G 200 k4_pt))] hP hD ?_
  clear hP hD
  intro hP hD
  refine lv_iload_n hx hb dX12_lacking_4 rfl (lv_at hl 1 rfl) ?_
  refine lv_aload_n hx hb dX12_lacking_5 rfl (lv_at hl 2 rfl) ?_
  refine va_get (D := G.1) (ci := 12) (v := .ref b_ro) (C := RX12) (T := TX12) (N := 52) hx hb hts inG_X12 hown hK hP 0 rfl rfl 3 (by decide +kernel) (hts _ fl_X12_13) (fun _ h9 => h9) rfl dX12_lacking_6 ?_
  refine lv_bipush (v := 8) hx hb dX12_lacking_9 (by decide +kernel) ?_
  refine va_iald hx hb hK hP 1 0 rfl rfl (i := 8) (by unfold vp_in; decide) dX12_lacking_11 ?_
  refine g5_ti (v := (v_ro 8)) rfl ?_
  have hr_11 : 0 ≤ (v_ro 8).toInt ∧ (v_ro 8).toInt ≤ 6 := mi_8 r_ro
  refine lv_icmp_ge (tgt := 146) hx hb dX12_lacking_12 (by decide +kernel) (fun c_12 => ?_) (fun c_12 => ?_)
  ·
    have i_12 : k4_3.toInt ≥ (v_ro 8).toInt := g5_ge (a := k4_3.toInt) (b := (v_ro 8).toInt) rfl rfl c_12
    refine lv_iload_n hx hb dX12_lacking_146 rfl (lv_at hl 0 rfl) ?_
    exact W.iret (v := k4_2) hx hb hr (fun t ht hW => ⟨⟨k4_2, [(b_o, (oc12 u_th u_sa b_rf b_ro b_im b_ke u_fd b_tp u_td u_fr u_to u_so u_wo u_fa u_bd u_nc b_nl u_co b_op b_ar u_le b_pi b_pa u_pd u_od b_ws b_hw k4_la b_se b_re k4_bk k4_va k4_su k4_ce k4_ho k4_wy k4_bt k4_ps b_pt k4_tg k4_sn b_ip u_ic b_ah b_be b_me u_wd b_tr b_ld u_st b_wn u_id)), (b_ro, (arI G 5740 v_ro)), (b_se, (arJ G 13 k4_se)), (b_re, (arJ G 400 k4_re)), (b_pt, (arI G 200 k4_pt))], rfl, ⟨k4_2, k4_la, k4_bk, k4_va, k4_su, k4_ce, k4_ho, k4_wy, k4_bt, k4_ps, k4_tg, k4_sn, k4_se, k4_re, k4_pt, i_2, i_3, i_4, i_5, i_6, i_7, i_8, i_9, rfl, rfl⟩, by rw [ht]; exact hP.sub [0, 1, 2, 3, 4] rfl, hD.sub [0, 1, 2, 3, 4] (by decide +kernel) rfl⟩, hS.F ht⟩) hS.2.2 dX12_lacking_147
  ·
    have i_12 : k4_3.toInt < (v_ro 8).toInt := g5_geN (a := k4_3.toInt) (b := (v_ro 8).toInt) rfl rfl c_12
    refine lv_sipush (v := 300) hx hb dX12_lacking_15 (by decide +kernel) ?_
    refine lv_bipush (v := 6) hx hb dX12_lacking_18 (by decide +kernel) ?_
    refine lv_iload_n hx hb dX12_lacking_20 rfl (lv_at hl 1 rfl) ?_
    refine lv_imul hx hb dX12_lacking_21 ?_
    have t_13 : (6 * k4_3).toInt = 6 * k4_3.toInt := g5_imul (a := 6) (b := k4_3.toInt) (by decide +kernel) (by rfl) (by omega) (by omega)
    refine lv_iadd hx hb dX12_lacking_22 ?_
    have t_14 : (300 + (6 * k4_3)).toInt = 300 + (6 * k4_3).toInt := g5_iadd (a := 300) (b := (6 * k4_3).toInt) (by decide +kernel) (by rfl) (by omega) (by omega)
    refine lv_istore (lv' := [(4, .int (300 + (6 * k4_3))), (2, .int k4_2), (3, .int k4_3), (0, .ref b_o), (1, .int p_1)]) hx hb dX12_lacking_23 hl (by decide +kernel) rfl ?_
    clear hl
    intro ls hl
    refine lv_aload_n hx hb dX12_lacking_25 rfl (lv_at hl 3 rfl) ?_
    refine lv_aload_n hx hb dX12_lacking_26 rfl (lv_at hl 3 rfl) ?_
    refine va_get (D := G.1) (ci := 12) (v := .ref b_ro) (C := RX12) (T := TX12) (N := 52) hx hb hts inG_X12 hown hK hP 0 rfl rfl 3 (by decide +kernel) (hts _ fl_X12_13) (fun _ h9 => h9) rfl dX12_lacking_27 ?_
    refine lv_iload hx hb dX12_lacking_30 (lv_at hl 0 rfl) ?_
    refine va_iald hx hb hK hP 1 0 rfl rfl (i := (300 + (6 * k4_3))) (vp_in_iff.mpr ⟨by omega, by omega⟩) dX12_lacking_32 ?_
    have hv_15 : 0 ≤ (v_ro (300 + (6 * k4_3)).toNatClampNeg).toInt ∧ (v_ro (300 + (6 * k4_3)).toNatClampNeg).toInt ≤ 63 := mi_300_0 r_ro (by have zz := g5_clamp (300 + (6 * k4_3)); omega) (by have zz := g5_clamp (300 + (6 * k4_3)); omega) (by have zz := g5_clamp (300 + (6 * k4_3)); omega)
    refine lv_aload_n hx hb dX12_lacking_33 rfl (lv_at hl 3 rfl) ?_
    refine va_get (D := G.1) (ci := 12) (v := .ref b_ro) (C := RX12) (T := TX12) (N := 52) hx hb hts inG_X12 hown hK hP 0 rfl rfl 3 (by decide +kernel) (hts _ fl_X12_13) (fun _ h9 => h9) rfl dX12_lacking_34 ?_
    refine lv_iload hx hb dX12_lacking_37 (lv_at hl 0 rfl) ?_
    refine lv_iconst (v := 1) hx hb dX12_lacking_39 (by decide +kernel) ?_
    refine lv_iadd hx hb dX12_lacking_40 ?_
    have t_16 : ((300 + (6 * k4_3)) + 1).toInt = (300 + (6 * k4_3)).toInt + 1 := g5_iadd (a := (300 + (6 * k4_3)).toInt) (b := 1) (by rfl) (by decide +kernel) (by omega) (by omega)
    refine va_iald hx hb hK hP 1 0 rfl rfl (i := ((300 + (6 * k4_3)) + 1)) (vp_in_iff.mpr ⟨by omega, by omega⟩) dX12_lacking_41 ?_
    have hv_17 : 0 ≤ (v_ro ((300 + (6 * k4_3)) + 1).toNatClampNeg).toInt ∧ (v_ro ((300 + (6 * k4_3)) + 1).toNatClampNeg).toInt ≤ 3 := mi_300_1 r_ro (by have zz := g5_clamp ((300 + (6 * k4_3)) + 1); omega) (by have zz := g5_clamp ((300 + (6 * k4_3)) + 1); omega) (by have zz := g5_clamp ((300 + (6 * k4_3)) + 1); omega)
    refine lv_aload_n hx hb dX12_lacking_42 rfl (lv_at hl 3 rfl) ?_
    refine va_get (D := G.1) (ci := 12) (v := .ref b_ro) (C := RX12) (T := TX12) (N := 52) hx hb hts inG_X12 hown hK hP 0 rfl rfl 3 (by decide +kernel) (hts _ fl_X12_13) (fun _ h9 => h9) rfl dX12_lacking_43 ?_
    refine lv_iload hx hb dX12_lacking_46 (lv_at hl 0 rfl) ?_
    refine lv_iconst (v := 2) hx hb dX12_lacking_48 (by decide +kernel) ?_
    refine lv_iadd hx hb dX12_lacking_49 ?_
    have t_18 : ((300 + (6 * k4_3)) + 2).toInt = (300 + (6 * k4_3)).toInt + 2 := g5_iadd (a := (300 + (6 * k4_3)).toInt) (b := 2) (by rfl) (by decide +kernel) (by omega) (by omega)
    refine va_iald hx hb hK hP 1 0 rfl rfl (i := ((300 + (6 * k4_3)) + 2)) (vp_in_iff.mpr ⟨by omega, by omega⟩) dX12_lacking_50 ?_
    have hv_19 : 0 ≤ (v_ro ((300 + (6 * k4_3)) + 2).toNatClampNeg).toInt ∧ (v_ro ((300 + (6 * k4_3)) + 2).toNatClampNeg).toInt ≤ 23 := mi_300_2 r_ro (by have zz := g5_clamp ((300 + (6 * k4_3)) + 2); omega) (by have zz := g5_clamp ((300 + (6 * k4_3)) + 2); omega) (by have zz := g5_clamp ((300 + (6 * k4_3)) + 2); omega)
    refine lv_iload_n hx hb dX12_lacking_51 rfl (lv_at hl 4 rfl) ?_
    obtain ⟨hPc, hDc, hFc⟩ := g5_sub3 (wc := [(b_o, (oc12 u_th u_sa b_rf b_ro b_im b_ke u_fd b_tp u_td u_fr u_to u_so u_wo u_fa u_bd u_nc b_nl u_co b_op b_ar u_le b_pi b_pa u_pd u_od b_ws b_hw k4_la b_se b_re k4_bk k4_va k4_su k4_ce k4_ho k4_wy k4_bt k4_ps b_pt k4_tg k4_sn b_ip u_ic b_ah b_be b_me u_wd b_tr b_ld u_st b_wn u_id)), (b_ro, (arI G 5740 v_ro)), (b_se, (arJ G 13 k4_se)), (b_re, (arJ G 400 k4_re)), (b_pt, (arI G 200 k4_pt))]) hP hD hS hA [0, 1, 2, 3, 4] (by decide +kernel) rfl
    refine va_callv (va_runV (As := [.int (v_ro (300 + (6 * k4_3)).toNatClampNeg), .int (v_ro ((300 + (6 * k4_3)) + 1).toNatClampNeg), .int (v_ro ((300 + (6 * k4_3)) + 2).toNatClampNeg), .int p_1]) (rest := []) ⟨hx, hb, hml, hown, hts⟩ (n_go l G b_o b_ro b_se b_re b_pt b_rf b_im b_ke b_tp b_nl b_op b_ar b_pi b_pa b_ws b_hw b_ip b_ah b_be b_me b_tr b_ld b_wn H.size u_th u_sa u_fd u_td u_fr u_to u_so u_fa u_bd u_nc u_co u_le u_pd u_od k4_la k4_bk k4_ce k4_ho k4_wy k4_bt k4_ps k4_tg k4_sn u_ic u_wd u_id (v_ro (300 + (6 * k4_3)).toNatClampNeg) (v_ro ((300 + (6 * k4_3)) + 1).toNatClampNeg) (v_ro ((300 + (6 * k4_3)) + 2).toNatClampNeg) p_1 u_wo k4_va k4_su u_st v_ro k4_se k4_re k4_pt h_u_td h_u_fr h_u_to h_u_bd h_u_nc h_u_co h_u_pd i_2 i_3 i_4 i_5 i_6 i_7 i_8 h_u_ic h_u_id ⟨by omega, by omega⟩ ⟨by omega, by omega⟩ ⟨by omega, by omega⟩ (r_ro) (i_9)) (cwV 4 hts gV_X12_401 rfl rfl rfl hv_X12_go ⟨Nat.le_of_ble_eq_true rfl, Nat.le_of_ble_eq_true rfl⟩) (g5_preV hPc hK hDc hN hT hS hFc (ci := 12) (q0 := 0) rfl rfl) rfl rfl hl.1 rfl (lv_room (Nat.le_of_ble_eq_true rfl)) dX12_lacking_52 ⟨Nat.le_of_ble_eq_true rfl, Nat.le_of_ble_eq_true rfl⟩) hS (fun q _ h => hFc q h) hFc (fun u t H locs ht hvm hw hB hz1 hk1 hS => ?_)
    obtain ⟨hP1, hD1⟩ := hB
    have hP1 := g5_ht ht hP1
    obtain ⟨z28, z29, z30, z31, z32, z33, z34, z35, z36, z37, z38, z39, z40, z41, (i_20 : 0 ≤ z28.toInt ∧ z28.toInt ≤ 4840), (i_21 : 0 ≤ z29.toInt ∧ z29.toInt ≤ 1), (i_22 : 0 ≤ z32.toInt ∧ z32.toInt ≤ 63), (i_23 : 0 ≤ z33.toInt ∧ z33.toInt ≤ 23), (i_24 : 0 ≤ z34.toInt ∧ z34.toInt ≤ 3), (i_25 : 0 ≤ z35.toInt ∧ z35.toInt ≤ 1000000), (i_26 : 0 ≤ z36.toInt ∧ z36.toInt ≤ 200), (i_27 : PTI z41), rfl⟩ := hw
    have hJ9 := va_join (wr := []) hP hD [0, 1, 2, 3, 4] [] rfl rfl (by decide +kernel) (by decide +kernel) hk1 hFc hP1 hD1
    clear hP hD hPc hDc hFc ht hvm hz1 hk1 hP1 hD1
    obtain ⟨hP, hD⟩ := hJ9
    refine g5_rs [(b_o, (oc12 u_th u_sa b_rf b_ro b_im b_ke u_fd b_tp u_td u_fr u_to u_so u_wo u_fa u_bd u_nc b_nl u_co b_op b_ar u_le b_pi b_pa u_pd u_od b_ws b_hw z28 b_se b_re z29 z30 z31 z32 z33 z34 z35 z36 b_pt z37 z38 b_ip u_ic b_ah b_be b_me u_wd b_tr b_ld u_st b_wn u_id)), (b_ro, (arI G 5740 v_ro)), (b_se, (arJ G 13 z39)), (b_re, (arJ G 400 z40)), (b_pt, (arI G 200 z41))] hP hD ?_
    clear hP hD
    intro hP hD
    refine lv_iconst (v := 0) hx hb dX12_lacking_55 (by decide +kernel) ?_
    refine lv_istore (lv' := [(5, .int 0), (4, .int (300 + (6 * k4_3))), (2, .int k4_2), (3, .int k4_3), (0, .ref b_o), (1, .int p_1)]) hx hb dX12_lacking_56 hl (by decide +kernel) rfl ?_
    clear hl
    intro ls hl
    refine lv_iconst (v := 0) hx hb dX12_lacking_58 (by decide +kernel) ?_
    refine lv_istore (lv' := [(6, .int 0), (5, .int 0), (4, .int (300 + (6 * k4_3))), (2, .int k4_2), (3, .int k4_3), (0, .ref b_o), (1, .int p_1)]) hx hb dX12_lacking_59 hl (by decide +kernel) rfl ?_
    clear hl
    intro ls hl
    refine g5_loop (α := (Int32) × (Int32)) (fun (q : (Int32) × (Int32)) (ls : Array Slot) (H : Heap) (locs : List Loc) => match q with | (k61_6, k61_5) => lv_has ls 7 [(5, .int k61_5), (6, .int k61_6), (4, .int (300 + (6 * k4_3))), (2, .int k4_2), (3, .int k4_3), (0, .ref b_o), (1, .int p_1)] ∧ va_P G.1 vwCl [(b_o, (oc12 u_th u_sa b_rf b_ro b_im b_ke u_fd b_tp u_td u_fr u_to u_so u_wo u_fa u_bd u_nc b_nl u_co b_op b_ar u_le b_pi b_pa u_pd u_od b_ws b_hw z28 b_se b_re z29 z30 z31 z32 z33 z34 z35 z36 b_pt z37 z38 b_ip u_ic b_ah b_be b_me u_wd b_tr b_ld u_st b_wn u_id)), (b_ro, (arI G 5740 v_ro)), (b_se, (arJ G 13 z39)), (b_re, (arJ G 400 z40)), (b_pt, (arI G 200 z41))] H ∧ va_D A [(b_o, (oc12 u_th u_sa b_rf b_ro b_im b_ke u_fd b_tp u_td u_fr u_to u_so u_wo u_fa u_bd u_nc b_nl u_co b_op b_ar u_le b_pi b_pa u_pd u_od b_ws b_hw z28 b_se b_re z29 z30 z31 z32 z33 z34 z35 z36 b_pt z37 z38 b_ip u_ic b_ah b_be b_me u_wd b_tr b_ld u_st b_wn u_id)), (b_ro, (arI G 5740 v_ro)), (b_se, (arJ G 13 z39)), (b_re, (arJ G 400 z40)), (b_pt, (arI G 200 z41))] ∧ va_S A s.heap H locs ∧ (0 ≤ k61_6.toInt ∧ k61_6.toInt ≤ 200)) (fun (q : (Int32) × (Int32)) => match q with | (k61_6, k61_5) => Int.toNat (200 - k61_6.toInt)) (0, 0) ⟨lv_sub hl [1, 0, 2, 3, 4, 5, 6] rfl, hP, hD, hS, ⟨by decide, by decide⟩⟩ ?_
    rintro ⟨k61_6, k61_5⟩ ls H locs ⟨hl, hP, hD, hS, (i_42 : 0 ≤ k61_6.toInt ∧ k61_6.toInt ≤ 200)⟩ ih_61_43
    replace hl : lv_has ls 7 [(5, .int k61_5), (6, .int k61_6), (4, .int (300 + (6 * k4_3))), (2, .int k4_2), (3, .int k4_3), (0, .ref b_o), (1, .int p_1)] := hl
    refine g5_rs [(b_o, (oc12 u_th u_sa b_rf b_ro b_im b_ke u_fd b_tp u_td u_fr u_to u_so u_wo u_fa u_bd u_nc b_nl u_co b_op b_ar u_le b_pi b_pa u_pd u_od b_ws b_hw z28 b_se b_re z29 z30 z31 z32 z33 z34 z35 z36 b_pt z37 z38 b_ip u_ic b_ah b_be b_me u_wd b_tr b_ld u_st b_wn u_id)), (b_ro, (arI G 5740 v_ro)), (b_se, (arJ G 13 z39)), (b_re, (arJ G 400 z40)), (b_pt, (arI G 200 z41))] hP hD ?_
    clear hP hD
    intro hP hD
    refine lv_iload hx hb dX12_lacking_61 (lv_at hl 1 rfl) ?_
    refine lv_aload_n hx hb dX12_lacking_63 rfl (lv_at hl 5 rfl) ?_
    refine va_get (D := G.1) (ci := 12) (v := .int z36) (C := RX12) (T := TX12) (N := 52) hx hb hts inG_X12 hown hK hP 0 rfl rfl 37 (by decide +kernel) (hts _ fl_X12_358) (fun _ h9 => h9) rfl dX12_lacking_64 ?_
    refine lv_icmp_ge (tgt := 116) hx hb dX12_lacking_67 (by decide +kernel) (fun c_44 => ?_) (fun c_44 => ?_)
    ·
      have i_44 : k61_6.toInt ≥ z36.toInt := g5_ge (a := k61_6.toInt) (b := z36.toInt) rfl rfl c_44
      refine lv_iload_n hx hb dX12_lacking_116 rfl (lv_at hl 3 rfl) ?_
      refine lv_iload hx hb dX12_lacking_117 (lv_at hl 0 rfl) ?_
      refine lv_aload_n hx hb dX12_lacking_119 rfl (lv_at hl 5 rfl) ?_
      refine va_get (D := G.1) (ci := 12) (v := .ref b_ro) (C := RX12) (T := TX12) (N := 52) hx hb hts inG_X12 hown hK hP 0 rfl rfl 3 (by decide +kernel) (hts _ fl_X12_13) (fun _ h9 => h9) rfl dX12_lacking_120 ?_
      refine lv_iload hx hb dX12_lacking_123 (lv_at hl 2 rfl) ?_
      refine lv_iconst (v := 5) hx hb dX12_lacking_125 (by decide +kernel) ?_
      refine lv_iadd hx hb dX12_lacking_126 ?_
      have t_45 : ((300 + (6 * k4_3)) + 5).toInt = (300 + (6 * k4_3)).toInt + 5 := g5_iadd (a := (300 + (6 * k4_3)).toInt) (b := 5) (by rfl) (by decide +kernel) (by omega) (by omega)
      refine va_iald hx hb hK hP 1 0 rfl rfl (i := ((300 + (6 * k4_3)) + 5)) (vp_in_iff.mpr ⟨by omega, by omega⟩) dX12_lacking_127 ?_
      refine lv_icmp_eq (tgt := 137) hx hb dX12_lacking_128 (by decide +kernel) (fun c_46 => ?_) (fun c_46 => ?_)
      ·
        have i_46 : k61_5.toInt = (v_ro ((300 + (6 * k4_3)) + 5).toNatClampNeg).toInt := g5_eq (a := k61_5.toInt) (b := (v_ro ((300 + (6 * k4_3)) + 5).toNatClampNeg).toInt) rfl rfl c_46
        refine lv_iconst (v := 0) hx hb dX12_lacking_137 (by decide +kernel) ?_
        refine lv_ior hx hb dX12_lacking_138 ?_
        refine g5_ti (v := k4_2) (by simp) ?_
        refine lv_istore_n (lv' := [(2, .int k4_2), (5, .int k61_5), (6, .int k61_6), (4, .int (300 + (6 * k4_3))), (3, .int k4_3), (0, .ref b_o), (1, .int p_1)]) hx hb dX12_lacking_139 rfl hl (by decide +kernel) rfl ?_
        clear hl
        intro ls hl
        refine lv_iinc (v := (k4_3 + 1)) (lv' := [(3, .int (k4_3 + 1)), (2, .int k4_2), (5, .int k61_5), (6, .int k61_6), (4, .int (300 + (6 * k4_3))), (0, .ref b_o), (1, .int p_1)]) hx hb dX12_lacking_140 hl (k := 4) rfl rfl (by decide +kernel) rfl ?_
        clear hl
        intro ls hl
        have t_47 : (k4_3 + 1).toInt = k4_3.toInt + 1 := g5_iadd (a := k4_3.toInt) (b := 1) rfl (by decide +kernel) (by omega) (by omega)
        refine lv_goto (tgt := 4) hx hb dX12_lacking_143 (by decide +kernel) ?_
        exact ih_4_10 ((k4_3 + 1), k4_2, z28, z29, z30, z31, z32, z33, z34, z35, z36, z37, z38, z39, z40, z41) ls H locs (show Int.toNat (6 - (k4_3 + 1).toInt) < Int.toNat (6 - k4_3.toInt) from g_up (show k4_3.toInt < (k4_3 + 1).toInt by omega) (show k4_3.toInt < 6 by omega)) ⟨lv_sub hl [1, 0, 5, 6] rfl, hP, hD, hS, ⟨by omega, by omega⟩, i_20, i_21, i_22, i_23, i_24, i_25, i_26, i_27⟩
      ·
        have n_46 : gNe (k61_5.toInt) ((v_ro ((300 + (6 * k4_3)) + 5).toNatClampNeg).toInt) := g5_eqN (a := k61_5.toInt) (b := (v_ro ((300 + (6 * k4_3)) + 5).toNatClampNeg).toInt) rfl rfl c_46
        refine lv_iconst (v := 1) hx hb dX12_lacking_131 (by decide +kernel) ?_
        refine lv_iload_n hx hb dX12_lacking_132 rfl (lv_at hl 4 rfl) ?_
        refine lv_ishl hx hb dX12_lacking_133 ?_
        refine lv_goto (tgt := 138) hx hb dX12_lacking_134 (by decide +kernel) ?_
        refine lv_ior hx hb dX12_lacking_138 ?_
        refine lv_istore_n (lv' := [(2, .int (k4_2 ||| (1 <<< (k4_3 &&& 31)))), (5, .int k61_5), (6, .int k61_6), (4, .int (300 + (6 * k4_3))), (3, .int k4_3), (0, .ref b_o), (1, .int p_1)]) hx hb dX12_lacking_139 rfl hl (by decide +kernel) rfl ?_
        clear hl
        intro ls hl
        refine lv_iinc (v := (k4_3 + 1)) (lv' := [(3, .int (k4_3 + 1)), (2, .int (k4_2 ||| (1 <<< (k4_3 &&& 31)))), (5, .int k61_5), (6, .int k61_6), (4, .int (300 + (6 * k4_3))), (0, .ref b_o), (1, .int p_1)]) hx hb dX12_lacking_140 hl (k := 4) rfl rfl (by decide +kernel) rfl ?_
        clear hl
        intro ls hl
        have t_48 : (k4_3 + 1).toInt = k4_3.toInt + 1 := g5_iadd (a := k4_3.toInt) (b := 1) rfl (by decide +kernel) (by omega) (by omega)
        refine lv_goto (tgt := 4) hx hb dX12_lacking_143 (by decide +kernel) ?_
        exact ih_4_10 ((k4_3 + 1), (k4_2 ||| (1 <<< (k4_3 &&& 31))), z28, z29, z30, z31, z32, z33, z34, z35, z36, z37, z38, z39, z40, z41) ls H locs (show Int.toNat (6 - (k4_3 + 1).toInt) < Int.toNat (6 - k4_3.toInt) from g_up (show k4_3.toInt < (k4_3 + 1).toInt by omega) (show k4_3.toInt < 6 by omega)) ⟨lv_sub hl [1, 0, 5, 6] rfl, hP, hD, hS, ⟨by omega, by omega⟩, i_20, i_21, i_22, i_23, i_24, i_25, i_26, i_27⟩
    ·
      have i_44 : k61_6.toInt < z36.toInt := g5_geN (a := k61_6.toInt) (b := z36.toInt) rfl rfl c_44
      refine lv_aload_n hx hb dX12_lacking_70 rfl (lv_at hl 5 rfl) ?_
      refine va_get (D := G.1) (ci := 12) (v := .ref b_pt) (C := RX12) (T := TX12) (N := 52) hx hb hts inG_X12 hown hK hP 0 rfl rfl 38 (by decide +kernel) (hts _ fl_X12_82) (fun _ h9 => h9) rfl dX12_lacking_71 ?_
      refine lv_iload hx hb dX12_lacking_74 (lv_at hl 1 rfl) ?_
      refine va_iald hx hb hK hP 4 0 rfl rfl (i := k61_6) (vp_in_iff.mpr ⟨by omega, by omega⟩) dX12_lacking_76 ?_
      have hr_49 : 0 ≤ (z41 k61_6.toNatClampNeg).toInt ∧ (z41 k61_6.toNatClampNeg).toInt ≤ 1535 := i_27 (k61_6.toNatClampNeg)
      refine lv_bipush (v := 64) hx hb dX12_lacking_77 (by decide +kernel) ?_
      refine lv_aload_n hx hb dX12_lacking_79 rfl (lv_at hl 5 rfl) ?_
      refine va_get (D := G.1) (ci := 12) (v := .ref b_ro) (C := RX12) (T := TX12) (N := 52) hx hb hts inG_X12 hown hK hP 0 rfl rfl 3 (by decide +kernel) (hts _ fl_X12_13) (fun _ h9 => h9) rfl dX12_lacking_80 ?_
      refine lv_iload hx hb dX12_lacking_83 (lv_at hl 2 rfl) ?_
      refine lv_iconst (v := 4) hx hb dX12_lacking_85 (by decide +kernel) ?_
      refine lv_iadd hx hb dX12_lacking_86 ?_
      have t_50 : ((300 + (6 * k4_3)) + 4).toInt = (300 + (6 * k4_3)).toInt + 4 := g5_iadd (a := (300 + (6 * k4_3)).toInt) (b := 4) (by rfl) (by decide +kernel) (by omega) (by omega)
      refine va_iald hx hb hK hP 1 0 rfl rfl (i := ((300 + (6 * k4_3)) + 4)) (vp_in_iff.mpr ⟨by omega, by omega⟩) dX12_lacking_87 ?_
      refine lv_imul hx hb dX12_lacking_88 ?_
      refine lv_aload_n hx hb dX12_lacking_89 rfl (lv_at hl 5 rfl) ?_
      refine va_get (D := G.1) (ci := 12) (v := .ref b_ro) (C := RX12) (T := TX12) (N := 52) hx hb hts inG_X12 hown hK hP 0 rfl rfl 3 (by decide +kernel) (hts _ fl_X12_13) (fun _ h9 => h9) rfl dX12_lacking_90 ?_
      refine lv_iload hx hb dX12_lacking_93 (lv_at hl 2 rfl) ?_
      refine lv_iconst (v := 3) hx hb dX12_lacking_95 (by decide +kernel) ?_
      refine lv_iadd hx hb dX12_lacking_96 ?_
      have t_51 : ((300 + (6 * k4_3)) + 3).toInt = (300 + (6 * k4_3)).toInt + 3 := g5_iadd (a := (300 + (6 * k4_3)).toInt) (b := 3) (by rfl) (by decide +kernel) (by omega) (by omega)
      refine va_iald hx hb hK hP 1 0 rfl rfl (i := ((300 + (6 * k4_3)) + 3)) (vp_in_iff.mpr ⟨by omega, by omega⟩) dX12_lacking_97 ?_
      refine lv_iadd hx hb dX12_lacking_98 ?_
      refine lv_icmp_ne (tgt := 106) hx hb dX12_lacking_99 (by decide +kernel) (fun c_52 => ?_) (fun c_52 => ?_)
      ·
        have n_52 : gNe ((z41 k61_6.toNatClampNeg).toInt) (((64 * (v_ro ((300 + (6 * k4_3)) + 4).toNatClampNeg)) + (v_ro ((300 + (6 * k4_3)) + 3).toNatClampNeg)).toInt) := g5_ne (a := (z41 k61_6.toNatClampNeg).toInt) (b := ((64 * (v_ro ((300 + (6 * k4_3)) + 4).toNatClampNeg)) + (v_ro ((300 + (6 * k4_3)) + 3).toNatClampNeg)).toInt) rfl rfl c_52
        refine lv_iload hx hb dX12_lacking_106 (lv_at hl 0 rfl) ?_
        refine lv_istore (lv' := [(5, .int k61_5), (6, .int k61_6), (4, .int (300 + (6 * k4_3))), (2, .int k4_2), (3, .int k4_3), (0, .ref b_o), (1, .int p_1)]) hx hb dX12_lacking_108 hl (by decide +kernel) rfl ?_
        clear hl
        intro ls hl
        refine lv_iinc (v := (k61_6 + 1)) (lv' := [(6, .int (k61_6 + 1)), (5, .int k61_5), (4, .int (300 + (6 * k4_3))), (2, .int k4_2), (3, .int k4_3), (0, .ref b_o), (1, .int p_1)]) hx hb dX12_lacking_110 hl (k := 1) rfl rfl (by decide +kernel) rfl ?_
        clear hl
        intro ls hl
        have t_53 : (k61_6 + 1).toInt = k61_6.toInt + 1 := g5_iadd (a := k61_6.toInt) (b := 1) rfl (by decide +kernel) (by omega) (by omega)
        refine lv_goto (tgt := 61) hx hb dX12_lacking_113 (by decide +kernel) ?_
        exact ih_61_43 ((k61_6 + 1), k61_5) ls H locs (show Int.toNat (200 - (k61_6 + 1).toInt) < Int.toNat (200 - k61_6.toInt) from g_up (show k61_6.toInt < (k61_6 + 1).toInt by omega) (show k61_6.toInt < 200 by omega)) ⟨lv_sub hl [1, 0, 2, 3, 4, 5, 6] rfl, hP, hD, hS, ⟨by omega, by omega⟩⟩
      ·
        have i_52 : (z41 k61_6.toNatClampNeg).toInt = ((64 * (v_ro ((300 + (6 * k4_3)) + 4).toNatClampNeg)) + (v_ro ((300 + (6 * k4_3)) + 3).toNatClampNeg)).toInt := g5_neN (a := (z41 k61_6.toNatClampNeg).toInt) (b := ((64 * (v_ro ((300 + (6 * k4_3)) + 4).toNatClampNeg)) + (v_ro ((300 + (6 * k4_3)) + 3).toNatClampNeg)).toInt) rfl rfl c_52
        refine lv_iconst (v := 1) hx hb dX12_lacking_102 (by decide +kernel) ?_
        refine lv_goto (tgt := 108) hx hb dX12_lacking_103 (by decide +kernel) ?_
        refine lv_istore (lv' := [(5, .int 1), (6, .int k61_6), (4, .int (300 + (6 * k4_3))), (2, .int k4_2), (3, .int k4_3), (0, .ref b_o), (1, .int p_1)]) hx hb dX12_lacking_108 hl (by decide +kernel) rfl ?_
        clear hl
        intro ls hl
        refine lv_iinc (v := (k61_6 + 1)) (lv' := [(6, .int (k61_6 + 1)), (5, .int 1), (4, .int (300 + (6 * k4_3))), (2, .int k4_2), (3, .int k4_3), (0, .ref b_o), (1, .int p_1)]) hx hb dX12_lacking_110 hl (k := 1) rfl rfl (by decide +kernel) rfl ?_
        clear hl
        intro ls hl
        have t_54 : (k61_6 + 1).toInt = k61_6.toInt + 1 := g5_iadd (a := k61_6.toInt) (b := 1) rfl (by decide +kernel) (by omega) (by omega)
        refine lv_goto (tgt := 61) hx hb dX12_lacking_113 (by decide +kernel) ?_
        exact ih_61_43 ((k61_6 + 1), 1) ls H locs (show Int.toNat (200 - (k61_6 + 1).toInt) < Int.toNat (200 - k61_6.toInt) from g_up (show k61_6.toInt < (k61_6 + 1).toInt by omega) (show k61_6.toInt < 200 by omega)) ⟨lv_sub hl [1, 0, 2, 3, 4, 5, 6] rfl, hP, hD, hS, ⟨by omega, by omega⟩⟩
theorem dgX12_areSpots_0 : ∀ r ∈ ([(0, (.iload_n 1, 1)), (1, (.i2l, 1)), (2, (.lconst 0, 1)), (3, (.iconst 1, 1)), (4, (.aload_n 0, 1)), (5, (.getfield 13, 3)), (8, (.bipush 7, 2)), (10, (.iaload, 1)), (11, (.ishl, 1)), (12, (.i2l, 1)), (13, (.lconst 1, 1)), (14, (.lsub, 1)), (15, (.invokestatic 121, 3)), (18, (.ireturn, 1))] : List (Nat × (Instr × Nat))), decode cX12_areSpots r.1 = .ok r.2 := by decide +kernel
theorem dX12_areSpots_0 : decode cX12_areSpots 0 = .ok (.iload_n 1, 1) := dgX12_areSpots_0 (0, (.iload_n 1, 1)) (List.mem_of_getElem? (i := 0) rfl)
theorem dX12_areSpots_1 : decode cX12_areSpots 1 = .ok (.i2l, 1) := dgX12_areSpots_0 (1, (.i2l, 1)) (List.mem_of_getElem? (i := 1) rfl)
theorem dX12_areSpots_2 : decode cX12_areSpots 2 = .ok (.lconst 0, 1) := dgX12_areSpots_0 (2, (.lconst 0, 1)) (List.mem_of_getElem? (i := 2) rfl)
theorem dX12_areSpots_3 : decode cX12_areSpots 3 = .ok (.iconst 1, 1) := dgX12_areSpots_0 (3, (.iconst 1, 1)) (List.mem_of_getElem? (i := 3) rfl)
theorem dX12_areSpots_4 : decode cX12_areSpots 4 = .ok (.aload_n 0, 1) := dgX12_areSpots_0 (4, (.aload_n 0, 1)) (List.mem_of_getElem? (i := 4) rfl)
theorem dX12_areSpots_5 : decode cX12_areSpots 5 = .ok (.getfield 13, 3) := dgX12_areSpots_0 (5, (.getfield 13, 3)) (List.mem_of_getElem? (i := 5) rfl)
theorem dX12_areSpots_8 : decode cX12_areSpots 8 = .ok (.bipush 7, 2) := dgX12_areSpots_0 (8, (.bipush 7, 2)) (List.mem_of_getElem? (i := 6) rfl)
theorem dX12_areSpots_10 : decode cX12_areSpots 10 = .ok (.iaload, 1) := dgX12_areSpots_0 (10, (.iaload, 1)) (List.mem_of_getElem? (i := 7) rfl)
theorem dX12_areSpots_11 : decode cX12_areSpots 11 = .ok (.ishl, 1) := dgX12_areSpots_0 (11, (.ishl, 1)) (List.mem_of_getElem? (i := 8) rfl)
theorem dX12_areSpots_12 : decode cX12_areSpots 12 = .ok (.i2l, 1) := dgX12_areSpots_0 (12, (.i2l, 1)) (List.mem_of_getElem? (i := 9) rfl)
theorem dX12_areSpots_13 : decode cX12_areSpots 13 = .ok (.lconst 1, 1) := dgX12_areSpots_0 (13, (.lconst 1, 1)) (List.mem_of_getElem? (i := 10) rfl)
theorem dX12_areSpots_14 : decode cX12_areSpots 14 = .ok (.lsub, 1) := dgX12_areSpots_0 (14, (.lsub, 1)) (List.mem_of_getElem? (i := 11) rfl)
theorem dX12_areSpots_15 : decode cX12_areSpots 15 = .ok (.invokestatic 121, 3) := dgX12_areSpots_0 (15, (.invokestatic 121, 3)) (List.mem_of_getElem? (i := 12) rfl)
theorem dX12_areSpots_18 : decode cX12_areSpots 18 = .ok (.ireturn, 1) := dgX12_areSpots_0 (18, (.ireturn, 1)) (List.mem_of_getElem? (i := 13) rfl)
set_option maxHeartbeats 4000000 in
set_option maxRecDepth 100000 in
theorem n_areSpots (l : Launch) (G : g5_G) (b_o b_ro b_rf b_im b_ke b_tp b_nl b_op b_ar b_pi b_pa b_ws b_hw b_se b_re b_pt b_ip b_ah b_be b_me b_tr b_ld b_wn : Nat) (sz : Nat) (u_th : Int32) (u_sa : Int32) (u_fd : Int32) (u_td : Int32) (u_fr : Int32) (u_to : Int32) (u_so : Int32) (u_fa : Int32) (u_bd : Int32) (u_nc : Int32) (u_co : Int32) (u_le : Int32) (u_pd : Int32) (u_od : Int32) (u_la : Int32) (u_bk : Int32) (u_ce : Int32) (u_ho : Int32) (u_wy : Int32) (u_bt : Int32) (u_ps : Int32) (u_tg : Int32) (u_sn : Int32) (u_ic : Int32) (u_wd : Int32) (u_id : Int32) (p_1 : Int32) (u_wo : Int64) (u_va : Int64) (u_su : Int64) (u_st : Int64) (v_ro : Nat → Int32) (h_u_td : 0 ≤ u_td.toInt ∧ u_td.toInt ≤ 400) (h_u_fr : 0 ≤ u_fr.toInt ∧ u_fr.toInt ≤ 400) (h_u_to : 0 ≤ u_to.toInt ∧ u_to.toInt ≤ 400) (h_u_bd : 0 ≤ u_bd.toInt ∧ u_bd.toInt ≤ 1) (h_u_nc : 0 ≤ u_nc.toInt ∧ u_nc.toInt ≤ 12) (h_u_co : 0 ≤ u_co.toInt ∧ u_co.toInt ≤ 400) (h_u_pd : 0 ≤ u_pd.toInt ∧ u_pd.toInt ≤ 400) (h_u_la : 0 ≤ u_la.toInt ∧ u_la.toInt ≤ 4840) (h_u_bk : 0 ≤ u_bk.toInt ∧ u_bk.toInt ≤ 1) (h_u_ce : 0 ≤ u_ce.toInt ∧ u_ce.toInt ≤ 63) (h_u_ho : 0 ≤ u_ho.toInt ∧ u_ho.toInt ≤ 23) (h_u_wy : 0 ≤ u_wy.toInt ∧ u_wy.toInt ≤ 3) (h_u_bt : 0 ≤ u_bt.toInt ∧ u_bt.toInt ≤ 1000000) (h_u_ps : 0 ≤ u_ps.toInt ∧ u_ps.toInt ≤ 200) (h_u_ic : 0 ≤ u_ic.toInt ∧ u_ic.toInt ≤ 1) (h_u_id : 0 ≤ u_id.toInt ∧ u_id.toInt ≤ 1) (r_ro : MI v_ro) : Met l yX12_areSpots (wsG yX12_areSpots cX12_areSpots 2 (some .boolean)) ({ frames := 1, cells := 0, slots := 0, locals := 25 }) (va_Pc [.ref b_o, .int p_1] (g5_P G [(b_o, (oc12 u_th u_sa b_rf b_ro b_im b_ke u_fd b_tp u_td u_fr u_to u_so u_wo u_fa u_bd u_nc b_nl u_co b_op b_ar u_le b_pi b_pa u_pd u_od b_ws b_hw u_la b_se b_re u_bk u_va u_su u_ce u_ho u_wy u_bt u_ps b_pt u_tg u_sn b_ip u_ic b_ah b_be b_me u_wd b_tr b_ld u_st b_wn u_id)), (b_ro, (arI G 5740 v_ro))] sz)) (va_Qi (fun (r : Int32) (u : va_W) => (∃ (o_r : Int32), (0 ≤ o_r.toInt ∧ o_r.toInt ≤ 1) ∧ (r = o_r) ∧ (u = [(b_o, (oc12 u_th u_sa b_rf b_ro b_im b_ke u_fd b_tp u_td u_fr u_to u_so u_wo u_fa u_bd u_nc b_nl u_co b_op b_ar u_le b_pi b_pa u_pd u_od b_ws b_hw u_la b_se b_re u_bk u_va u_su u_ce u_ho u_wy u_bt u_ps b_pt u_tg u_sn b_ip u_ic b_ah b_be b_me u_wd b_tr b_ld u_st b_wn u_id)), (b_ro, (arI G 5740 v_ro))]))) (g5_B G (va_A [(b_o, (oc12 u_th u_sa b_rf b_ro b_im b_ke u_fd b_tp u_td u_fr u_to u_so u_wo u_fa u_bd u_nc b_nl u_co b_op b_ar u_le b_pi b_pa u_pd u_od b_ws b_hw u_la b_se b_re u_bk u_va u_su u_ce u_ho u_wy u_bt u_ps b_pt u_tg u_sn b_ip u_ic b_ah b_be b_me u_wd b_tr b_ld u_st b_wn u_id)), (b_ro, (arI G 5740 v_ro))] sz)) (va_A [(b_o, (oc12 u_th u_sa b_rf b_ro b_im b_ke u_fd b_tp u_td u_fr u_to u_so u_wo u_fa u_bd u_nc b_nl u_co b_op b_ar u_le b_pi b_pa u_pd u_od b_ws b_hw u_la b_se b_re u_bk u_va u_su u_ce u_ho u_wy u_bt u_ps b_pt u_tg u_sn b_ip u_ic b_ah b_be b_me u_wd b_tr b_ld u_st b_wn u_id)), (b_ro, (arI G 5740 v_ro))] sz)) 0 0 (va_A [(b_o, (oc12 u_th u_sa b_rf b_ro b_im b_ke u_fd b_tp u_td u_fr u_to u_so u_wo u_fa u_bd u_nc b_nl u_co b_op b_ar u_le b_pi b_pa u_pd u_od b_ws b_hw u_la b_se b_re u_bk u_va u_su u_ce u_ho u_wy u_bt u_ps b_pt u_tg u_sn b_ip u_ic b_ah b_be b_me u_wd b_tr b_ld u_st b_wn u_id)), (b_ro, (arI G 5740 v_ro))] sz) := by
  refine Met.ofW (cc := cX12_areSpots) (maxL := 2) (ret := (some .boolean)) (by decide +kernel) rfl ?_
  intro p e s m args below meth c s₁ B hml hv
  obtain ⟨rfl, hsz, hP, hK, hD0, hN, hT⟩ := hv
  have hx := B.exec
  have hb := B.bytes
  have hr := B.returns
  have hts : ∀ w ∈ tblG, w.before _ s = true := fun w h => atoms_spec (ws := (wsG yX12_areSpots cX12_areSpots 2 (some .boolean))) B.pre w (List.mem_cons_of_mem _ h)
  have hown : s.vm.findClass RX12 = some m.cls := findClass_of_methodNamed B.named
  have hlocks := B.notSynchronized
  subst hsz
  have hD := hD0.self (sz := s.heap.size)
  generalize hAe : va_A [(b_o, (oc12 u_th u_sa b_rf b_ro b_im b_ke u_fd b_tp u_td u_fr u_to u_so u_wo u_fa u_bd u_nc b_nl u_co b_op b_ar u_le b_pi b_pa u_pd u_od b_ws b_hw u_la b_se b_re u_bk u_va u_su u_ce u_ho u_wy u_bt u_ps b_pt u_tg u_sn b_ip u_ic b_ah b_be b_me u_wd b_tr b_ld u_st b_wn u_id)), (b_ro, (arI G 5740 v_ro))] s.heap.size = A at hD hT ⊢
  have hA : ∀ q : Nat, s.heap.size ≤ q → A q := fun q h => by rw [← hAe]; exact Or.inr h
  have hS : va_S A s.heap s.heap [] := va_S.rf
  replace hP : va_P G.1 vwCl [(b_o, (oc12 u_th u_sa b_rf b_ro b_im b_ke u_fd b_tp u_td u_fr u_to u_so u_wo u_fa u_bd u_nc b_nl u_co b_op b_ar u_le b_pi b_pa u_pd u_od b_ws b_hw u_la b_se b_re u_bk u_va u_su u_ce u_ho u_wy u_bt u_ps b_pt u_tg u_sn b_ip u_ic b_ah b_be b_me u_wd b_tr b_ld u_st b_wn u_id)), (b_ro, (arI G 5740 v_ro))] s.heap := hP
  have hl := lv_entry ([.ref b_o, .int p_1]) (n := 2) (Nat.le_of_ble_eq_true rfl)
  rw [lg_entry_eq]
  generalize (lg_sl ([.ref b_o, .int p_1]) ++ List.replicate (2 - (lg_sl ([.ref b_o, .int p_1])).length) Slot.unset).toArray = ls at hl ⊢
  replace hl : lv_has ls 2 [(0, .ref b_o), (1, .int p_1)] := hl
  refine lv_iload_n hx hb dX12_areSpots_0 rfl (lv_at hl 1 rfl) ?_
  refine lv_i2l (v := p_1.toInt64) hx hb dX12_areSpots_1 rfl ?_
  refine lv_lconst (v := 0) hx hb dX12_areSpots_2 (by decide +kernel) ?_
  refine lv_iconst (v := 1) hx hb dX12_areSpots_3 (by decide +kernel) ?_
  refine lv_aload_n hx hb dX12_areSpots_4 rfl (lv_at hl 0 rfl) ?_
  refine va_get (D := G.1) (ci := 12) (v := .ref b_ro) (C := RX12) (T := TX12) (N := 52) hx hb hts inG_X12 hown hK hP 0 rfl rfl 3 (by decide +kernel) (hts _ fl_X12_13) (fun _ h9 => h9) rfl dX12_areSpots_5 ?_
  refine lv_bipush (v := 7) hx hb dX12_areSpots_8 (by decide +kernel) ?_
  refine va_iald hx hb hK hP 1 0 rfl rfl (i := 7) (by unfold vp_in; decide) dX12_areSpots_10 ?_
  refine g5_ti (v := (v_ro 7)) rfl ?_
  have hr_1 : 0 ≤ (v_ro 7).toInt ∧ (v_ro 7).toInt ≤ 8 := mi_7 r_ro
  refine lv_ishl hx hb dX12_areSpots_11 ?_
  refine lv_i2l (v := (1 <<< ((v_ro 7) &&& 31)).toInt64) hx hb dX12_areSpots_12 rfl ?_
  refine lv_lconst (v := 1) hx hb dX12_areSpots_13 (by decide +kernel) ?_
  refine lv_lsub hx hb dX12_areSpots_14 ?_
  obtain ⟨hPc, hDc, hFc⟩ := g5_sub3 (wc := []) hP hD hS hA [] (by decide +kernel) rfl
  refine va_calli (va_runS (As := [.long p_1.toInt64, .long 0, .long (((1 <<< ((v_ro 7) &&& 31)).toInt64) - 1)]) (rest := []) ⟨hx, hb, hml, hown, hts⟩ (n_inL l G s.heap.size p_1.toInt64 0 (((1 <<< ((v_ro 7) &&& 31)).toInt64) - 1)) (va_cwS 3 hts gS_X12_121 rfl rfl rfl hs_X12_in ⟨Nat.le_of_ble_eq_true rfl, Nat.le_of_ble_eq_true rfl⟩) (g5_preS hPc hK hDc hN hT hS hFc) rfl rfl hl.1 rfl (lv_room (Nat.le_of_ble_eq_true rfl)) dX12_areSpots_15 ⟨Nat.le_of_ble_eq_true rfl, Nat.le_of_ble_eq_true rfl⟩) hS (fun q _ h => hFc q h) hFc (fun r u t H locs ht hvm hw hB hz1 hk1 hS => ?_)
  obtain ⟨hP1, hD1⟩ := hB
  have hP1 := g5_ht ht hP1
  obtain ⟨z3, (i_2 : 0 ≤ z3.toInt ∧ z3.toInt ≤ 1), y4, rfl⟩ := hw
  have hJ9 := g5_same hP hk1
  clear hP hPc hDc hFc ht hvm hz1 hk1 hP1 hD1
  have hP := hJ9
  clear hJ9
  refine g5_ti (v := z3) y4 ?_
  exact W.zret (v := z3) hx hb hr (g_nb (by omega) (by omega)) (fun t ht hW => ⟨⟨z3, [(b_o, (oc12 u_th u_sa b_rf b_ro b_im b_ke u_fd b_tp u_td u_fr u_to u_so u_wo u_fa u_bd u_nc b_nl u_co b_op b_ar u_le b_pi b_pa u_pd u_od b_ws b_hw u_la b_se b_re u_bk u_va u_su u_ce u_ho u_wy u_bt u_ps b_pt u_tg u_sn b_ip u_ic b_ah b_be b_me u_wd b_tr b_ld u_st b_wn u_id)), (b_ro, (arI G 5740 v_ro))], rfl, ⟨z3, i_2, rfl, rfl⟩, by rw [ht]; exact hP.sub [0, 1] rfl, hD.sub [0, 1] (by decide +kernel) rfl⟩, hS.F ht⟩) hS.2.2 dX12_areSpots_18
theorem dgX12_lacks_0 : ∀ r ∈ ([(0, (.aload_n 0, 1)), (1, (.iconst 0, 1)), (2, (.putfield 107, 3)), (5, (.aload_n 0, 1)), (6, (.iload_n 1, 1)), (7, (.invokevirtual 457, 3)), (10, (.ifCond .eq 11, 3)), (13, (.aload_n 0, 1)), (14, (.iload_n 1, 1)), (15, (.invokevirtual 460, 3)), (18, (.goto 4, 3)), (21, (.iconst (-1), 1)), (22, (.ireturn, 1))] : List (Nat × (Instr × Nat))), decode cX12_lacks r.1 = .ok r.2 := by decide +kernel
theorem dX12_lacks_0 : decode cX12_lacks 0 = .ok (.aload_n 0, 1) := dgX12_lacks_0 (0, (.aload_n 0, 1)) (List.mem_of_getElem? (i := 0) rfl)
theorem dX12_lacks_1 : decode cX12_lacks 1 = .ok (.iconst 0, 1) := dgX12_lacks_0 (1, (.iconst 0, 1)) (List.mem_of_getElem? (i := 1) rfl)
theorem dX12_lacks_2 : decode cX12_lacks 2 = .ok (.putfield 107, 3) := dgX12_lacks_0 (2, (.putfield 107, 3)) (List.mem_of_getElem? (i := 2) rfl)
theorem dX12_lacks_5 : decode cX12_lacks 5 = .ok (.aload_n 0, 1) := dgX12_lacks_0 (5, (.aload_n 0, 1)) (List.mem_of_getElem? (i := 3) rfl)
theorem dX12_lacks_6 : decode cX12_lacks 6 = .ok (.iload_n 1, 1) := dgX12_lacks_0 (6, (.iload_n 1, 1)) (List.mem_of_getElem? (i := 4) rfl)
theorem dX12_lacks_7 : decode cX12_lacks 7 = .ok (.invokevirtual 457, 3) := dgX12_lacks_0 (7, (.invokevirtual 457, 3)) (List.mem_of_getElem? (i := 5) rfl)
theorem dX12_lacks_10 : decode cX12_lacks 10 = .ok (.ifCond .eq 11, 3) := dgX12_lacks_0 (10, (.ifCond .eq 11, 3)) (List.mem_of_getElem? (i := 6) rfl)
theorem dX12_lacks_13 : decode cX12_lacks 13 = .ok (.aload_n 0, 1) := dgX12_lacks_0 (13, (.aload_n 0, 1)) (List.mem_of_getElem? (i := 7) rfl)
theorem dX12_lacks_14 : decode cX12_lacks 14 = .ok (.iload_n 1, 1) := dgX12_lacks_0 (14, (.iload_n 1, 1)) (List.mem_of_getElem? (i := 8) rfl)
theorem dX12_lacks_15 : decode cX12_lacks 15 = .ok (.invokevirtual 460, 3) := dgX12_lacks_0 (15, (.invokevirtual 460, 3)) (List.mem_of_getElem? (i := 9) rfl)
theorem dX12_lacks_18 : decode cX12_lacks 18 = .ok (.goto 4, 3) := dgX12_lacks_0 (18, (.goto 4, 3)) (List.mem_of_getElem? (i := 10) rfl)
theorem dX12_lacks_21 : decode cX12_lacks 21 = .ok (.iconst (-1), 1) := dgX12_lacks_0 (21, (.iconst (-1), 1)) (List.mem_of_getElem? (i := 11) rfl)
theorem dX12_lacks_22 : decode cX12_lacks 22 = .ok (.ireturn, 1) := dgX12_lacks_0 (22, (.ireturn, 1)) (List.mem_of_getElem? (i := 12) rfl)
theorem ml_X12_457 : Cond.methodLink RX12 457 yX12_areSpots ∈ tblG := tg 1783 (by decide +kernel) (by decide +kernel)
theorem im_X12_areSpots : Cond.instanceMethod yX12_areSpots ∈ tblG := tg 1785 (by decide +kernel) (by decide +kernel)
theorem se_X12_areSpots : Cond.selects RX12 yX12_areSpots yX12_areSpots ∈ tblG := tg 84 (by decide +kernel) (by decide +kernel)
theorem cd_X12_areSpots : Cond.code yX12_areSpots cX12_areSpots 2 (some .boolean) ∈ tblG := tg 1786 (by decide +kernel) (by decide +kernel)
theorem gW_X12_areSpots : GoodIn tblG (wsG yX12_areSpots cX12_areSpots 2 (some .boolean)) := tgi cd_X12_areSpots
theorem gV_X12_457 : GoodIn tblG (wsV RX12 457 RX12 yX12_areSpots (wsG yX12_areSpots cX12_areSpots 2 (some .boolean))) := tgV ml_X12_457 im_X12_areSpots se_X12_areSpots ini_X12 gW_X12_areSpots
theorem hv_X12_areSpots : yX12_areSpots.cls = RX12 ∧ yX12_areSpots.cls ≠ "java/lang/invoke/MethodHandle" ∧ yX12_areSpots.cls ≠ "java/lang/invoke/VarHandle" ∧ (parseMethodDescriptor yX12_areSpots.desc).map (fun d => d.parameters.length) = some 1 := by decide +kernel
theorem ml_X12_460 : Cond.methodLink RX12 460 yX12_lacking ∈ tblG := tg 1787 (by decide +kernel) (by decide +kernel)
theorem im_X12_lacking : Cond.instanceMethod yX12_lacking ∈ tblG := tg 1789 (by decide +kernel) (by decide +kernel)
theorem se_X12_lacking : Cond.selects RX12 yX12_lacking yX12_lacking ∈ tblG := tg 85 (by decide +kernel) (by decide +kernel)
theorem cd_X12_lacking : Cond.code yX12_lacking cX12_lacking 7 (some .int) ∈ tblG := tg 1790 (by decide +kernel) (by decide +kernel)
theorem gW_X12_lacking : GoodIn tblG (wsG yX12_lacking cX12_lacking 7 (some .int)) := tgi cd_X12_lacking
theorem gV_X12_460 : GoodIn tblG (wsV RX12 460 RX12 yX12_lacking (wsG yX12_lacking cX12_lacking 7 (some .int))) := tgV ml_X12_460 im_X12_lacking se_X12_lacking ini_X12 gW_X12_lacking
theorem hv_X12_lacking : yX12_lacking.cls = RX12 ∧ yX12_lacking.cls ≠ "java/lang/invoke/MethodHandle" ∧ yX12_lacking.cls ≠ "java/lang/invoke/VarHandle" ∧ (parseMethodDescriptor yX12_lacking.desc).map (fun d => d.parameters.length) = some 1 := by decide +kernel
set_option maxHeartbeats 4000000 in
set_option maxRecDepth 100000 in
theorem n_lacks (l : Launch) (G : g5_G) (b_o b_ro b_se b_re b_pt b_rf b_im b_ke b_tp b_nl b_op b_ar b_pi b_pa b_ws b_hw b_ip b_ah b_be b_me b_tr b_ld b_wn : Nat) (sz : Nat) (u_th : Int32) (u_sa : Int32) (u_fd : Int32) (u_td : Int32) (u_fr : Int32) (u_to : Int32) (u_so : Int32) (u_fa : Int32) (u_bd : Int32) (u_nc : Int32) (u_co : Int32) (u_le : Int32) (u_pd : Int32) (u_od : Int32) (u_la : Int32) (u_bk : Int32) (u_ce : Int32) (u_ho : Int32) (u_wy : Int32) (u_bt : Int32) (u_ps : Int32) (u_tg : Int32) (u_sn : Int32) (u_ic : Int32) (u_wd : Int32) (u_id : Int32) (p_1 : Int32) (u_wo : Int64) (u_va : Int64) (u_su : Int64) (u_st : Int64) (v_ro : Nat → Int32) (v_se : Nat → Int64) (v_re : Nat → Int64) (v_pt : Nat → Int32) (h_u_td : 0 ≤ u_td.toInt ∧ u_td.toInt ≤ 400) (h_u_fr : 0 ≤ u_fr.toInt ∧ u_fr.toInt ≤ 400) (h_u_to : 0 ≤ u_to.toInt ∧ u_to.toInt ≤ 400) (h_u_bd : 0 ≤ u_bd.toInt ∧ u_bd.toInt ≤ 1) (h_u_nc : 0 ≤ u_nc.toInt ∧ u_nc.toInt ≤ 12) (h_u_co : 0 ≤ u_co.toInt ∧ u_co.toInt ≤ 400) (h_u_pd : 0 ≤ u_pd.toInt ∧ u_pd.toInt ≤ 400) (h_u_la : 0 ≤ u_la.toInt ∧ u_la.toInt ≤ 4840) (h_u_bk : 0 ≤ u_bk.toInt ∧ u_bk.toInt ≤ 1) (h_u_ce : 0 ≤ u_ce.toInt ∧ u_ce.toInt ≤ 63) (h_u_ho : 0 ≤ u_ho.toInt ∧ u_ho.toInt ≤ 23) (h_u_wy : 0 ≤ u_wy.toInt ∧ u_wy.toInt ≤ 3) (h_u_bt : 0 ≤ u_bt.toInt ∧ u_bt.toInt ≤ 1000000) (h_u_ps : 0 ≤ u_ps.toInt ∧ u_ps.toInt ≤ 200) (h_u_ic : 0 ≤ u_ic.toInt ∧ u_ic.toInt ≤ 1) (h_u_id : 0 ≤ u_id.toInt ∧ u_id.toInt ≤ 1) (r_ro : MI v_ro) (r_pt : PTI v_pt) : Met l yX12_lacks (wsG yX12_lacks cX12_lacks 2 (some .int)) ({ frames := 8, cells := 0, slots := 0, locals := 202 }) (va_Pc [.ref b_o, .int p_1] (g5_P G [(b_o, (oc12 u_th u_sa b_rf b_ro b_im b_ke u_fd b_tp u_td u_fr u_to u_so u_wo u_fa u_bd u_nc b_nl u_co b_op b_ar u_le b_pi b_pa u_pd u_od b_ws b_hw u_la b_se b_re u_bk u_va u_su u_ce u_ho u_wy u_bt u_ps b_pt u_tg u_sn b_ip u_ic b_ah b_be b_me u_wd b_tr b_ld u_st b_wn u_id)), (b_ro, (arI G 5740 v_ro)), (b_se, (arJ G 13 v_se)), (b_re, (arJ G 400 v_re)), (b_pt, (arI G 200 v_pt))] sz)) (va_Qi (fun (r : Int32) (u : va_W) => (∃ (o_r : Int32) (o_th : Int32) (o_la : Int32) (o_bk : Int32) (o_va : Int64) (o_su : Int64) (o_ce : Int32) (o_ho : Int32) (o_wy : Int32) (o_bt : Int32) (o_ps : Int32) (o_tg : Int32) (o_sn : Int32) (o_se : Nat → Int64) (o_re : Nat → Int64) (o_pt : Nat → Int32), (0 ≤ o_la.toInt ∧ o_la.toInt ≤ 4840) ∧ (0 ≤ o_bk.toInt ∧ o_bk.toInt ≤ 1) ∧ (0 ≤ o_ce.toInt ∧ o_ce.toInt ≤ 63) ∧ (0 ≤ o_ho.toInt ∧ o_ho.toInt ≤ 23) ∧ (0 ≤ o_wy.toInt ∧ o_wy.toInt ≤ 3) ∧ (0 ≤ o_bt.toInt ∧ o_bt.toInt ≤ 1000000) ∧ (0 ≤ o_ps.toInt ∧ o_ps.toInt ≤ 200) ∧ (PTI o_pt) ∧ (r = o_r) ∧ (u = [(b_o, (oc12 o_th u_sa b_rf b_ro b_im b_ke u_fd b_tp u_td u_fr u_to u_so u_wo u_fa u_bd u_nc b_nl u_co b_op b_ar u_le b_pi b_pa u_pd u_od b_ws b_hw o_la b_se b_re o_bk o_va o_su o_ce o_ho o_wy o_bt o_ps b_pt o_tg o_sn b_ip u_ic b_ah b_be b_me u_wd b_tr b_ld u_st b_wn u_id)), (b_ro, (arI G 5740 v_ro)), (b_se, (arJ G 13 o_se)), (b_re, (arJ G 400 o_re)), (b_pt, (arI G 200 o_pt))]))) (g5_B G (va_A [(b_o, (oc12 u_th u_sa b_rf b_ro b_im b_ke u_fd b_tp u_td u_fr u_to u_so u_wo u_fa u_bd u_nc b_nl u_co b_op b_ar u_le b_pi b_pa u_pd u_od b_ws b_hw u_la b_se b_re u_bk u_va u_su u_ce u_ho u_wy u_bt u_ps b_pt u_tg u_sn b_ip u_ic b_ah b_be b_me u_wd b_tr b_ld u_st b_wn u_id)), (b_ro, (arI G 5740 v_ro)), (b_se, (arJ G 13 v_se)), (b_re, (arJ G 400 v_re)), (b_pt, (arI G 200 v_pt))] sz)) (va_A [(b_o, (oc12 u_th u_sa b_rf b_ro b_im b_ke u_fd b_tp u_td u_fr u_to u_so u_wo u_fa u_bd u_nc b_nl u_co b_op b_ar u_le b_pi b_pa u_pd u_od b_ws b_hw u_la b_se b_re u_bk u_va u_su u_ce u_ho u_wy u_bt u_ps b_pt u_tg u_sn b_ip u_ic b_ah b_be b_me u_wd b_tr b_ld u_st b_wn u_id)), (b_ro, (arI G 5740 v_ro)), (b_se, (arJ G 13 v_se)), (b_re, (arJ G 400 v_re)), (b_pt, (arI G 200 v_pt))] sz)) 0 0 (va_A [(b_o, (oc12 u_th u_sa b_rf b_ro b_im b_ke u_fd b_tp u_td u_fr u_to u_so u_wo u_fa u_bd u_nc b_nl u_co b_op b_ar u_le b_pi b_pa u_pd u_od b_ws b_hw u_la b_se b_re u_bk u_va u_su u_ce u_ho u_wy u_bt u_ps b_pt u_tg u_sn b_ip u_ic b_ah b_be b_me u_wd b_tr b_ld u_st b_wn u_id)), (b_ro, (arI G 5740 v_ro)), (b_se, (arJ G 13 v_se)), (b_re, (arJ G 400 v_re)), (b_pt, (arI G 200 v_pt))] sz) := by
  refine Met.ofW (cc := cX12_lacks) (maxL := 2) (ret := (some .int)) (by decide +kernel) rfl ?_
  intro p e s m args below meth c s₁ B hml hv
  obtain ⟨rfl, hsz, hP, hK, hD0, hN, hT⟩ := hv
  have hx := B.exec
  have hb := B.bytes
  have hr := B.returns
  have hts : ∀ w ∈ tblG, w.before _ s = true := fun w h => atoms_spec (ws := (wsG yX12_lacks cX12_lacks 2 (some .int))) B.pre w (List.mem_cons_of_mem _ h)
  have hown : s.vm.findClass RX12 = some m.cls := findClass_of_methodNamed B.named
  have hlocks := B.notSynchronized
  subst hsz
  have hD := hD0.self (sz := s.heap.size)
  generalize hAe : va_A [(b_o, (oc12 u_th u_sa b_rf b_ro b_im b_ke u_fd b_tp u_td u_fr u_to u_so u_wo u_fa u_bd u_nc b_nl u_co b_op b_ar u_le b_pi b_pa u_pd u_od b_ws b_hw u_la b_se b_re u_bk u_va u_su u_ce u_ho u_wy u_bt u_ps b_pt u_tg u_sn b_ip u_ic b_ah b_be b_me u_wd b_tr b_ld u_st b_wn u_id)), (b_ro, (arI G 5740 v_ro)), (b_se, (arJ G 13 v_se)), (b_re, (arJ G 400 v_re)), (b_pt, (arI G 200 v_pt))] s.heap.size = A at hD hT ⊢
  have hA : ∀ q : Nat, s.heap.size ≤ q → A q := fun q h => by rw [← hAe]; exact Or.inr h
  have hS : va_S A s.heap s.heap [] := va_S.rf
  replace hP : va_P G.1 vwCl [(b_o, (oc12 u_th u_sa b_rf b_ro b_im b_ke u_fd b_tp u_td u_fr u_to u_so u_wo u_fa u_bd u_nc b_nl u_co b_op b_ar u_le b_pi b_pa u_pd u_od b_ws b_hw u_la b_se b_re u_bk u_va u_su u_ce u_ho u_wy u_bt u_ps b_pt u_tg u_sn b_ip u_ic b_ah b_be b_me u_wd b_tr b_ld u_st b_wn u_id)), (b_ro, (arI G 5740 v_ro)), (b_se, (arJ G 13 v_se)), (b_re, (arJ G 400 v_re)), (b_pt, (arI G 200 v_pt))] s.heap := hP
  have hl := lv_entry ([.ref b_o, .int p_1]) (n := 2) (Nat.le_of_ble_eq_true rfl)
  rw [lg_entry_eq]
  generalize (lg_sl ([.ref b_o, .int p_1]) ++ List.replicate (2 - (lg_sl ([.ref b_o, .int p_1])).length) Slot.unset).toArray = ls at hl ⊢
  replace hl : lv_has ls 2 [(0, .ref b_o), (1, .int p_1)] := hl
  refine lv_aload_n hx hb dX12_lacks_0 rfl (lv_at hl 0 rfl) ?_
  refine lv_iconst (v := 0) hx hb dX12_lacks_1 (by decide +kernel) ?_
  refine va_put (D := G.1) (ci := 12) (v := .int 0) (ty := .int) (C := RX12) (T := TX12) (N := 52) hx hb hts inG_X12 tyX12 tyX12_ok nmX12 hown hK hP hD hS 0 rfl rfl 0 (by decide +kernel) (hts _ fl_X12_107) (fun _ h9 => h9) rfl (by decide +kernel) rfl rfl (Nat.le_of_ble_eq_true rfl) dX12_lacks_2 ?_
  clear hP hD hS
  intro H locs hP hD hS
  refine g5_rs [(b_o, (oc12 0 u_sa b_rf b_ro b_im b_ke u_fd b_tp u_td u_fr u_to u_so u_wo u_fa u_bd u_nc b_nl u_co b_op b_ar u_le b_pi b_pa u_pd u_od b_ws b_hw u_la b_se b_re u_bk u_va u_su u_ce u_ho u_wy u_bt u_ps b_pt u_tg u_sn b_ip u_ic b_ah b_be b_me u_wd b_tr b_ld u_st b_wn u_id)), (b_ro, (arI G 5740 v_ro)), (b_se, (arJ G 13 v_se)), (b_re, (arJ G 400 v_re)), (b_pt, (arI G 200 v_pt))] hP hD ?_
  clear hP hD
  intro hP hD
  refine lv_aload_n hx hb dX12_lacks_5 rfl (lv_at hl 0 rfl) ?_
  refine lv_iload_n hx hb dX12_lacks_6 rfl (lv_at hl 1 rfl) ?_
  obtain ⟨hPc, hDc, hFc⟩ := g5_sub3 (wc := [(b_o, (oc12 0 u_sa b_rf b_ro b_im b_ke u_fd b_tp u_td u_fr u_to u_so u_wo u_fa u_bd u_nc b_nl u_co b_op b_ar u_le b_pi b_pa u_pd u_od b_ws b_hw u_la b_se b_re u_bk u_va u_su u_ce u_ho u_wy u_bt u_ps b_pt u_tg u_sn b_ip u_ic b_ah b_be b_me u_wd b_tr b_ld u_st b_wn u_id)), (b_ro, (arI G 5740 v_ro))]) hP hD hS hA [0, 1] (by decide +kernel) rfl
  refine va_calli (va_runV (As := [.int p_1]) (rest := []) ⟨hx, hb, hml, hown, hts⟩ (n_areSpots l G b_o b_ro b_rf b_im b_ke b_tp b_nl b_op b_ar b_pi b_pa b_ws b_hw b_se b_re b_pt b_ip b_ah b_be b_me b_tr b_ld b_wn H.size 0 u_sa u_fd u_td u_fr u_to u_so u_fa u_bd u_nc u_co u_le u_pd u_od u_la u_bk u_ce u_ho u_wy u_bt u_ps u_tg u_sn u_ic u_wd u_id p_1 u_wo u_va u_su u_st v_ro h_u_td h_u_fr h_u_to h_u_bd h_u_nc h_u_co h_u_pd h_u_la h_u_bk h_u_ce h_u_ho h_u_wy h_u_bt h_u_ps h_u_ic h_u_id (r_ro)) (cwV 1 hts gV_X12_457 rfl rfl rfl hv_X12_areSpots ⟨Nat.le_of_ble_eq_true rfl, Nat.le_of_ble_eq_true rfl⟩) (g5_preV hPc hK hDc hN hT hS hFc (ci := 12) (q0 := 0) rfl rfl) rfl rfl hl.1 rfl (lv_room (Nat.le_of_ble_eq_true rfl)) dX12_lacks_7 ⟨Nat.le_of_ble_eq_true rfl, Nat.le_of_ble_eq_true rfl⟩) hS (fun q _ h => hFc q h) hFc (fun r u t H locs ht hvm hw hB hz1 hk1 hS => ?_)
  obtain ⟨hP1, hD1⟩ := hB
  have hP1 := g5_ht ht hP1
  obtain ⟨z2, (i_1 : 0 ≤ z2.toInt ∧ z2.toInt ≤ 1), y3, rfl⟩ := hw
  have hJ9 := va_join (wr := [(b_se, (arJ G 13 v_se)), (b_re, (arJ G 400 v_re)), (b_pt, (arI G 200 v_pt))]) hP hD [0, 1] [2, 3, 4] rfl rfl (by decide +kernel) (by decide +kernel) hk1 hFc hP1 hD1
  clear hP hD hPc hDc hFc ht hvm hz1 hk1 hP1 hD1
  obtain ⟨hP, hD⟩ := hJ9
  refine g5_rs [(b_se, (arJ G 13 v_se)), (b_re, (arJ G 400 v_re)), (b_pt, (arI G 200 v_pt)), (b_o, (oc12 0 u_sa b_rf b_ro b_im b_ke u_fd b_tp u_td u_fr u_to u_so u_wo u_fa u_bd u_nc b_nl u_co b_op b_ar u_le b_pi b_pa u_pd u_od b_ws b_hw u_la b_se b_re u_bk u_va u_su u_ce u_ho u_wy u_bt u_ps b_pt u_tg u_sn b_ip u_ic b_ah b_be b_me u_wd b_tr b_ld u_st b_wn u_id)), (b_ro, (arI G 5740 v_ro))] hP hD ?_
  clear hP hD
  intro hP hD
  refine g5_ti (v := z2) y3 ?_
  refine lv_if_eq (tgt := 21) hx hb dX12_lacks_10 (by decide +kernel) (fun c_4 => ?_) (fun c_4 => ?_)
  ·
    have i_4 : z2.toInt = 0 := g5_eq (a := z2.toInt) (b := 0) rfl (by decide +kernel) c_4
    refine lv_iconst (v := (-1)) hx hb dX12_lacks_21 (by decide +kernel) ?_
    exact W.iret (v := (-1)) hx hb hr (fun t ht hW => ⟨⟨(-1), [(b_o, (oc12 0 u_sa b_rf b_ro b_im b_ke u_fd b_tp u_td u_fr u_to u_so u_wo u_fa u_bd u_nc b_nl u_co b_op b_ar u_le b_pi b_pa u_pd u_od b_ws b_hw u_la b_se b_re u_bk u_va u_su u_ce u_ho u_wy u_bt u_ps b_pt u_tg u_sn b_ip u_ic b_ah b_be b_me u_wd b_tr b_ld u_st b_wn u_id)), (b_ro, (arI G 5740 v_ro)), (b_se, (arJ G 13 v_se)), (b_re, (arJ G 400 v_re)), (b_pt, (arI G 200 v_pt))], rfl, ⟨(-1), 0, u_la, u_bk, u_va, u_su, u_ce, u_ho, u_wy, u_bt, u_ps, u_tg, u_sn, v_se, v_re, v_pt, h_u_la, h_u_bk, h_u_ce, h_u_ho, h_u_wy, h_u_bt, h_u_ps, r_pt, rfl, rfl⟩, by rw [ht]; exact hP.sub [3, 4, 0, 1, 2] rfl, hD.sub [3, 4, 0, 1, 2] (by decide +kernel) rfl⟩, hS.F ht⟩) hS.2.2 dX12_lacks_22
  ·
    have n_4 : gNe (z2.toInt) (0) := g5_eqN (a := z2.toInt) (b := 0) rfl (by decide +kernel) c_4
    have i_4 : z2.toInt ≥ 1 := by have z := g5_eqN (a := z2.toInt) (b := 0) (by rfl) (by decide +kernel) c_4; omega
    refine lv_aload_n hx hb dX12_lacks_13 rfl (lv_at hl 0 rfl) ?_
    refine lv_iload_n hx hb dX12_lacks_14 rfl (lv_at hl 1 rfl) ?_
    obtain ⟨hPc, hDc, hFc⟩ := g5_sub3 (wc := [(b_o, (oc12 0 u_sa b_rf b_ro b_im b_ke u_fd b_tp u_td u_fr u_to u_so u_wo u_fa u_bd u_nc b_nl u_co b_op b_ar u_le b_pi b_pa u_pd u_od b_ws b_hw u_la b_se b_re u_bk u_va u_su u_ce u_ho u_wy u_bt u_ps b_pt u_tg u_sn b_ip u_ic b_ah b_be b_me u_wd b_tr b_ld u_st b_wn u_id)), (b_ro, (arI G 5740 v_ro)), (b_se, (arJ G 13 v_se)), (b_re, (arJ G 400 v_re)), (b_pt, (arI G 200 v_pt))]) hP hD hS hA [3, 4, 0, 1, 2] (by decide +kernel) rfl
    refine va_calli (va_runV (As := [.int p_1]) (rest := []) ⟨hx, hb, hml, hown, hts⟩ (n_lacking l G b_o b_ro b_se b_re b_pt b_rf b_im b_ke b_tp b_nl b_op b_ar b_pi b_pa b_ws b_hw b_ip b_ah b_be b_me b_tr b_ld b_wn H.size 0 u_sa u_fd u_td u_fr u_to u_so u_fa u_bd u_nc u_co u_le u_pd u_od u_la u_bk u_ce u_ho u_wy u_bt u_ps u_tg u_sn u_ic u_wd u_id p_1 u_wo u_va u_su u_st v_ro v_se v_re v_pt h_u_td h_u_fr h_u_to h_u_bd h_u_nc h_u_co h_u_pd h_u_la h_u_bk h_u_ce h_u_ho h_u_wy h_u_bt h_u_ps h_u_ic h_u_id (r_ro) (r_pt)) (cwV 1 hts gV_X12_460 rfl rfl rfl hv_X12_lacking ⟨Nat.le_of_ble_eq_true rfl, Nat.le_of_ble_eq_true rfl⟩) (g5_preV hPc hK hDc hN hT hS hFc (ci := 12) (q0 := 0) rfl rfl) rfl rfl hl.1 rfl (lv_room (Nat.le_of_ble_eq_true rfl)) dX12_lacks_15 ⟨Nat.le_of_ble_eq_true rfl, Nat.le_of_ble_eq_true rfl⟩) hS (fun q _ h => hFc q h) hFc (fun r u t H locs ht hvm hw hB hz1 hk1 hS => ?_)
    obtain ⟨hP1, hD1⟩ := hB
    have hP1 := g5_ht ht hP1
    obtain ⟨z13, z14, z15, z16, z17, z18, z19, z20, z21, z22, z23, z24, z25, z26, z27, (i_5 : 0 ≤ z14.toInt ∧ z14.toInt ≤ 4840), (i_6 : 0 ≤ z15.toInt ∧ z15.toInt ≤ 1), (i_7 : 0 ≤ z18.toInt ∧ z18.toInt ≤ 63), (i_8 : 0 ≤ z19.toInt ∧ z19.toInt ≤ 23), (i_9 : 0 ≤ z20.toInt ∧ z20.toInt ≤ 3), (i_10 : 0 ≤ z21.toInt ∧ z21.toInt ≤ 1000000), (i_11 : 0 ≤ z22.toInt ∧ z22.toInt ≤ 200), (i_12 : PTI z27), y28, rfl⟩ := hw
    have hJ9 := va_join (wr := []) hP hD [3, 4, 0, 1, 2] [] rfl rfl (by decide +kernel) (by decide +kernel) hk1 hFc hP1 hD1
    clear hP hD hPc hDc hFc ht hvm hz1 hk1 hP1 hD1
    obtain ⟨hP, hD⟩ := hJ9
    refine g5_rs [(b_o, (oc12 0 u_sa b_rf b_ro b_im b_ke u_fd b_tp u_td u_fr u_to u_so u_wo u_fa u_bd u_nc b_nl u_co b_op b_ar u_le b_pi b_pa u_pd u_od b_ws b_hw z14 b_se b_re z15 z16 z17 z18 z19 z20 z21 z22 b_pt z23 z24 b_ip u_ic b_ah b_be b_me u_wd b_tr b_ld u_st b_wn u_id)), (b_ro, (arI G 5740 v_ro)), (b_se, (arJ G 13 z25)), (b_re, (arJ G 400 z26)), (b_pt, (arI G 200 z27))] hP hD ?_
    clear hP hD
    intro hP hD
    refine g5_ti (v := z13) y28 ?_
    refine lv_goto (tgt := 22) hx hb dX12_lacks_18 (by decide +kernel) ?_
    exact W.iret (v := z13) hx hb hr (fun t ht hW => ⟨⟨z13, [(b_o, (oc12 0 u_sa b_rf b_ro b_im b_ke u_fd b_tp u_td u_fr u_to u_so u_wo u_fa u_bd u_nc b_nl u_co b_op b_ar u_le b_pi b_pa u_pd u_od b_ws b_hw z14 b_se b_re z15 z16 z17 z18 z19 z20 z21 z22 b_pt z23 z24 b_ip u_ic b_ah b_be b_me u_wd b_tr b_ld u_st b_wn u_id)), (b_ro, (arI G 5740 v_ro)), (b_se, (arJ G 13 z25)), (b_re, (arJ G 400 z26)), (b_pt, (arI G 200 z27))], rfl, ⟨z13, 0, z14, z15, z16, z17, z18, z19, z20, z21, z22, z23, z24, z25, z26, z27, i_5, i_6, i_7, i_8, i_9, i_10, i_11, i_12, rfl, rfl⟩, by rw [ht]; exact hP.sub [0, 1, 2, 3, 4] rfl, hD.sub [0, 1, 2, 3, 4] (by decide +kernel) rfl⟩, hS.F ht⟩) hS.2.2 dX12_lacks_22
theorem dgX12_bits_0 : ∀ r ∈ ([(0, (.iconst 0, 1)), (1, (.istore_n 1, 1)), (2, (.iconst 0, 1)), (3, (.istore_n 2, 1)), (4, (.iload_n 2, 1)), (5, (.bipush 8, 2)), (7, (.if_icmp .ge 17, 3)), (10, (.iload_n 1, 1)), (11, (.iload_n 0, 1)), (12, (.iload_n 2, 1)), (13, (.ishr, 1)), (14, (.iconst 1, 1)), (15, (.iand, 1)), (16, (.iadd, 1)), (17, (.istore_n 1, 1)), (18, (.iinc 2 1, 3)), (21, (.goto (-17), 3)), (24, (.iload_n 1, 1)), (25, (.ireturn, 1))] : List (Nat × (Instr × Nat))), decode cX12_bits r.1 = .ok r.2 := by decide +kernel
theorem dX12_bits_0 : decode cX12_bits 0 = .ok (.iconst 0, 1) := dgX12_bits_0 (0, (.iconst 0, 1)) (List.mem_of_getElem? (i := 0) rfl)
theorem dX12_bits_1 : decode cX12_bits 1 = .ok (.istore_n 1, 1) := dgX12_bits_0 (1, (.istore_n 1, 1)) (List.mem_of_getElem? (i := 1) rfl)
theorem dX12_bits_2 : decode cX12_bits 2 = .ok (.iconst 0, 1) := dgX12_bits_0 (2, (.iconst 0, 1)) (List.mem_of_getElem? (i := 2) rfl)
theorem dX12_bits_3 : decode cX12_bits 3 = .ok (.istore_n 2, 1) := dgX12_bits_0 (3, (.istore_n 2, 1)) (List.mem_of_getElem? (i := 3) rfl)
theorem dX12_bits_4 : decode cX12_bits 4 = .ok (.iload_n 2, 1) := dgX12_bits_0 (4, (.iload_n 2, 1)) (List.mem_of_getElem? (i := 4) rfl)
theorem dX12_bits_5 : decode cX12_bits 5 = .ok (.bipush 8, 2) := dgX12_bits_0 (5, (.bipush 8, 2)) (List.mem_of_getElem? (i := 5) rfl)
theorem dX12_bits_7 : decode cX12_bits 7 = .ok (.if_icmp .ge 17, 3) := dgX12_bits_0 (7, (.if_icmp .ge 17, 3)) (List.mem_of_getElem? (i := 6) rfl)
theorem dX12_bits_10 : decode cX12_bits 10 = .ok (.iload_n 1, 1) := dgX12_bits_0 (10, (.iload_n 1, 1)) (List.mem_of_getElem? (i := 7) rfl)
theorem dX12_bits_11 : decode cX12_bits 11 = .ok (.iload_n 0, 1) := dgX12_bits_0 (11, (.iload_n 0, 1)) (List.mem_of_getElem? (i := 8) rfl)
theorem dX12_bits_12 : decode cX12_bits 12 = .ok (.iload_n 2, 1) := dgX12_bits_0 (12, (.iload_n 2, 1)) (List.mem_of_getElem? (i := 9) rfl)
theorem dX12_bits_13 : decode cX12_bits 13 = .ok (.ishr, 1) := dgX12_bits_0 (13, (.ishr, 1)) (List.mem_of_getElem? (i := 10) rfl)
theorem dX12_bits_14 : decode cX12_bits 14 = .ok (.iconst 1, 1) := dgX12_bits_0 (14, (.iconst 1, 1)) (List.mem_of_getElem? (i := 11) rfl)
theorem dX12_bits_15 : decode cX12_bits 15 = .ok (.iand, 1) := dgX12_bits_0 (15, (.iand, 1)) (List.mem_of_getElem? (i := 12) rfl)
theorem dX12_bits_16 : decode cX12_bits 16 = .ok (.iadd, 1) := dgX12_bits_0 (16, (.iadd, 1)) (List.mem_of_getElem? (i := 13) rfl)
theorem dX12_bits_17 : decode cX12_bits 17 = .ok (.istore_n 1, 1) := dgX12_bits_0 (17, (.istore_n 1, 1)) (List.mem_of_getElem? (i := 14) rfl)
theorem dX12_bits_18 : decode cX12_bits 18 = .ok (.iinc 2 1, 3) := dgX12_bits_0 (18, (.iinc 2 1, 3)) (List.mem_of_getElem? (i := 15) rfl)
theorem dX12_bits_21 : decode cX12_bits 21 = .ok (.goto (-17), 3) := dgX12_bits_0 (21, (.goto (-17), 3)) (List.mem_of_getElem? (i := 16) rfl)
theorem dX12_bits_24 : decode cX12_bits 24 = .ok (.iload_n 1, 1) := dgX12_bits_0 (24, (.iload_n 1, 1)) (List.mem_of_getElem? (i := 17) rfl)
theorem dX12_bits_25 : decode cX12_bits 25 = .ok (.ireturn, 1) := dgX12_bits_0 (25, (.ireturn, 1)) (List.mem_of_getElem? (i := 18) rfl)
set_option maxHeartbeats 4000000 in
set_option maxRecDepth 100000 in
theorem n_bits (l : Launch) (G : g5_G) (sz : Nat) (p_0 : Int32) : Met l yX12_bits (wsG yX12_bits cX12_bits 3 (some .int)) ({ frames := 0, cells := 0, slots := 0, locals := 0 }) (va_Pc [.int p_0] (g5_P G [] sz)) (va_Qi (fun (r : Int32) (u : va_W) => (∃ (o_r : Int32), (r = o_r) ∧ (u = []))) (g5_B G (va_A [] sz)) (va_A [] sz)) 0 0 (va_A [] sz) := by
  refine Met.ofW (cc := cX12_bits) (maxL := 3) (ret := (some .int)) (by decide +kernel) rfl ?_
  intro p e s m args below meth c s₁ B hml hv
  obtain ⟨rfl, hsz, hP, hK, hD0, hN, hT⟩ := hv
  have hx := B.exec
  have hb := B.bytes
  have hr := B.returns
  have hts : ∀ w ∈ tblG, w.before _ s = true := fun w h => atoms_spec (ws := (wsG yX12_bits cX12_bits 3 (some .int))) B.pre w (List.mem_cons_of_mem _ h)
  have hown : s.vm.findClass RX12 = some m.cls := findClass_of_methodNamed B.named
  have hlocks := B.notSynchronized
  subst hsz
  have hD := hD0.self (sz := s.heap.size)
  generalize hAe : va_A [] s.heap.size = A at hD hT ⊢
  have hA : ∀ q : Nat, s.heap.size ≤ q → A q := fun q h => by rw [← hAe]; exact Or.inr h
  have hS : va_S A s.heap s.heap [] := va_S.rf
  replace hP : va_P G.1 vwCl [] s.heap := hP
  have hl := lv_entry ([.int p_0]) (n := 3) (Nat.le_of_ble_eq_true rfl)
  rw [lg_entry_eq]
  generalize (lg_sl ([.int p_0]) ++ List.replicate (3 - (lg_sl ([.int p_0])).length) Slot.unset).toArray = ls at hl ⊢
  replace hl : lv_has ls 3 [(0, .int p_0)] := hl
  refine lv_iconst (v := 0) hx hb dX12_bits_0 (by decide +kernel) ?_
  refine lv_istore_n (lv' := [(1, .int 0), (0, .int p_0)]) hx hb dX12_bits_1 rfl hl (by decide +kernel) rfl ?_
  clear hl
  intro ls hl
  refine lv_iconst (v := 0) hx hb dX12_bits_2 (by decide +kernel) ?_
  refine lv_istore_n (lv' := [(2, .int 0), (1, .int 0), (0, .int p_0)]) hx hb dX12_bits_3 rfl hl (by decide +kernel) rfl ?_
  clear hl
  intro ls hl
  refine g5_loop (α := (Int32) × (Int32)) (fun (q : (Int32) × (Int32)) (ls : Array Slot) (H : Heap) (locs : List Loc) => match q with | (k4_2, k4_1) => lv_has ls 3 [(1, .int k4_1), (2, .int k4_2), (0, .int p_0)] ∧ va_P G.1 vwCl [] H ∧ va_D A [] ∧ va_S A s.heap H locs ∧ (0 ≤ k4_2.toInt ∧ k4_2.toInt ≤ 8)) (fun (q : (Int32) × (Int32)) => match q with | (k4_2, k4_1) => Int.toNat (8 - k4_2.toInt)) (0, 0) ⟨lv_sub hl [1, 0, 2] rfl, hP, hD, hS, ⟨by decide, by decide⟩⟩ ?_
  rintro ⟨k4_2, k4_1⟩ ls H locs ⟨hl, hP, hD, hS, (i_1 : 0 ≤ k4_2.toInt ∧ k4_2.toInt ≤ 8)⟩ ih_4_2
  replace hl : lv_has ls 3 [(1, .int k4_1), (2, .int k4_2), (0, .int p_0)] := hl
  refine g5_rs [] hP hD ?_
  clear hP hD
  intro hP hD
  refine lv_iload_n hx hb dX12_bits_4 rfl (lv_at hl 1 rfl) ?_
  refine lv_bipush (v := 8) hx hb dX12_bits_5 (by decide +kernel) ?_
  refine lv_icmp_ge (tgt := 24) hx hb dX12_bits_7 (by decide +kernel) (fun c_3 => ?_) (fun c_3 => ?_)
  ·
    have i_3 : k4_2.toInt ≥ 8 := g5_ge (a := k4_2.toInt) (b := 8) rfl (by decide +kernel) c_3
    refine lv_iload_n hx hb dX12_bits_24 rfl (lv_at hl 0 rfl) ?_
    exact W.iret (v := k4_1) hx hb hr (fun t ht hW => ⟨⟨k4_1, [], rfl, ⟨k4_1, rfl, rfl⟩, by rw [ht]; exact hP.sub [] rfl, hD.sub [] (by decide +kernel) rfl⟩, hS.F ht⟩) hS.2.2 dX12_bits_25
  ·
    have i_3 : k4_2.toInt < 8 := g5_geN (a := k4_2.toInt) (b := 8) rfl (by decide +kernel) c_3
    refine lv_iload_n hx hb dX12_bits_10 rfl (lv_at hl 0 rfl) ?_
    refine lv_iload_n hx hb dX12_bits_11 rfl (lv_at hl 2 rfl) ?_
    refine lv_iload_n hx hb dX12_bits_12 rfl (lv_at hl 1 rfl) ?_
    refine lv_ishr hx hb dX12_bits_13 ?_
    refine lv_iconst (v := 1) hx hb dX12_bits_14 (by decide +kernel) ?_
    refine lv_iand hx hb dX12_bits_15 ?_
    refine lv_iadd hx hb dX12_bits_16 ?_
    refine lv_istore_n (lv' := [(1, .int (k4_1 + ((p_0 >>> (k4_2 &&& 31)) &&& 1))), (2, .int k4_2), (0, .int p_0)]) hx hb dX12_bits_17 rfl hl (by decide +kernel) rfl ?_
    clear hl
    intro ls hl
    refine lv_iinc (v := (k4_2 + 1)) (lv' := [(2, .int (k4_2 + 1)), (1, .int (k4_1 + ((p_0 >>> (k4_2 &&& 31)) &&& 1))), (0, .int p_0)]) hx hb dX12_bits_18 hl (k := 1) rfl rfl (by decide +kernel) rfl ?_
    clear hl
    intro ls hl
    have t_4 : (k4_2 + 1).toInt = k4_2.toInt + 1 := g5_iadd (a := k4_2.toInt) (b := 1) rfl (by decide +kernel) (by omega) (by omega)
    refine lv_goto (tgt := 4) hx hb dX12_bits_21 (by decide +kernel) ?_
    exact ih_4_2 ((k4_2 + 1), (k4_1 + ((p_0 >>> (k4_2 &&& 31)) &&& 1))) ls H locs (show Int.toNat (8 - (k4_2 + 1).toInt) < Int.toNat (8 - k4_2.toInt) from g_up (show k4_2.toInt < (k4_2 + 1).toInt by omega) (show k4_2.toInt < 8 by omega)) ⟨lv_sub hl [1, 0, 2] rfl, hP, hD, hS, ⟨by omega, by omega⟩⟩
theorem dgX12_step_0 : ∀ r ∈ ([(0, (.iload_n 2, 1)), (1, (.iconst 4, 1)), (2, (.if_icmp .ne 7, 3)), (5, (.iload_n 1, 1)), (6, (.goto 8, 3)), (9, (.iload_n 1, 1)), (10, (.iload_n 2, 1)), (11, (.invokestatic 374, 3)), (14, (.istore 4, 2)), (16, (.iload 4, 2)), (18, (.iconst (-1), 1)), (19, (.if_icmp .eq 34, 3)), (22, (.aload_n 0, 1)), (23, (.getfield 95, 3)), (26, (.bipush 64, 2)), (28, (.iload_n 3, 1)), (29, (.imul, 1)), (30, (.iload 4, 2)), (32, (.ifCond .ge 7, 3)), (35, (.iconst 0, 1)), (36, (.goto 5, 3)), (39, (.iload 4, 2)), (41, (.iadd, 1)), (42, (.iaload, 1)), (43, (.bipush 64, 2)), (45, (.if_icmp .ge 8, 3)), (48, (.iload 4, 2)), (50, (.goto 4, 3)), (53, (.iconst (-1), 1)), (54, (.ireturn, 1))] : List (Nat × (Instr × Nat))), decode cX12_step r.1 = .ok r.2 := by decide +kernel
theorem dX12_step_0 : decode cX12_step 0 = .ok (.iload_n 2, 1) := dgX12_step_0 (0, (.iload_n 2, 1)) (List.mem_of_getElem? (i := 0) rfl)
theorem dX12_step_1 : decode cX12_step 1 = .ok (.iconst 4, 1) := dgX12_step_0 (1, (.iconst 4, 1)) (List.mem_of_getElem? (i := 1) rfl)
theorem dX12_step_2 : decode cX12_step 2 = .ok (.if_icmp .ne 7, 3) := dgX12_step_0 (2, (.if_icmp .ne 7, 3)) (List.mem_of_getElem? (i := 2) rfl)
theorem dX12_step_5 : decode cX12_step 5 = .ok (.iload_n 1, 1) := dgX12_step_0 (5, (.iload_n 1, 1)) (List.mem_of_getElem? (i := 3) rfl)
theorem dX12_step_6 : decode cX12_step 6 = .ok (.goto 8, 3) := dgX12_step_0 (6, (.goto 8, 3)) (List.mem_of_getElem? (i := 4) rfl)
theorem dX12_step_9 : decode cX12_step 9 = .ok (.iload_n 1, 1) := dgX12_step_0 (9, (.iload_n 1, 1)) (List.mem_of_getElem? (i := 5) rfl)
theorem dX12_step_10 : decode cX12_step 10 = .ok (.iload_n 2, 1) := dgX12_step_0 (10, (.iload_n 2, 1)) (List.mem_of_getElem? (i := 6) rfl)
theorem dX12_step_11 : decode cX12_step 11 = .ok (.invokestatic 374, 3) := dgX12_step_0 (11, (.invokestatic 374, 3)) (List.mem_of_getElem? (i := 7) rfl)
theorem dX12_step_14 : decode cX12_step 14 = .ok (.istore 4, 2) := dgX12_step_0 (14, (.istore 4, 2)) (List.mem_of_getElem? (i := 8) rfl)
theorem dX12_step_16 : decode cX12_step 16 = .ok (.iload 4, 2) := dgX12_step_0 (16, (.iload 4, 2)) (List.mem_of_getElem? (i := 9) rfl)
theorem dX12_step_18 : decode cX12_step 18 = .ok (.iconst (-1), 1) := dgX12_step_0 (18, (.iconst (-1), 1)) (List.mem_of_getElem? (i := 10) rfl)
theorem dX12_step_19 : decode cX12_step 19 = .ok (.if_icmp .eq 34, 3) := dgX12_step_0 (19, (.if_icmp .eq 34, 3)) (List.mem_of_getElem? (i := 11) rfl)
theorem dX12_step_22 : decode cX12_step 22 = .ok (.aload_n 0, 1) := dgX12_step_0 (22, (.aload_n 0, 1)) (List.mem_of_getElem? (i := 12) rfl)
theorem dX12_step_23 : decode cX12_step 23 = .ok (.getfield 95, 3) := dgX12_step_0 (23, (.getfield 95, 3)) (List.mem_of_getElem? (i := 13) rfl)
theorem dX12_step_26 : decode cX12_step 26 = .ok (.bipush 64, 2) := dgX12_step_0 (26, (.bipush 64, 2)) (List.mem_of_getElem? (i := 14) rfl)
theorem dX12_step_28 : decode cX12_step 28 = .ok (.iload_n 3, 1) := dgX12_step_0 (28, (.iload_n 3, 1)) (List.mem_of_getElem? (i := 15) rfl)
theorem dX12_step_29 : decode cX12_step 29 = .ok (.imul, 1) := dgX12_step_0 (29, (.imul, 1)) (List.mem_of_getElem? (i := 16) rfl)
theorem dX12_step_30 : decode cX12_step 30 = .ok (.iload 4, 2) := dgX12_step_0 (30, (.iload 4, 2)) (List.mem_of_getElem? (i := 17) rfl)
theorem dX12_step_32 : decode cX12_step 32 = .ok (.ifCond .ge 7, 3) := dgX12_step_0 (32, (.ifCond .ge 7, 3)) (List.mem_of_getElem? (i := 18) rfl)
theorem dX12_step_39 : decode cX12_step 39 = .ok (.iload 4, 2) := dgX12_step_0 (39, (.iload 4, 2)) (List.mem_of_getElem? (i := 21) rfl)
theorem dX12_step_41 : decode cX12_step 41 = .ok (.iadd, 1) := dgX12_step_0 (41, (.iadd, 1)) (List.mem_of_getElem? (i := 22) rfl)
theorem dX12_step_42 : decode cX12_step 42 = .ok (.iaload, 1) := dgX12_step_0 (42, (.iaload, 1)) (List.mem_of_getElem? (i := 23) rfl)
theorem dX12_step_43 : decode cX12_step 43 = .ok (.bipush 64, 2) := dgX12_step_0 (43, (.bipush 64, 2)) (List.mem_of_getElem? (i := 24) rfl)
theorem dX12_step_45 : decode cX12_step 45 = .ok (.if_icmp .ge 8, 3) := dgX12_step_0 (45, (.if_icmp .ge 8, 3)) (List.mem_of_getElem? (i := 25) rfl)
theorem dX12_step_48 : decode cX12_step 48 = .ok (.iload 4, 2) := dgX12_step_0 (48, (.iload 4, 2)) (List.mem_of_getElem? (i := 26) rfl)
theorem dX12_step_50 : decode cX12_step 50 = .ok (.goto 4, 3) := dgX12_step_0 (50, (.goto 4, 3)) (List.mem_of_getElem? (i := 27) rfl)
theorem dX12_step_53 : decode cX12_step 53 = .ok (.iconst (-1), 1) := dgX12_step_0 (53, (.iconst (-1), 1)) (List.mem_of_getElem? (i := 28) rfl)
theorem dX12_step_54 : decode cX12_step 54 = .ok (.ireturn, 1) := dgX12_step_0 (54, (.ireturn, 1)) (List.mem_of_getElem? (i := 29) rfl)
theorem fl_X12_95 : Cond.fieldLink RX12 95 "LateGlassModel" "meets" "[I" ∈ tblG := tg 1248 (by decide +kernel) (by decide +kernel)
set_option maxHeartbeats 4000000 in
set_option maxRecDepth 100000 in
theorem n_step (l : Launch) (G : g5_G) (b_o b_me b_rf b_ro b_im b_ke b_tp b_nl b_op b_ar b_pi b_pa b_ws b_hw b_se b_re b_pt b_ip b_ah b_be b_tr b_ld b_wn : Nat) (sz : Nat) (u_th : Int32) (u_sa : Int32) (u_fd : Int32) (u_td : Int32) (u_fr : Int32) (u_to : Int32) (u_so : Int32) (u_fa : Int32) (u_bd : Int32) (u_nc : Int32) (u_co : Int32) (u_le : Int32) (u_pd : Int32) (u_od : Int32) (u_la : Int32) (u_bk : Int32) (u_ce : Int32) (u_ho : Int32) (u_wy : Int32) (u_bt : Int32) (u_ps : Int32) (u_tg : Int32) (u_sn : Int32) (u_ic : Int32) (u_wd : Int32) (u_id : Int32) (p_1 : Int32) (p_2 : Int32) (p_3 : Int32) (u_wo : Int64) (u_va : Int64) (u_su : Int64) (u_st : Int64) (v_me : Nat → Int32) (h_u_td : 0 ≤ u_td.toInt ∧ u_td.toInt ≤ 400) (h_u_fr : 0 ≤ u_fr.toInt ∧ u_fr.toInt ≤ 400) (h_u_to : 0 ≤ u_to.toInt ∧ u_to.toInt ≤ 400) (h_u_bd : 0 ≤ u_bd.toInt ∧ u_bd.toInt ≤ 1) (h_u_nc : 0 ≤ u_nc.toInt ∧ u_nc.toInt ≤ 12) (h_u_co : 0 ≤ u_co.toInt ∧ u_co.toInt ≤ 400) (h_u_pd : 0 ≤ u_pd.toInt ∧ u_pd.toInt ≤ 400) (h_u_la : 0 ≤ u_la.toInt ∧ u_la.toInt ≤ 4840) (h_u_bk : 0 ≤ u_bk.toInt ∧ u_bk.toInt ≤ 1) (h_u_ce : 0 ≤ u_ce.toInt ∧ u_ce.toInt ≤ 63) (h_u_ho : 0 ≤ u_ho.toInt ∧ u_ho.toInt ≤ 23) (h_u_wy : 0 ≤ u_wy.toInt ∧ u_wy.toInt ≤ 3) (h_u_bt : 0 ≤ u_bt.toInt ∧ u_bt.toInt ≤ 1000000) (h_u_ps : 0 ≤ u_ps.toInt ∧ u_ps.toInt ≤ 200) (h_u_ic : 0 ≤ u_ic.toInt ∧ u_ic.toInt ≤ 1) (h_u_id : 0 ≤ u_id.toInt ∧ u_id.toInt ≤ 1) (h_p_1 : 0 ≤ p_1.toInt ∧ p_1.toInt ≤ 63) (h_p_2 : 0 ≤ p_2.toInt ∧ p_2.toInt ≤ 4) (h_p_3 : 0 ≤ p_3.toInt ∧ p_3.toInt ≤ 23) (r_me : MEI v_me) : Met l yX12_step (wsG yX12_step cX12_step 5 (some .int)) ({ frames := 1, cells := 0, slots := 0, locals := 21 }) (va_Pc [.ref b_o, .int p_1, .int p_2, .int p_3] (g5_P G [(b_o, (oc12 u_th u_sa b_rf b_ro b_im b_ke u_fd b_tp u_td u_fr u_to u_so u_wo u_fa u_bd u_nc b_nl u_co b_op b_ar u_le b_pi b_pa u_pd u_od b_ws b_hw u_la b_se b_re u_bk u_va u_su u_ce u_ho u_wy u_bt u_ps b_pt u_tg u_sn b_ip u_ic b_ah b_be b_me u_wd b_tr b_ld u_st b_wn u_id)), (b_me, (arI G 1536 v_me))] sz)) (va_Qi (fun (r : Int32) (u : va_W) => (∃ (o_r : Int32), ((-1) ≤ o_r.toInt ∧ o_r.toInt ≤ 63) ∧ (o_r.toInt = -1 ∨ (v_me (64 * p_3.toInt + o_r.toInt).toNat).toInt < 64) ∧ (r = o_r) ∧ (u = [(b_o, (oc12 u_th u_sa b_rf b_ro b_im b_ke u_fd b_tp u_td u_fr u_to u_so u_wo u_fa u_bd u_nc b_nl u_co b_op b_ar u_le b_pi b_pa u_pd u_od b_ws b_hw u_la b_se b_re u_bk u_va u_su u_ce u_ho u_wy u_bt u_ps b_pt u_tg u_sn b_ip u_ic b_ah b_be b_me u_wd b_tr b_ld u_st b_wn u_id)), (b_me, (arI G 1536 v_me))]))) (g5_B G (va_A [(b_o, (oc12 u_th u_sa b_rf b_ro b_im b_ke u_fd b_tp u_td u_fr u_to u_so u_wo u_fa u_bd u_nc b_nl u_co b_op b_ar u_le b_pi b_pa u_pd u_od b_ws b_hw u_la b_se b_re u_bk u_va u_su u_ce u_ho u_wy u_bt u_ps b_pt u_tg u_sn b_ip u_ic b_ah b_be b_me u_wd b_tr b_ld u_st b_wn u_id)), (b_me, (arI G 1536 v_me))] sz)) (va_A [(b_o, (oc12 u_th u_sa b_rf b_ro b_im b_ke u_fd b_tp u_td u_fr u_to u_so u_wo u_fa u_bd u_nc b_nl u_co b_op b_ar u_le b_pi b_pa u_pd u_od b_ws b_hw u_la b_se b_re u_bk u_va u_su u_ce u_ho u_wy u_bt u_ps b_pt u_tg u_sn b_ip u_ic b_ah b_be b_me u_wd b_tr b_ld u_st b_wn u_id)), (b_me, (arI G 1536 v_me))] sz)) 0 0 (va_A [(b_o, (oc12 u_th u_sa b_rf b_ro b_im b_ke u_fd b_tp u_td u_fr u_to u_so u_wo u_fa u_bd u_nc b_nl u_co b_op b_ar u_le b_pi b_pa u_pd u_od b_ws b_hw u_la b_se b_re u_bk u_va u_su u_ce u_ho u_wy u_bt u_ps b_pt u_tg u_sn b_ip u_ic b_ah b_be b_me u_wd b_tr b_ld u_st b_wn u_id)), (b_me, (arI G 1536 v_me))] sz) := by
  refine Met.ofW (cc := cX12_step) (maxL := 5) (ret := (some .int)) (by decide +kernel) rfl ?_
  intro p e s m args below meth c s₁ B hml hv
  obtain ⟨rfl, hsz, hP, hK, hD0, hN, hT⟩ := hv
  have hx := B.exec
  have hb := B.bytes
  have hr := B.returns
  have hts : ∀ w ∈ tblG, w.before _ s = true := fun w h => atoms_spec (ws := (wsG yX12_step cX12_step 5 (some .int))) B.pre w (List.mem_cons_of_mem _ h)
  have hown : s.vm.findClass RX12 = some m.cls := findClass_of_methodNamed B.named
  have hlocks := B.notSynchronized
  subst hsz
  have hD := hD0.self (sz := s.heap.size)
  generalize hAe : va_A [(b_o, (oc12 u_th u_sa b_rf b_ro b_im b_ke u_fd b_tp u_td u_fr u_to u_so u_wo u_fa u_bd u_nc b_nl u_co b_op b_ar u_le b_pi b_pa u_pd u_od b_ws b_hw u_la b_se b_re u_bk u_va u_su u_ce u_ho u_wy u_bt u_ps b_pt u_tg u_sn b_ip u_ic b_ah b_be b_me u_wd b_tr b_ld u_st b_wn u_id)), (b_me, (arI G 1536 v_me))] s.heap.size = A at hD hT ⊢
  have hA : ∀ q : Nat, s.heap.size ≤ q → A q := fun q h => by rw [← hAe]; exact Or.inr h
  have hS : va_S A s.heap s.heap [] := va_S.rf
  replace hP : va_P G.1 vwCl [(b_o, (oc12 u_th u_sa b_rf b_ro b_im b_ke u_fd b_tp u_td u_fr u_to u_so u_wo u_fa u_bd u_nc b_nl u_co b_op b_ar u_le b_pi b_pa u_pd u_od b_ws b_hw u_la b_se b_re u_bk u_va u_su u_ce u_ho u_wy u_bt u_ps b_pt u_tg u_sn b_ip u_ic b_ah b_be b_me u_wd b_tr b_ld u_st b_wn u_id)), (b_me, (arI G 1536 v_me))] s.heap := hP
  have hl := lv_entry ([.ref b_o, .int p_1, .int p_2, .int p_3]) (n := 5) (Nat.le_of_ble_eq_true rfl)
  rw [lg_entry_eq]
  generalize (lg_sl ([.ref b_o, .int p_1, .int p_2, .int p_3]) ++ List.replicate (5 - (lg_sl ([.ref b_o, .int p_1, .int p_2, .int p_3])).length) Slot.unset).toArray = ls at hl ⊢
  replace hl : lv_has ls 5 [(0, .ref b_o), (1, .int p_1), (2, .int p_2), (3, .int p_3)] := hl
  refine lv_iload_n hx hb dX12_step_0 rfl (lv_at hl 2 rfl) ?_
  refine lv_iconst (v := 4) hx hb dX12_step_1 (by decide +kernel) ?_
  refine lv_icmp_ne (tgt := 9) hx hb dX12_step_2 (by decide +kernel) (fun c_1 => ?_) (fun c_1 => ?_)
  ·
    have n_1 : gNe (p_2.toInt) (4) := g5_ne (a := p_2.toInt) (b := 4) rfl (by decide +kernel) c_1
    have i_1 : p_2.toInt ≤ 3 := by have z := g5_ne (a := p_2.toInt) (b := 4) (by rfl) (by decide +kernel) c_1; omega
    refine lv_iload_n hx hb dX12_step_9 rfl (lv_at hl 1 rfl) ?_
    refine lv_iload_n hx hb dX12_step_10 rfl (lv_at hl 2 rfl) ?_
    obtain ⟨hPc, hDc, hFc⟩ := g5_sub3 (wc := []) hP hD hS hA [] (by decide +kernel) rfl
    refine va_calli (va_runS (As := [.int p_1, .int p_2]) (rest := []) ⟨hx, hb, hml, hown, hts⟩ (n_beside l G s.heap.size p_1 p_2 h_p_1) (va_cwS 2 hts gS_X12_374 rfl rfl rfl hs_X12_beside ⟨Nat.le_of_ble_eq_true rfl, Nat.le_of_ble_eq_true rfl⟩) (g5_preS hPc hK hDc hN hT hS hFc) rfl rfl hl.1 rfl (lv_room (Nat.le_of_ble_eq_true rfl)) dX12_step_11 ⟨Nat.le_of_ble_eq_true rfl, Nat.le_of_ble_eq_true rfl⟩) hS (fun q _ h => hFc q h) hFc (fun r u t H locs ht hvm hw hB hz1 hk1 hS => ?_)
    obtain ⟨hP1, hD1⟩ := hB
    have hP1 := g5_ht ht hP1
    obtain ⟨z3, (i_2 : -1 ≤ z3.toInt ∧ z3.toInt ≤ 63), y4, rfl⟩ := hw
    have hJ9 := g5_same hP hk1
    clear hP hPc hDc hFc ht hvm hz1 hk1 hP1 hD1
    have hP := hJ9
    clear hJ9
    refine g5_ti (v := z3) y4 ?_
    refine lv_istore (lv' := [(4, .int z3), (0, .ref b_o), (1, .int p_1), (2, .int p_2), (3, .int p_3)]) hx hb dX12_step_14 hl (by decide +kernel) rfl ?_
    clear hl
    intro ls hl
    refine lv_iload hx hb dX12_step_16 (lv_at hl 0 rfl) ?_
    refine lv_iconst (v := (-1)) hx hb dX12_step_18 (by decide +kernel) ?_
    refine lv_icmp_eq (tgt := 53) hx hb dX12_step_19 (by decide +kernel) (fun c_5 => ?_) (fun c_5 => ?_)
    ·
      have i_5 : z3.toInt = (-1) := g5_eq (a := z3.toInt) (b := (-1)) rfl (by decide +kernel) c_5
      refine lv_iconst (v := (-1)) hx hb dX12_step_53 (by decide +kernel) ?_
      exact W.iret (v := (-1)) hx hb hr (fun t ht hW => ⟨⟨(-1), [(b_o, (oc12 u_th u_sa b_rf b_ro b_im b_ke u_fd b_tp u_td u_fr u_to u_so u_wo u_fa u_bd u_nc b_nl u_co b_op b_ar u_le b_pi b_pa u_pd u_od b_ws b_hw u_la b_se b_re u_bk u_va u_su u_ce u_ho u_wy u_bt u_ps b_pt u_tg u_sn b_ip u_ic b_ah b_be b_me u_wd b_tr b_ld u_st b_wn u_id)), (b_me, (arI G 1536 v_me))], rfl, ⟨(-1), ⟨by have zc_o_r : ((-1) : Int32).toInt = (-1) := (by decide +kernel); omega, by have zc_o_r : ((-1) : Int32).toInt = (-1) := (by decide +kernel); omega⟩, Or.inl (by decide +kernel), rfl, rfl⟩, by rw [ht]; exact hP.sub [0, 1] rfl, hD.sub [0, 1] (by decide +kernel) rfl⟩, hS.F ht⟩) hS.2.2 dX12_step_54
    ·
      have n_5 : gNe (z3.toInt) ((-1)) := g5_eqN (a := z3.toInt) (b := (-1)) rfl (by decide +kernel) c_5
      have i_5 : z3.toInt ≥ 0 := by have z := g5_eqN (a := z3.toInt) (b := (-1)) (by rfl) (by decide +kernel) c_5; omega
      refine lv_aload_n hx hb dX12_step_22 rfl (lv_at hl 1 rfl) ?_
      refine va_get (D := G.1) (ci := 12) (v := .ref b_me) (C := RX12) (T := TX12) (N := 52) hx hb hts inG_X12 hown hK hP 0 rfl rfl 45 (by decide +kernel) (hts _ fl_X12_95) (fun _ h9 => h9) rfl dX12_step_23 ?_
      refine lv_bipush (v := 64) hx hb dX12_step_26 (by decide +kernel) ?_
      refine lv_iload_n hx hb dX12_step_28 rfl (lv_at hl 4 rfl) ?_
      refine lv_imul hx hb dX12_step_29 ?_
      have t_6 : (64 * p_3).toInt = 64 * p_3.toInt := g5_imul (a := 64) (b := p_3.toInt) (by decide +kernel) (by rfl) (by omega) (by omega)
      refine lv_iload hx hb dX12_step_30 (lv_at hl 0 rfl) ?_
      refine lv_if_ge (tgt := 39) hx hb dX12_step_32 (by decide +kernel) (fun c_7 => ?_) (fun c_7 => ?_)
      ·
        have i_7 : z3.toInt ≥ 0 := g5_ge (a := z3.toInt) (b := 0) rfl (by decide +kernel) c_7
        refine lv_iload hx hb dX12_step_39 (lv_at hl 0 rfl) ?_
        refine lv_iadd hx hb dX12_step_41 ?_
        have t_8 : ((64 * p_3) + z3).toInt = (64 * p_3).toInt + z3.toInt := g5_iadd (a := (64 * p_3).toInt) (b := z3.toInt) (by rfl) (by rfl) (by omega) (by omega)
        refine va_iald hx hb hK hP 1 0 rfl rfl (i := ((64 * p_3) + z3)) (vp_in_iff.mpr ⟨by omega, by omega⟩) dX12_step_42 ?_
        have hr_9 : 0 ≤ (v_me ((64 * p_3) + z3).toNatClampNeg).toInt ∧ ((v_me ((64 * p_3) + z3).toNatClampNeg).toInt < 32 ∨ 64 ≤ (v_me ((64 * p_3) + z3).toNatClampNeg).toInt) ∧ (v_me ((64 * p_3) + z3).toNatClampNeg).toInt ≤ 127 := r_me (((64 * p_3) + z3).toNatClampNeg)
        refine lv_bipush (v := 64) hx hb dX12_step_43 (by decide +kernel) ?_
        refine lv_icmp_ge (tgt := 53) hx hb dX12_step_45 (by decide +kernel) (fun c_10 => ?_) (fun c_10 => ?_)
        ·
          have i_10 : (v_me ((64 * p_3) + z3).toNatClampNeg).toInt ≥ 64 := g5_ge (a := (v_me ((64 * p_3) + z3).toNatClampNeg).toInt) (b := 64) rfl (by decide +kernel) c_10
          refine lv_iconst (v := (-1)) hx hb dX12_step_53 (by decide +kernel) ?_
          exact W.iret (v := (-1)) hx hb hr (fun t ht hW => ⟨⟨(-1), [(b_o, (oc12 u_th u_sa b_rf b_ro b_im b_ke u_fd b_tp u_td u_fr u_to u_so u_wo u_fa u_bd u_nc b_nl u_co b_op b_ar u_le b_pi b_pa u_pd u_od b_ws b_hw u_la b_se b_re u_bk u_va u_su u_ce u_ho u_wy u_bt u_ps b_pt u_tg u_sn b_ip u_ic b_ah b_be b_me u_wd b_tr b_ld u_st b_wn u_id)), (b_me, (arI G 1536 v_me))], rfl, ⟨(-1), ⟨by have zc_o_r : ((-1) : Int32).toInt = (-1) := (by decide +kernel); omega, by have zc_o_r : ((-1) : Int32).toInt = (-1) := (by decide +kernel); omega⟩, Or.inl (by decide +kernel), rfl, rfl⟩, by rw [ht]; exact hP.sub [0, 1] rfl, hD.sub [0, 1] (by decide +kernel) rfl⟩, hS.F ht⟩) hS.2.2 dX12_step_54
        ·
          have i_10 : (v_me ((64 * p_3) + z3).toNatClampNeg).toInt < 64 := g5_geN (a := (v_me ((64 * p_3) + z3).toNatClampNeg).toInt) (b := 64) rfl (by decide +kernel) c_10
          refine lv_iload hx hb dX12_step_48 (lv_at hl 0 rfl) ?_
          refine lv_goto (tgt := 54) hx hb dX12_step_50 (by decide +kernel) ?_
          exact W.iret (v := z3) hx hb hr (fun t ht hW => ⟨⟨z3, [(b_o, (oc12 u_th u_sa b_rf b_ro b_im b_ke u_fd b_tp u_td u_fr u_to u_so u_wo u_fa u_bd u_nc b_nl u_co b_op b_ar u_le b_pi b_pa u_pd u_od b_ws b_hw u_la b_se b_re u_bk u_va u_su u_ce u_ho u_wy u_bt u_ps b_pt u_tg u_sn b_ip u_ic b_ah b_be b_me u_wd b_tr b_ld u_st b_wn u_id)), (b_me, (arI G 1536 v_me))], rfl, ⟨z3, ⟨by omega, by omega⟩, Or.inr (by have e9 : (64 * p_3.toInt + z3.toInt).toNat = ((64 * p_3) + z3).toNatClampNeg := (by have zz := g5_clamp ((64 * p_3) + z3); omega); rw [e9]; exact i_10), rfl, rfl⟩, by rw [ht]; exact hP.sub [0, 1] rfl, hD.sub [0, 1] (by decide +kernel) rfl⟩, hS.F ht⟩) hS.2.2 dX12_step_54
      ·
        have i_7 : z3.toInt < 0 := g5_geN (a := z3.toInt) (b := 0) rfl (by decide +kernel) c_7
        omega
  ·
    have i_1 : p_2.toInt = 4 := g5_neN (a := p_2.toInt) (b := 4) rfl (by decide +kernel) c_1
    refine lv_iload_n hx hb dX12_step_5 rfl (lv_at hl 1 rfl) ?_
    refine lv_goto (tgt := 14) hx hb dX12_step_6 (by decide +kernel) ?_
    refine lv_istore (lv' := [(4, .int p_1), (0, .ref b_o), (1, .int p_1), (2, .int p_2), (3, .int p_3)]) hx hb dX12_step_14 hl (by decide +kernel) rfl ?_
    clear hl
    intro ls hl
    refine lv_iload hx hb dX12_step_16 (lv_at hl 0 rfl) ?_
    refine lv_iconst (v := (-1)) hx hb dX12_step_18 (by decide +kernel) ?_
    refine lv_icmp_eq (tgt := 53) hx hb dX12_step_19 (by decide +kernel) (fun c_11 => ?_) (fun c_11 => ?_)
    ·
      have i_11 : p_1.toInt = (-1) := g5_eq (a := p_1.toInt) (b := (-1)) rfl (by decide +kernel) c_11
      omega
    ·
      have n_11 : gNe (p_1.toInt) ((-1)) := g5_eqN (a := p_1.toInt) (b := (-1)) rfl (by decide +kernel) c_11
      refine lv_aload_n hx hb dX12_step_22 rfl (lv_at hl 1 rfl) ?_
      refine va_get (D := G.1) (ci := 12) (v := .ref b_me) (C := RX12) (T := TX12) (N := 52) hx hb hts inG_X12 hown hK hP 0 rfl rfl 45 (by decide +kernel) (hts _ fl_X12_95) (fun _ h9 => h9) rfl dX12_step_23 ?_
      refine lv_bipush (v := 64) hx hb dX12_step_26 (by decide +kernel) ?_
      refine lv_iload_n hx hb dX12_step_28 rfl (lv_at hl 4 rfl) ?_
      refine lv_imul hx hb dX12_step_29 ?_
      have t_12 : (64 * p_3).toInt = 64 * p_3.toInt := g5_imul (a := 64) (b := p_3.toInt) (by decide +kernel) (by rfl) (by omega) (by omega)
      refine lv_iload hx hb dX12_step_30 (lv_at hl 0 rfl) ?_
      refine lv_if_ge (tgt := 39) hx hb dX12_step_32 (by decide +kernel) (fun c_13 => ?_) (fun c_13 => ?_)
      ·
        have i_13 : p_1.toInt ≥ 0 := g5_ge (a := p_1.toInt) (b := 0) rfl (by decide +kernel) c_13
        refine lv_iload hx hb dX12_step_39 (lv_at hl 0 rfl) ?_
        refine lv_iadd hx hb dX12_step_41 ?_
        have t_14 : ((64 * p_3) + p_1).toInt = (64 * p_3).toInt + p_1.toInt := g5_iadd (a := (64 * p_3).toInt) (b := p_1.toInt) (by rfl) (by rfl) (by omega) (by omega)
        refine va_iald hx hb hK hP 1 0 rfl rfl (i := ((64 * p_3) + p_1)) (vp_in_iff.mpr ⟨by omega, by omega⟩) dX12_step_42 ?_
        have hr_15 : 0 ≤ (v_me ((64 * p_3) + p_1).toNatClampNeg).toInt ∧ ((v_me ((64 * p_3) + p_1).toNatClampNeg).toInt < 32 ∨ 64 ≤ (v_me ((64 * p_3) + p_1).toNatClampNeg).toInt) ∧ (v_me ((64 * p_3) + p_1).toNatClampNeg).toInt ≤ 127 := r_me (((64 * p_3) + p_1).toNatClampNeg)
        refine lv_bipush (v := 64) hx hb dX12_step_43 (by decide +kernel) ?_
        refine lv_icmp_ge (tgt := 53) hx hb dX12_step_45 (by decide +kernel) (fun c_16 => ?_) (fun c_16 => ?_)
        ·
          have i_16 : (v_me ((64 * p_3) + p_1).toNatClampNeg).toInt ≥ 64 := g5_ge (a := (v_me ((64 * p_3) + p_1).toNatClampNeg).toInt) (b := 64) rfl (by decide +kernel) c_16
          refine lv_iconst (v := (-1)) hx hb dX12_step_53 (by decide +kernel) ?_
          exact W.iret (v := (-1)) hx hb hr (fun t ht hW => ⟨⟨(-1), [(b_o, (oc12 u_th u_sa b_rf b_ro b_im b_ke u_fd b_tp u_td u_fr u_to u_so u_wo u_fa u_bd u_nc b_nl u_co b_op b_ar u_le b_pi b_pa u_pd u_od b_ws b_hw u_la b_se b_re u_bk u_va u_su u_ce u_ho u_wy u_bt u_ps b_pt u_tg u_sn b_ip u_ic b_ah b_be b_me u_wd b_tr b_ld u_st b_wn u_id)), (b_me, (arI G 1536 v_me))], rfl, ⟨(-1), ⟨by have zc_o_r : ((-1) : Int32).toInt = (-1) := (by decide +kernel); omega, by have zc_o_r : ((-1) : Int32).toInt = (-1) := (by decide +kernel); omega⟩, Or.inl (by decide +kernel), rfl, rfl⟩, by rw [ht]; exact hP.sub [0, 1] rfl, hD.sub [0, 1] (by decide +kernel) rfl⟩, hS.F ht⟩) hS.2.2 dX12_step_54
        ·
          have i_16 : (v_me ((64 * p_3) + p_1).toNatClampNeg).toInt < 64 := g5_geN (a := (v_me ((64 * p_3) + p_1).toNatClampNeg).toInt) (b := 64) rfl (by decide +kernel) c_16
          refine lv_iload hx hb dX12_step_48 (lv_at hl 0 rfl) ?_
          refine lv_goto (tgt := 54) hx hb dX12_step_50 (by decide +kernel) ?_
          exact W.iret (v := p_1) hx hb hr (fun t ht hW => ⟨⟨p_1, [(b_o, (oc12 u_th u_sa b_rf b_ro b_im b_ke u_fd b_tp u_td u_fr u_to u_so u_wo u_fa u_bd u_nc b_nl u_co b_op b_ar u_le b_pi b_pa u_pd u_od b_ws b_hw u_la b_se b_re u_bk u_va u_su u_ce u_ho u_wy u_bt u_ps b_pt u_tg u_sn b_ip u_ic b_ah b_be b_me u_wd b_tr b_ld u_st b_wn u_id)), (b_me, (arI G 1536 v_me))], rfl, ⟨p_1, ⟨by omega, by omega⟩, Or.inr (by have e9 : (64 * p_3.toInt + p_1.toInt).toNat = ((64 * p_3) + p_1).toNatClampNeg := (by have zz := g5_clamp ((64 * p_3) + p_1); omega); rw [e9]; exact i_16), rfl, rfl⟩, by rw [ht]; exact hP.sub [0, 1] rfl, hD.sub [0, 1] (by decide +kernel) rfl⟩, hS.F ht⟩) hS.2.2 dX12_step_54
      ·
        have i_13 : p_1.toInt < 0 := g5_geN (a := p_1.toInt) (b := 0) rfl (by decide +kernel) c_13
        omega
theorem dgX12_goesOn_0 : ∀ r ∈ ([(0, (.iconst 0, 1)), (1, (.istore_n 3, 1)), (2, (.iload_n 3, 1)), (3, (.iconst 5, 1)), (4, (.if_icmp .ge 97, 3)), (7, (.aload_n 0, 1)), (8, (.iload_n 2, 1)), (9, (.iload_n 3, 1)), (10, (.iload_n 1, 1)), (11, (.iconst 1, 1)), (12, (.iadd, 1)), (13, (.invokevirtual 437, 3)), (16, (.istore 4, 2)), (18, (.iconst 0, 1)), (19, (.istore 5, 2)), (21, (.iload 5, 2)), (23, (.bipush 32, 2)), (25, (.if_icmp .ge 70, 3)), (28, (.iload 4, 2)), (30, (.iconst (-1), 1)), (31, (.if_icmp .eq 64, 3)), (34, (.aload_n 0, 1)), (35, (.getfield 89, 3)), (38, (.bipush 32, 2)), (40, (.bipush 64, 2)), (42, (.iload_n 1, 1)), (43, (.iconst 1, 1)), (44, (.iadd, 1)), (45, (.imul, 1)), (46, (.iload 4, 2)), (48, (.iadd, 1)), (49, (.imul, 1)), (50, (.iload 5, 2)), (52, (.aload_n 0, 1)), (53, (.getfield 95, 3)), (56, (.bipush 64, 2)), (58, (.iload_n 1, 1)), (59, (.iconst 1, 1)), (60, (.iadd, 1)), (61, (.imul, 1))] : List (Nat × (Instr × Nat))), decode cX12_goesOn r.1 = .ok r.2 := by decide +kernel
theorem dX12_goesOn_0 : decode cX12_goesOn 0 = .ok (.iconst 0, 1) := dgX12_goesOn_0 (0, (.iconst 0, 1)) (List.mem_of_getElem? (i := 0) rfl)
theorem dX12_goesOn_1 : decode cX12_goesOn 1 = .ok (.istore_n 3, 1) := dgX12_goesOn_0 (1, (.istore_n 3, 1)) (List.mem_of_getElem? (i := 1) rfl)
theorem dX12_goesOn_2 : decode cX12_goesOn 2 = .ok (.iload_n 3, 1) := dgX12_goesOn_0 (2, (.iload_n 3, 1)) (List.mem_of_getElem? (i := 2) rfl)
theorem dX12_goesOn_3 : decode cX12_goesOn 3 = .ok (.iconst 5, 1) := dgX12_goesOn_0 (3, (.iconst 5, 1)) (List.mem_of_getElem? (i := 3) rfl)
theorem dX12_goesOn_4 : decode cX12_goesOn 4 = .ok (.if_icmp .ge 97, 3) := dgX12_goesOn_0 (4, (.if_icmp .ge 97, 3)) (List.mem_of_getElem? (i := 4) rfl)
theorem dX12_goesOn_7 : decode cX12_goesOn 7 = .ok (.aload_n 0, 1) := dgX12_goesOn_0 (7, (.aload_n 0, 1)) (List.mem_of_getElem? (i := 5) rfl)
theorem dX12_goesOn_8 : decode cX12_goesOn 8 = .ok (.iload_n 2, 1) := dgX12_goesOn_0 (8, (.iload_n 2, 1)) (List.mem_of_getElem? (i := 6) rfl)
theorem dX12_goesOn_9 : decode cX12_goesOn 9 = .ok (.iload_n 3, 1) := dgX12_goesOn_0 (9, (.iload_n 3, 1)) (List.mem_of_getElem? (i := 7) rfl)
theorem dX12_goesOn_10 : decode cX12_goesOn 10 = .ok (.iload_n 1, 1) := dgX12_goesOn_0 (10, (.iload_n 1, 1)) (List.mem_of_getElem? (i := 8) rfl)
theorem dX12_goesOn_11 : decode cX12_goesOn 11 = .ok (.iconst 1, 1) := dgX12_goesOn_0 (11, (.iconst 1, 1)) (List.mem_of_getElem? (i := 9) rfl)
theorem dX12_goesOn_12 : decode cX12_goesOn 12 = .ok (.iadd, 1) := dgX12_goesOn_0 (12, (.iadd, 1)) (List.mem_of_getElem? (i := 10) rfl)
theorem dX12_goesOn_13 : decode cX12_goesOn 13 = .ok (.invokevirtual 437, 3) := dgX12_goesOn_0 (13, (.invokevirtual 437, 3)) (List.mem_of_getElem? (i := 11) rfl)
theorem dX12_goesOn_16 : decode cX12_goesOn 16 = .ok (.istore 4, 2) := dgX12_goesOn_0 (16, (.istore 4, 2)) (List.mem_of_getElem? (i := 12) rfl)
theorem dX12_goesOn_18 : decode cX12_goesOn 18 = .ok (.iconst 0, 1) := dgX12_goesOn_0 (18, (.iconst 0, 1)) (List.mem_of_getElem? (i := 13) rfl)
theorem dX12_goesOn_19 : decode cX12_goesOn 19 = .ok (.istore 5, 2) := dgX12_goesOn_0 (19, (.istore 5, 2)) (List.mem_of_getElem? (i := 14) rfl)
theorem dX12_goesOn_21 : decode cX12_goesOn 21 = .ok (.iload 5, 2) := dgX12_goesOn_0 (21, (.iload 5, 2)) (List.mem_of_getElem? (i := 15) rfl)
theorem dX12_goesOn_23 : decode cX12_goesOn 23 = .ok (.bipush 32, 2) := dgX12_goesOn_0 (23, (.bipush 32, 2)) (List.mem_of_getElem? (i := 16) rfl)
theorem dX12_goesOn_25 : decode cX12_goesOn 25 = .ok (.if_icmp .ge 70, 3) := dgX12_goesOn_0 (25, (.if_icmp .ge 70, 3)) (List.mem_of_getElem? (i := 17) rfl)
theorem dX12_goesOn_28 : decode cX12_goesOn 28 = .ok (.iload 4, 2) := dgX12_goesOn_0 (28, (.iload 4, 2)) (List.mem_of_getElem? (i := 18) rfl)
theorem dX12_goesOn_30 : decode cX12_goesOn 30 = .ok (.iconst (-1), 1) := dgX12_goesOn_0 (30, (.iconst (-1), 1)) (List.mem_of_getElem? (i := 19) rfl)
theorem dX12_goesOn_31 : decode cX12_goesOn 31 = .ok (.if_icmp .eq 64, 3) := dgX12_goesOn_0 (31, (.if_icmp .eq 64, 3)) (List.mem_of_getElem? (i := 20) rfl)
theorem dX12_goesOn_34 : decode cX12_goesOn 34 = .ok (.aload_n 0, 1) := dgX12_goesOn_0 (34, (.aload_n 0, 1)) (List.mem_of_getElem? (i := 21) rfl)
theorem dX12_goesOn_35 : decode cX12_goesOn 35 = .ok (.getfield 89, 3) := dgX12_goesOn_0 (35, (.getfield 89, 3)) (List.mem_of_getElem? (i := 22) rfl)
theorem dX12_goesOn_38 : decode cX12_goesOn 38 = .ok (.bipush 32, 2) := dgX12_goesOn_0 (38, (.bipush 32, 2)) (List.mem_of_getElem? (i := 23) rfl)
theorem dX12_goesOn_40 : decode cX12_goesOn 40 = .ok (.bipush 64, 2) := dgX12_goesOn_0 (40, (.bipush 64, 2)) (List.mem_of_getElem? (i := 24) rfl)
theorem dX12_goesOn_42 : decode cX12_goesOn 42 = .ok (.iload_n 1, 1) := dgX12_goesOn_0 (42, (.iload_n 1, 1)) (List.mem_of_getElem? (i := 25) rfl)
theorem dX12_goesOn_43 : decode cX12_goesOn 43 = .ok (.iconst 1, 1) := dgX12_goesOn_0 (43, (.iconst 1, 1)) (List.mem_of_getElem? (i := 26) rfl)
theorem dX12_goesOn_44 : decode cX12_goesOn 44 = .ok (.iadd, 1) := dgX12_goesOn_0 (44, (.iadd, 1)) (List.mem_of_getElem? (i := 27) rfl)
theorem dX12_goesOn_45 : decode cX12_goesOn 45 = .ok (.imul, 1) := dgX12_goesOn_0 (45, (.imul, 1)) (List.mem_of_getElem? (i := 28) rfl)
theorem dX12_goesOn_46 : decode cX12_goesOn 46 = .ok (.iload 4, 2) := dgX12_goesOn_0 (46, (.iload 4, 2)) (List.mem_of_getElem? (i := 29) rfl)
theorem dX12_goesOn_48 : decode cX12_goesOn 48 = .ok (.iadd, 1) := dgX12_goesOn_0 (48, (.iadd, 1)) (List.mem_of_getElem? (i := 30) rfl)
theorem dX12_goesOn_49 : decode cX12_goesOn 49 = .ok (.imul, 1) := dgX12_goesOn_0 (49, (.imul, 1)) (List.mem_of_getElem? (i := 31) rfl)
theorem dX12_goesOn_50 : decode cX12_goesOn 50 = .ok (.iload 5, 2) := dgX12_goesOn_0 (50, (.iload 5, 2)) (List.mem_of_getElem? (i := 32) rfl)
theorem dX12_goesOn_52 : decode cX12_goesOn 52 = .ok (.aload_n 0, 1) := dgX12_goesOn_0 (52, (.aload_n 0, 1)) (List.mem_of_getElem? (i := 33) rfl)
theorem dX12_goesOn_53 : decode cX12_goesOn 53 = .ok (.getfield 95, 3) := dgX12_goesOn_0 (53, (.getfield 95, 3)) (List.mem_of_getElem? (i := 34) rfl)
theorem dX12_goesOn_56 : decode cX12_goesOn 56 = .ok (.bipush 64, 2) := dgX12_goesOn_0 (56, (.bipush 64, 2)) (List.mem_of_getElem? (i := 35) rfl)
theorem dX12_goesOn_58 : decode cX12_goesOn 58 = .ok (.iload_n 1, 1) := dgX12_goesOn_0 (58, (.iload_n 1, 1)) (List.mem_of_getElem? (i := 36) rfl)
theorem dX12_goesOn_59 : decode cX12_goesOn 59 = .ok (.iconst 1, 1) := dgX12_goesOn_0 (59, (.iconst 1, 1)) (List.mem_of_getElem? (i := 37) rfl)
theorem dX12_goesOn_60 : decode cX12_goesOn 60 = .ok (.iadd, 1) := dgX12_goesOn_0 (60, (.iadd, 1)) (List.mem_of_getElem? (i := 38) rfl)
theorem dX12_goesOn_61 : decode cX12_goesOn 61 = .ok (.imul, 1) := dgX12_goesOn_0 (61, (.imul, 1)) (List.mem_of_getElem? (i := 39) rfl)
theorem dgX12_goesOn_1 : ∀ r ∈ ([(62, (.iload 4, 2)), (64, (.iadd, 1)), (65, (.iaload, 1)), (66, (.ior, 1)), (67, (.iadd, 1)), (68, (.dup2, 1)), (69, (.laload, 1)), (70, (.aload_n 0, 1)), (71, (.getfield 89, 3)), (74, (.bipush 32, 2)), (76, (.bipush 64, 2)), (78, (.iload_n 1, 1)), (79, (.imul, 1)), (80, (.iload_n 2, 1)), (81, (.iadd, 1)), (82, (.imul, 1)), (83, (.iload 5, 2)), (85, (.iadd, 1)), (86, (.laload, 1)), (87, (.ladd, 1)), (88, (.lastore, 1)), (89, (.iinc 5 1, 3)), (92, (.goto (-71), 3)), (95, (.iinc 3 1, 3)), (98, (.goto (-96), 3)), (101, (.return_, 1))] : List (Nat × (Instr × Nat))), decode cX12_goesOn r.1 = .ok r.2 := by decide +kernel
theorem dX12_goesOn_62 : decode cX12_goesOn 62 = .ok (.iload 4, 2) := dgX12_goesOn_1 (62, (.iload 4, 2)) (List.mem_of_getElem? (i := 0) rfl)
theorem dX12_goesOn_64 : decode cX12_goesOn 64 = .ok (.iadd, 1) := dgX12_goesOn_1 (64, (.iadd, 1)) (List.mem_of_getElem? (i := 1) rfl)
theorem dX12_goesOn_65 : decode cX12_goesOn 65 = .ok (.iaload, 1) := dgX12_goesOn_1 (65, (.iaload, 1)) (List.mem_of_getElem? (i := 2) rfl)
theorem dX12_goesOn_66 : decode cX12_goesOn 66 = .ok (.ior, 1) := dgX12_goesOn_1 (66, (.ior, 1)) (List.mem_of_getElem? (i := 3) rfl)
theorem dX12_goesOn_67 : decode cX12_goesOn 67 = .ok (.iadd, 1) := dgX12_goesOn_1 (67, (.iadd, 1)) (List.mem_of_getElem? (i := 4) rfl)
theorem dX12_goesOn_68 : decode cX12_goesOn 68 = .ok (.dup2, 1) := dgX12_goesOn_1 (68, (.dup2, 1)) (List.mem_of_getElem? (i := 5) rfl)
theorem dX12_goesOn_69 : decode cX12_goesOn 69 = .ok (.laload, 1) := dgX12_goesOn_1 (69, (.laload, 1)) (List.mem_of_getElem? (i := 6) rfl)
theorem dX12_goesOn_70 : decode cX12_goesOn 70 = .ok (.aload_n 0, 1) := dgX12_goesOn_1 (70, (.aload_n 0, 1)) (List.mem_of_getElem? (i := 7) rfl)
theorem dX12_goesOn_71 : decode cX12_goesOn 71 = .ok (.getfield 89, 3) := dgX12_goesOn_1 (71, (.getfield 89, 3)) (List.mem_of_getElem? (i := 8) rfl)
theorem dX12_goesOn_74 : decode cX12_goesOn 74 = .ok (.bipush 32, 2) := dgX12_goesOn_1 (74, (.bipush 32, 2)) (List.mem_of_getElem? (i := 9) rfl)
theorem dX12_goesOn_76 : decode cX12_goesOn 76 = .ok (.bipush 64, 2) := dgX12_goesOn_1 (76, (.bipush 64, 2)) (List.mem_of_getElem? (i := 10) rfl)
theorem dX12_goesOn_78 : decode cX12_goesOn 78 = .ok (.iload_n 1, 1) := dgX12_goesOn_1 (78, (.iload_n 1, 1)) (List.mem_of_getElem? (i := 11) rfl)
theorem dX12_goesOn_79 : decode cX12_goesOn 79 = .ok (.imul, 1) := dgX12_goesOn_1 (79, (.imul, 1)) (List.mem_of_getElem? (i := 12) rfl)
theorem dX12_goesOn_80 : decode cX12_goesOn 80 = .ok (.iload_n 2, 1) := dgX12_goesOn_1 (80, (.iload_n 2, 1)) (List.mem_of_getElem? (i := 13) rfl)
theorem dX12_goesOn_81 : decode cX12_goesOn 81 = .ok (.iadd, 1) := dgX12_goesOn_1 (81, (.iadd, 1)) (List.mem_of_getElem? (i := 14) rfl)
theorem dX12_goesOn_82 : decode cX12_goesOn 82 = .ok (.imul, 1) := dgX12_goesOn_1 (82, (.imul, 1)) (List.mem_of_getElem? (i := 15) rfl)
theorem dX12_goesOn_83 : decode cX12_goesOn 83 = .ok (.iload 5, 2) := dgX12_goesOn_1 (83, (.iload 5, 2)) (List.mem_of_getElem? (i := 16) rfl)
theorem dX12_goesOn_85 : decode cX12_goesOn 85 = .ok (.iadd, 1) := dgX12_goesOn_1 (85, (.iadd, 1)) (List.mem_of_getElem? (i := 17) rfl)
theorem dX12_goesOn_86 : decode cX12_goesOn 86 = .ok (.laload, 1) := dgX12_goesOn_1 (86, (.laload, 1)) (List.mem_of_getElem? (i := 18) rfl)
theorem dX12_goesOn_87 : decode cX12_goesOn 87 = .ok (.ladd, 1) := dgX12_goesOn_1 (87, (.ladd, 1)) (List.mem_of_getElem? (i := 19) rfl)
theorem dX12_goesOn_88 : decode cX12_goesOn 88 = .ok (.lastore, 1) := dgX12_goesOn_1 (88, (.lastore, 1)) (List.mem_of_getElem? (i := 20) rfl)
theorem dX12_goesOn_89 : decode cX12_goesOn 89 = .ok (.iinc 5 1, 3) := dgX12_goesOn_1 (89, (.iinc 5 1, 3)) (List.mem_of_getElem? (i := 21) rfl)
theorem dX12_goesOn_92 : decode cX12_goesOn 92 = .ok (.goto (-71), 3) := dgX12_goesOn_1 (92, (.goto (-71), 3)) (List.mem_of_getElem? (i := 22) rfl)
theorem dX12_goesOn_95 : decode cX12_goesOn 95 = .ok (.iinc 3 1, 3) := dgX12_goesOn_1 (95, (.iinc 3 1, 3)) (List.mem_of_getElem? (i := 23) rfl)
theorem dX12_goesOn_98 : decode cX12_goesOn 98 = .ok (.goto (-96), 3) := dgX12_goesOn_1 (98, (.goto (-96), 3)) (List.mem_of_getElem? (i := 24) rfl)
theorem dX12_goesOn_101 : decode cX12_goesOn 101 = .ok (.return_, 1) := dgX12_goesOn_1 (101, (.return_, 1)) (List.mem_of_getElem? (i := 25) rfl)
theorem ml_X12_437 : Cond.methodLink RX12 437 yX12_step ∈ tblG := tg 1728 (by decide +kernel) (by decide +kernel)
theorem im_X12_step : Cond.instanceMethod yX12_step ∈ tblG := tg 1730 (by decide +kernel) (by decide +kernel)
theorem se_X12_step : Cond.selects RX12 yX12_step yX12_step ∈ tblG := tg 79 (by decide +kernel) (by decide +kernel)
theorem cd_X12_step : Cond.code yX12_step cX12_step 5 (some .int) ∈ tblG := tg 1731 (by decide +kernel) (by decide +kernel)
theorem gW_X12_step : GoodIn tblG (wsG yX12_step cX12_step 5 (some .int)) := tgi cd_X12_step
theorem gV_X12_437 : GoodIn tblG (wsV RX12 437 RX12 yX12_step (wsG yX12_step cX12_step 5 (some .int))) := tgV ml_X12_437 im_X12_step se_X12_step ini_X12 gW_X12_step
theorem hv_X12_step : yX12_step.cls = RX12 ∧ yX12_step.cls ≠ "java/lang/invoke/MethodHandle" ∧ yX12_step.cls ≠ "java/lang/invoke/VarHandle" ∧ (parseMethodDescriptor yX12_step.desc).map (fun d => d.parameters.length) = some 3 := by decide +kernel
theorem fl_X12_89 : Cond.fieldLink RX12 89 "LateGlassModel" "ahead" "[J" ∈ tblG := tg 1246 (by decide +kernel) (by decide +kernel)
theorem dgX12_comesFrom_0 : ∀ r ∈ ([(0, (.iconst 0, 1)), (1, (.istore_n 3, 1)), (2, (.iload_n 3, 1)), (3, (.iconst 5, 1)), (4, (.if_icmp .ge 97, 3)), (7, (.aload_n 0, 1)), (8, (.iload_n 2, 1)), (9, (.iload_n 3, 1)), (10, (.iload_n 1, 1)), (11, (.iconst 1, 1)), (12, (.iadd, 1)), (13, (.invokevirtual 437, 3)), (16, (.istore 4, 2)), (18, (.iconst 0, 1)), (19, (.istore 5, 2)), (21, (.iload 5, 2)), (23, (.bipush 32, 2)), (25, (.if_icmp .ge 70, 3)), (28, (.iload 4, 2)), (30, (.iconst (-1), 1)), (31, (.if_icmp .eq 64, 3)), (34, (.aload_n 0, 1)), (35, (.getfield 92, 3)), (38, (.bipush 32, 2)), (40, (.bipush 64, 2)), (42, (.iload_n 1, 1)), (43, (.imul, 1)), (44, (.iload_n 2, 1)), (45, (.iadd, 1)), (46, (.imul, 1)), (47, (.iload 5, 2)), (49, (.iadd, 1)), (50, (.dup2, 1)), (51, (.laload, 1)), (52, (.aload_n 0, 1)), (53, (.getfield 92, 3)), (56, (.bipush 32, 2)), (58, (.bipush 64, 2)), (60, (.iload_n 1, 1)), (61, (.iconst 1, 1))] : List (Nat × (Instr × Nat))), decode cX12_comesFrom r.1 = .ok r.2 := by decide +kernel
theorem dX12_comesFrom_0 : decode cX12_comesFrom 0 = .ok (.iconst 0, 1) := dgX12_comesFrom_0 (0, (.iconst 0, 1)) (List.mem_of_getElem? (i := 0) rfl)
theorem dX12_comesFrom_1 : decode cX12_comesFrom 1 = .ok (.istore_n 3, 1) := dgX12_comesFrom_0 (1, (.istore_n 3, 1)) (List.mem_of_getElem? (i := 1) rfl)
theorem dX12_comesFrom_2 : decode cX12_comesFrom 2 = .ok (.iload_n 3, 1) := dgX12_comesFrom_0 (2, (.iload_n 3, 1)) (List.mem_of_getElem? (i := 2) rfl)
theorem dX12_comesFrom_3 : decode cX12_comesFrom 3 = .ok (.iconst 5, 1) := dgX12_comesFrom_0 (3, (.iconst 5, 1)) (List.mem_of_getElem? (i := 3) rfl)
theorem dX12_comesFrom_4 : decode cX12_comesFrom 4 = .ok (.if_icmp .ge 97, 3) := dgX12_comesFrom_0 (4, (.if_icmp .ge 97, 3)) (List.mem_of_getElem? (i := 4) rfl)
theorem dX12_comesFrom_7 : decode cX12_comesFrom 7 = .ok (.aload_n 0, 1) := dgX12_comesFrom_0 (7, (.aload_n 0, 1)) (List.mem_of_getElem? (i := 5) rfl)
theorem dX12_comesFrom_8 : decode cX12_comesFrom 8 = .ok (.iload_n 2, 1) := dgX12_comesFrom_0 (8, (.iload_n 2, 1)) (List.mem_of_getElem? (i := 6) rfl)
theorem dX12_comesFrom_9 : decode cX12_comesFrom 9 = .ok (.iload_n 3, 1) := dgX12_comesFrom_0 (9, (.iload_n 3, 1)) (List.mem_of_getElem? (i := 7) rfl)
theorem dX12_comesFrom_10 : decode cX12_comesFrom 10 = .ok (.iload_n 1, 1) := dgX12_comesFrom_0 (10, (.iload_n 1, 1)) (List.mem_of_getElem? (i := 8) rfl)
theorem dX12_comesFrom_11 : decode cX12_comesFrom 11 = .ok (.iconst 1, 1) := dgX12_comesFrom_0 (11, (.iconst 1, 1)) (List.mem_of_getElem? (i := 9) rfl)
theorem dX12_comesFrom_12 : decode cX12_comesFrom 12 = .ok (.iadd, 1) := dgX12_comesFrom_0 (12, (.iadd, 1)) (List.mem_of_getElem? (i := 10) rfl)
theorem dX12_comesFrom_13 : decode cX12_comesFrom 13 = .ok (.invokevirtual 437, 3) := dgX12_comesFrom_0 (13, (.invokevirtual 437, 3)) (List.mem_of_getElem? (i := 11) rfl)
theorem dX12_comesFrom_16 : decode cX12_comesFrom 16 = .ok (.istore 4, 2) := dgX12_comesFrom_0 (16, (.istore 4, 2)) (List.mem_of_getElem? (i := 12) rfl)
theorem dX12_comesFrom_18 : decode cX12_comesFrom 18 = .ok (.iconst 0, 1) := dgX12_comesFrom_0 (18, (.iconst 0, 1)) (List.mem_of_getElem? (i := 13) rfl)
theorem dX12_comesFrom_19 : decode cX12_comesFrom 19 = .ok (.istore 5, 2) := dgX12_comesFrom_0 (19, (.istore 5, 2)) (List.mem_of_getElem? (i := 14) rfl)
theorem dX12_comesFrom_21 : decode cX12_comesFrom 21 = .ok (.iload 5, 2) := dgX12_comesFrom_0 (21, (.iload 5, 2)) (List.mem_of_getElem? (i := 15) rfl)
theorem dX12_comesFrom_23 : decode cX12_comesFrom 23 = .ok (.bipush 32, 2) := dgX12_comesFrom_0 (23, (.bipush 32, 2)) (List.mem_of_getElem? (i := 16) rfl)
theorem dX12_comesFrom_25 : decode cX12_comesFrom 25 = .ok (.if_icmp .ge 70, 3) := dgX12_comesFrom_0 (25, (.if_icmp .ge 70, 3)) (List.mem_of_getElem? (i := 17) rfl)
theorem dX12_comesFrom_28 : decode cX12_comesFrom 28 = .ok (.iload 4, 2) := dgX12_comesFrom_0 (28, (.iload 4, 2)) (List.mem_of_getElem? (i := 18) rfl)
theorem dX12_comesFrom_30 : decode cX12_comesFrom 30 = .ok (.iconst (-1), 1) := dgX12_comesFrom_0 (30, (.iconst (-1), 1)) (List.mem_of_getElem? (i := 19) rfl)
theorem dX12_comesFrom_31 : decode cX12_comesFrom 31 = .ok (.if_icmp .eq 64, 3) := dgX12_comesFrom_0 (31, (.if_icmp .eq 64, 3)) (List.mem_of_getElem? (i := 20) rfl)
theorem dX12_comesFrom_34 : decode cX12_comesFrom 34 = .ok (.aload_n 0, 1) := dgX12_comesFrom_0 (34, (.aload_n 0, 1)) (List.mem_of_getElem? (i := 21) rfl)
theorem dX12_comesFrom_35 : decode cX12_comesFrom 35 = .ok (.getfield 92, 3) := dgX12_comesFrom_0 (35, (.getfield 92, 3)) (List.mem_of_getElem? (i := 22) rfl)
theorem dX12_comesFrom_38 : decode cX12_comesFrom 38 = .ok (.bipush 32, 2) := dgX12_comesFrom_0 (38, (.bipush 32, 2)) (List.mem_of_getElem? (i := 23) rfl)
theorem dX12_comesFrom_40 : decode cX12_comesFrom 40 = .ok (.bipush 64, 2) := dgX12_comesFrom_0 (40, (.bipush 64, 2)) (List.mem_of_getElem? (i := 24) rfl)
theorem dX12_comesFrom_42 : decode cX12_comesFrom 42 = .ok (.iload_n 1, 1) := dgX12_comesFrom_0 (42, (.iload_n 1, 1)) (List.mem_of_getElem? (i := 25) rfl)
theorem dX12_comesFrom_43 : decode cX12_comesFrom 43 = .ok (.imul, 1) := dgX12_comesFrom_0 (43, (.imul, 1)) (List.mem_of_getElem? (i := 26) rfl)
theorem dX12_comesFrom_44 : decode cX12_comesFrom 44 = .ok (.iload_n 2, 1) := dgX12_comesFrom_0 (44, (.iload_n 2, 1)) (List.mem_of_getElem? (i := 27) rfl)
theorem dX12_comesFrom_45 : decode cX12_comesFrom 45 = .ok (.iadd, 1) := dgX12_comesFrom_0 (45, (.iadd, 1)) (List.mem_of_getElem? (i := 28) rfl)
theorem dX12_comesFrom_46 : decode cX12_comesFrom 46 = .ok (.imul, 1) := dgX12_comesFrom_0 (46, (.imul, 1)) (List.mem_of_getElem? (i := 29) rfl)
theorem dX12_comesFrom_47 : decode cX12_comesFrom 47 = .ok (.iload 5, 2) := dgX12_comesFrom_0 (47, (.iload 5, 2)) (List.mem_of_getElem? (i := 30) rfl)
theorem dX12_comesFrom_49 : decode cX12_comesFrom 49 = .ok (.iadd, 1) := dgX12_comesFrom_0 (49, (.iadd, 1)) (List.mem_of_getElem? (i := 31) rfl)
theorem dX12_comesFrom_50 : decode cX12_comesFrom 50 = .ok (.dup2, 1) := dgX12_comesFrom_0 (50, (.dup2, 1)) (List.mem_of_getElem? (i := 32) rfl)
theorem dX12_comesFrom_51 : decode cX12_comesFrom 51 = .ok (.laload, 1) := dgX12_comesFrom_0 (51, (.laload, 1)) (List.mem_of_getElem? (i := 33) rfl)
theorem dX12_comesFrom_52 : decode cX12_comesFrom 52 = .ok (.aload_n 0, 1) := dgX12_comesFrom_0 (52, (.aload_n 0, 1)) (List.mem_of_getElem? (i := 34) rfl)
theorem dX12_comesFrom_53 : decode cX12_comesFrom 53 = .ok (.getfield 92, 3) := dgX12_comesFrom_0 (53, (.getfield 92, 3)) (List.mem_of_getElem? (i := 35) rfl)
theorem dX12_comesFrom_56 : decode cX12_comesFrom 56 = .ok (.bipush 32, 2) := dgX12_comesFrom_0 (56, (.bipush 32, 2)) (List.mem_of_getElem? (i := 36) rfl)
theorem dX12_comesFrom_58 : decode cX12_comesFrom 58 = .ok (.bipush 64, 2) := dgX12_comesFrom_0 (58, (.bipush 64, 2)) (List.mem_of_getElem? (i := 37) rfl)
theorem dX12_comesFrom_60 : decode cX12_comesFrom 60 = .ok (.iload_n 1, 1) := dgX12_comesFrom_0 (60, (.iload_n 1, 1)) (List.mem_of_getElem? (i := 38) rfl)
theorem dX12_comesFrom_61 : decode cX12_comesFrom 61 = .ok (.iconst 1, 1) := dgX12_comesFrom_0 (61, (.iconst 1, 1)) (List.mem_of_getElem? (i := 39) rfl)
theorem dgX12_comesFrom_1 : ∀ r ∈ ([(62, (.iadd, 1)), (63, (.imul, 1)), (64, (.iload 4, 2)), (66, (.iadd, 1)), (67, (.imul, 1)), (68, (.iload 5, 2)), (70, (.aload_n 0, 1)), (71, (.getfield 95, 3)), (74, (.bipush 64, 2)), (76, (.iload_n 1, 1)), (77, (.iconst 1, 1)), (78, (.iadd, 1)), (79, (.imul, 1)), (80, (.iload 4, 2)), (82, (.iadd, 1)), (83, (.iaload, 1)), (84, (.ior, 1)), (85, (.iadd, 1)), (86, (.laload, 1)), (87, (.ladd, 1)), (88, (.lastore, 1)), (89, (.iinc 5 1, 3)), (92, (.goto (-71), 3)), (95, (.iinc 3 1, 3)), (98, (.goto (-96), 3)), (101, (.return_, 1))] : List (Nat × (Instr × Nat))), decode cX12_comesFrom r.1 = .ok r.2 := by decide +kernel
theorem dX12_comesFrom_62 : decode cX12_comesFrom 62 = .ok (.iadd, 1) := dgX12_comesFrom_1 (62, (.iadd, 1)) (List.mem_of_getElem? (i := 0) rfl)
theorem dX12_comesFrom_63 : decode cX12_comesFrom 63 = .ok (.imul, 1) := dgX12_comesFrom_1 (63, (.imul, 1)) (List.mem_of_getElem? (i := 1) rfl)
theorem dX12_comesFrom_64 : decode cX12_comesFrom 64 = .ok (.iload 4, 2) := dgX12_comesFrom_1 (64, (.iload 4, 2)) (List.mem_of_getElem? (i := 2) rfl)
theorem dX12_comesFrom_66 : decode cX12_comesFrom 66 = .ok (.iadd, 1) := dgX12_comesFrom_1 (66, (.iadd, 1)) (List.mem_of_getElem? (i := 3) rfl)
theorem dX12_comesFrom_67 : decode cX12_comesFrom 67 = .ok (.imul, 1) := dgX12_comesFrom_1 (67, (.imul, 1)) (List.mem_of_getElem? (i := 4) rfl)
theorem dX12_comesFrom_68 : decode cX12_comesFrom 68 = .ok (.iload 5, 2) := dgX12_comesFrom_1 (68, (.iload 5, 2)) (List.mem_of_getElem? (i := 5) rfl)
theorem dX12_comesFrom_70 : decode cX12_comesFrom 70 = .ok (.aload_n 0, 1) := dgX12_comesFrom_1 (70, (.aload_n 0, 1)) (List.mem_of_getElem? (i := 6) rfl)
theorem dX12_comesFrom_71 : decode cX12_comesFrom 71 = .ok (.getfield 95, 3) := dgX12_comesFrom_1 (71, (.getfield 95, 3)) (List.mem_of_getElem? (i := 7) rfl)
theorem dX12_comesFrom_74 : decode cX12_comesFrom 74 = .ok (.bipush 64, 2) := dgX12_comesFrom_1 (74, (.bipush 64, 2)) (List.mem_of_getElem? (i := 8) rfl)
theorem dX12_comesFrom_76 : decode cX12_comesFrom 76 = .ok (.iload_n 1, 1) := dgX12_comesFrom_1 (76, (.iload_n 1, 1)) (List.mem_of_getElem? (i := 9) rfl)
theorem dX12_comesFrom_77 : decode cX12_comesFrom 77 = .ok (.iconst 1, 1) := dgX12_comesFrom_1 (77, (.iconst 1, 1)) (List.mem_of_getElem? (i := 10) rfl)
theorem dX12_comesFrom_78 : decode cX12_comesFrom 78 = .ok (.iadd, 1) := dgX12_comesFrom_1 (78, (.iadd, 1)) (List.mem_of_getElem? (i := 11) rfl)
theorem dX12_comesFrom_79 : decode cX12_comesFrom 79 = .ok (.imul, 1) := dgX12_comesFrom_1 (79, (.imul, 1)) (List.mem_of_getElem? (i := 12) rfl)
theorem dX12_comesFrom_80 : decode cX12_comesFrom 80 = .ok (.iload 4, 2) := dgX12_comesFrom_1 (80, (.iload 4, 2)) (List.mem_of_getElem? (i := 13) rfl)
theorem dX12_comesFrom_82 : decode cX12_comesFrom 82 = .ok (.iadd, 1) := dgX12_comesFrom_1 (82, (.iadd, 1)) (List.mem_of_getElem? (i := 14) rfl)
theorem dX12_comesFrom_83 : decode cX12_comesFrom 83 = .ok (.iaload, 1) := dgX12_comesFrom_1 (83, (.iaload, 1)) (List.mem_of_getElem? (i := 15) rfl)
theorem dX12_comesFrom_84 : decode cX12_comesFrom 84 = .ok (.ior, 1) := dgX12_comesFrom_1 (84, (.ior, 1)) (List.mem_of_getElem? (i := 16) rfl)
theorem dX12_comesFrom_85 : decode cX12_comesFrom 85 = .ok (.iadd, 1) := dgX12_comesFrom_1 (85, (.iadd, 1)) (List.mem_of_getElem? (i := 17) rfl)
theorem dX12_comesFrom_86 : decode cX12_comesFrom 86 = .ok (.laload, 1) := dgX12_comesFrom_1 (86, (.laload, 1)) (List.mem_of_getElem? (i := 18) rfl)
theorem dX12_comesFrom_87 : decode cX12_comesFrom 87 = .ok (.ladd, 1) := dgX12_comesFrom_1 (87, (.ladd, 1)) (List.mem_of_getElem? (i := 19) rfl)
theorem dX12_comesFrom_88 : decode cX12_comesFrom 88 = .ok (.lastore, 1) := dgX12_comesFrom_1 (88, (.lastore, 1)) (List.mem_of_getElem? (i := 20) rfl)
theorem dX12_comesFrom_89 : decode cX12_comesFrom 89 = .ok (.iinc 5 1, 3) := dgX12_comesFrom_1 (89, (.iinc 5 1, 3)) (List.mem_of_getElem? (i := 21) rfl)
theorem dX12_comesFrom_92 : decode cX12_comesFrom 92 = .ok (.goto (-71), 3) := dgX12_comesFrom_1 (92, (.goto (-71), 3)) (List.mem_of_getElem? (i := 22) rfl)
theorem dX12_comesFrom_95 : decode cX12_comesFrom 95 = .ok (.iinc 3 1, 3) := dgX12_comesFrom_1 (95, (.iinc 3 1, 3)) (List.mem_of_getElem? (i := 23) rfl)
theorem dX12_comesFrom_98 : decode cX12_comesFrom 98 = .ok (.goto (-96), 3) := dgX12_comesFrom_1 (98, (.goto (-96), 3)) (List.mem_of_getElem? (i := 24) rfl)
theorem dX12_comesFrom_101 : decode cX12_comesFrom 101 = .ok (.return_, 1) := dgX12_comesFrom_1 (101, (.return_, 1)) (List.mem_of_getElem? (i := 25) rfl)
theorem fl_X12_92 : Cond.fieldLink RX12 92 "LateGlassModel" "behind" "[J" ∈ tblG := tg 1247 (by decide +kernel) (by decide +kernel)
set_option maxHeartbeats 4000000 in
set_option maxRecDepth 100000 in
theorem n_comesFrom (l : Launch) (G : g5_G) (b_o b_be b_me b_rf b_ro b_im b_ke b_tp b_nl b_op b_ar b_pi b_pa b_ws b_hw b_se b_re b_pt b_ip b_ah b_tr b_ld b_wn : Nat) (sz : Nat) (u_th : Int32) (u_sa : Int32) (u_fd : Int32) (u_td : Int32) (u_fr : Int32) (u_to : Int32) (u_so : Int32) (u_fa : Int32) (u_bd : Int32) (u_nc : Int32) (u_co : Int32) (u_le : Int32) (u_pd : Int32) (u_od : Int32) (u_la : Int32) (u_bk : Int32) (u_ce : Int32) (u_ho : Int32) (u_wy : Int32) (u_bt : Int32) (u_ps : Int32) (u_tg : Int32) (u_sn : Int32) (u_ic : Int32) (u_wd : Int32) (u_id : Int32) (p_1 : Int32) (p_2 : Int32) (u_wo : Int64) (u_va : Int64) (u_su : Int64) (u_st : Int64) (v_be : Nat → Int64) (v_me : Nat → Int32) (h_u_td : 0 ≤ u_td.toInt ∧ u_td.toInt ≤ 400) (h_u_fr : 0 ≤ u_fr.toInt ∧ u_fr.toInt ≤ 400) (h_u_to : 0 ≤ u_to.toInt ∧ u_to.toInt ≤ 400) (h_u_bd : 0 ≤ u_bd.toInt ∧ u_bd.toInt ≤ 1) (h_u_nc : 0 ≤ u_nc.toInt ∧ u_nc.toInt ≤ 12) (h_u_co : 0 ≤ u_co.toInt ∧ u_co.toInt ≤ 400) (h_u_pd : 0 ≤ u_pd.toInt ∧ u_pd.toInt ≤ 400) (h_u_la : 0 ≤ u_la.toInt ∧ u_la.toInt ≤ 4840) (h_u_bk : 0 ≤ u_bk.toInt ∧ u_bk.toInt ≤ 1) (h_u_ce : 0 ≤ u_ce.toInt ∧ u_ce.toInt ≤ 63) (h_u_ho : 0 ≤ u_ho.toInt ∧ u_ho.toInt ≤ 23) (h_u_wy : 0 ≤ u_wy.toInt ∧ u_wy.toInt ≤ 3) (h_u_bt : 0 ≤ u_bt.toInt ∧ u_bt.toInt ≤ 1000000) (h_u_ps : 0 ≤ u_ps.toInt ∧ u_ps.toInt ≤ 200) (h_u_ic : 0 ≤ u_ic.toInt ∧ u_ic.toInt ≤ 1) (h_u_id : 0 ≤ u_id.toInt ∧ u_id.toInt ≤ 1) (h_p_1 : 0 ≤ p_1.toInt ∧ p_1.toInt ≤ 22) (h_p_2 : 0 ≤ p_2.toInt ∧ p_2.toInt ≤ 63) (r_me : MEI v_me) : Met l yX12_comesFrom (wsG yX12_comesFrom cX12_comesFrom 6 none) ({ frames := 2, cells := 0, slots := 0, locals := 45 }) (va_Pc [.ref b_o, .int p_1, .int p_2] (g5_P G [(b_o, (oc12 u_th u_sa b_rf b_ro b_im b_ke u_fd b_tp u_td u_fr u_to u_so u_wo u_fa u_bd u_nc b_nl u_co b_op b_ar u_le b_pi b_pa u_pd u_od b_ws b_hw u_la b_se b_re u_bk u_va u_su u_ce u_ho u_wy u_bt u_ps b_pt u_tg u_sn b_ip u_ic b_ah b_be b_me u_wd b_tr b_ld u_st b_wn u_id)), (b_be, (arJ G 49152 v_be)), (b_me, (arI G 1536 v_me))] sz)) (va_Qv (fun (u : va_W) => (∃ (o_be : Nat → Int64), (u = [(b_o, (oc12 u_th u_sa b_rf b_ro b_im b_ke u_fd b_tp u_td u_fr u_to u_so u_wo u_fa u_bd u_nc b_nl u_co b_op b_ar u_le b_pi b_pa u_pd u_od b_ws b_hw u_la b_se b_re u_bk u_va u_su u_ce u_ho u_wy u_bt u_ps b_pt u_tg u_sn b_ip u_ic b_ah b_be b_me u_wd b_tr b_ld u_st b_wn u_id)), (b_be, (arJ G 49152 o_be)), (b_me, (arI G 1536 v_me))]))) (g5_B G (va_A [(b_o, (oc12 u_th u_sa b_rf b_ro b_im b_ke u_fd b_tp u_td u_fr u_to u_so u_wo u_fa u_bd u_nc b_nl u_co b_op b_ar u_le b_pi b_pa u_pd u_od b_ws b_hw u_la b_se b_re u_bk u_va u_su u_ce u_ho u_wy u_bt u_ps b_pt u_tg u_sn b_ip u_ic b_ah b_be b_me u_wd b_tr b_ld u_st b_wn u_id)), (b_be, (arJ G 49152 v_be)), (b_me, (arI G 1536 v_me))] sz)) (va_A [(b_o, (oc12 u_th u_sa b_rf b_ro b_im b_ke u_fd b_tp u_td u_fr u_to u_so u_wo u_fa u_bd u_nc b_nl u_co b_op b_ar u_le b_pi b_pa u_pd u_od b_ws b_hw u_la b_se b_re u_bk u_va u_su u_ce u_ho u_wy u_bt u_ps b_pt u_tg u_sn b_ip u_ic b_ah b_be b_me u_wd b_tr b_ld u_st b_wn u_id)), (b_be, (arJ G 49152 v_be)), (b_me, (arI G 1536 v_me))] sz)) 0 0 (va_A [(b_o, (oc12 u_th u_sa b_rf b_ro b_im b_ke u_fd b_tp u_td u_fr u_to u_so u_wo u_fa u_bd u_nc b_nl u_co b_op b_ar u_le b_pi b_pa u_pd u_od b_ws b_hw u_la b_se b_re u_bk u_va u_su u_ce u_ho u_wy u_bt u_ps b_pt u_tg u_sn b_ip u_ic b_ah b_be b_me u_wd b_tr b_ld u_st b_wn u_id)), (b_be, (arJ G 49152 v_be)), (b_me, (arI G 1536 v_me))] sz) := by
  refine Met.ofW (cc := cX12_comesFrom) (maxL := 6) (ret := none) (by decide +kernel) rfl ?_
  intro p e s m args below meth c s₁ B hml hv
  obtain ⟨rfl, hsz, hP, hK, hD0, hN, hT⟩ := hv
  have hx := B.exec
  have hb := B.bytes
  have hr := B.returns
  have hts : ∀ w ∈ tblG, w.before _ s = true := fun w h => atoms_spec (ws := (wsG yX12_comesFrom cX12_comesFrom 6 none)) B.pre w (List.mem_cons_of_mem _ h)
  have hown : s.vm.findClass RX12 = some m.cls := findClass_of_methodNamed B.named
  have hlocks := B.notSynchronized
  subst hsz
  have hD := hD0.self (sz := s.heap.size)
  generalize hAe : va_A [(b_o, (oc12 u_th u_sa b_rf b_ro b_im b_ke u_fd b_tp u_td u_fr u_to u_so u_wo u_fa u_bd u_nc b_nl u_co b_op b_ar u_le b_pi b_pa u_pd u_od b_ws b_hw u_la b_se b_re u_bk u_va u_su u_ce u_ho u_wy u_bt u_ps b_pt u_tg u_sn b_ip u_ic b_ah b_be b_me u_wd b_tr b_ld u_st b_wn u_id)), (b_be, (arJ G 49152 v_be)), (b_me, (arI G 1536 v_me))] s.heap.size = A at hD hT ⊢
  have hA : ∀ q : Nat, s.heap.size ≤ q → A q := fun q h => by rw [← hAe]; exact Or.inr h
  have hS : va_S A s.heap s.heap [] := va_S.rf
  replace hP : va_P G.1 vwCl [(b_o, (oc12 u_th u_sa b_rf b_ro b_im b_ke u_fd b_tp u_td u_fr u_to u_so u_wo u_fa u_bd u_nc b_nl u_co b_op b_ar u_le b_pi b_pa u_pd u_od b_ws b_hw u_la b_se b_re u_bk u_va u_su u_ce u_ho u_wy u_bt u_ps b_pt u_tg u_sn b_ip u_ic b_ah b_be b_me u_wd b_tr b_ld u_st b_wn u_id)), (b_be, (arJ G 49152 v_be)), (b_me, (arI G 1536 v_me))] s.heap := hP
  have hl := lv_entry ([.ref b_o, .int p_1, .int p_2]) (n := 6) (Nat.le_of_ble_eq_true rfl)
  rw [lg_entry_eq]
  generalize (lg_sl ([.ref b_o, .int p_1, .int p_2]) ++ List.replicate (6 - (lg_sl ([.ref b_o, .int p_1, .int p_2])).length) Slot.unset).toArray = ls at hl ⊢
  replace hl : lv_has ls 6 [(0, .ref b_o), (1, .int p_1), (2, .int p_2)] := hl
  refine lv_iconst (v := 0) hx hb dX12_comesFrom_0 (by decide +kernel) ?_
  refine lv_istore_n (lv' := [(3, .int 0), (0, .ref b_o), (1, .int p_1), (2, .int p_2)]) hx hb dX12_comesFrom_1 rfl hl (by decide +kernel) rfl ?_
  clear hl
  intro ls hl
  refine g5_loop (α := (Int32) × (Nat → Int64)) (fun (q : (Int32) × (Nat → Int64)) (ls : Array Slot) (H : Heap) (locs : List Loc) => match q with | (k2_3, k2_be) => lv_has ls 6 [(3, .int k2_3), (0, .ref b_o), (1, .int p_1), (2, .int p_2)] ∧ va_P G.1 vwCl [(b_o, (oc12 u_th u_sa b_rf b_ro b_im b_ke u_fd b_tp u_td u_fr u_to u_so u_wo u_fa u_bd u_nc b_nl u_co b_op b_ar u_le b_pi b_pa u_pd u_od b_ws b_hw u_la b_se b_re u_bk u_va u_su u_ce u_ho u_wy u_bt u_ps b_pt u_tg u_sn b_ip u_ic b_ah b_be b_me u_wd b_tr b_ld u_st b_wn u_id)), (b_be, (arJ G 49152 k2_be)), (b_me, (arI G 1536 v_me))] H ∧ va_D A [(b_o, (oc12 u_th u_sa b_rf b_ro b_im b_ke u_fd b_tp u_td u_fr u_to u_so u_wo u_fa u_bd u_nc b_nl u_co b_op b_ar u_le b_pi b_pa u_pd u_od b_ws b_hw u_la b_se b_re u_bk u_va u_su u_ce u_ho u_wy u_bt u_ps b_pt u_tg u_sn b_ip u_ic b_ah b_be b_me u_wd b_tr b_ld u_st b_wn u_id)), (b_be, (arJ G 49152 k2_be)), (b_me, (arI G 1536 v_me))] ∧ va_S A s.heap H locs ∧ (0 ≤ k2_3.toInt ∧ k2_3.toInt ≤ 5)) (fun (q : (Int32) × (Nat → Int64)) => match q with | (k2_3, k2_be) => Int.toNat (5 - k2_3.toInt)) (0, v_be) ⟨lv_sub hl [0, 1, 2, 3] rfl, hP, hD, hS, ⟨by decide, by decide⟩⟩ ?_
  rintro ⟨k2_3, k2_be⟩ ls H locs ⟨hl, hP, hD, hS, (i_1 : 0 ≤ k2_3.toInt ∧ k2_3.toInt ≤ 5)⟩ ih_2_2
  replace hl : lv_has ls 6 [(3, .int k2_3), (0, .ref b_o), (1, .int p_1), (2, .int p_2)] := hl
  refine g5_rs [(b_o, (oc12 u_th u_sa b_rf b_ro b_im b_ke u_fd b_tp u_td u_fr u_to u_so u_wo u_fa u_bd u_nc b_nl u_co b_op b_ar u_le b_pi b_pa u_pd u_od b_ws b_hw u_la b_se b_re u_bk u_va u_su u_ce u_ho u_wy u_bt u_ps b_pt u_tg u_sn b_ip u_ic b_ah b_be b_me u_wd b_tr b_ld u_st b_wn u_id)), (b_be, (arJ G 49152 k2_be)), (b_me, (arI G 1536 v_me))] hP hD ?_
  clear hP hD
  intro hP hD
  refine lv_iload_n hx hb dX12_comesFrom_2 rfl (lv_at hl 0 rfl) ?_
  refine lv_iconst (v := 5) hx hb dX12_comesFrom_3 (by decide +kernel) ?_
  refine lv_icmp_ge (tgt := 101) hx hb dX12_comesFrom_4 (by decide +kernel) (fun c_3 => ?_) (fun c_3 => ?_)
  ·
    have i_3 : k2_3.toInt ≥ 5 := g5_ge (a := k2_3.toInt) (b := 5) rfl (by decide +kernel) c_3
    exact W.vret hx hb hr (fun t ht hW => ⟨⟨[(b_o, (oc12 u_th u_sa b_rf b_ro b_im b_ke u_fd b_tp u_td u_fr u_to u_so u_wo u_fa u_bd u_nc b_nl u_co b_op b_ar u_le b_pi b_pa u_pd u_od b_ws b_hw u_la b_se b_re u_bk u_va u_su u_ce u_ho u_wy u_bt u_ps b_pt u_tg u_sn b_ip u_ic b_ah b_be b_me u_wd b_tr b_ld u_st b_wn u_id)), (b_be, (arJ G 49152 k2_be)), (b_me, (arI G 1536 v_me))], rfl, ⟨k2_be, rfl⟩, by rw [ht]; exact hP.sub [0, 1, 2] rfl, hD.sub [0, 1, 2] (by decide +kernel) rfl⟩, hS.F ht⟩) hS.2.2 dX12_comesFrom_101
  ·
    have i_3 : k2_3.toInt < 5 := g5_geN (a := k2_3.toInt) (b := 5) rfl (by decide +kernel) c_3
    refine lv_aload_n hx hb dX12_comesFrom_7 rfl (lv_at hl 1 rfl) ?_
    refine lv_iload_n hx hb dX12_comesFrom_8 rfl (lv_at hl 3 rfl) ?_
    refine lv_iload_n hx hb dX12_comesFrom_9 rfl (lv_at hl 0 rfl) ?_
    refine lv_iload_n hx hb dX12_comesFrom_10 rfl (lv_at hl 2 rfl) ?_
    refine lv_iconst (v := 1) hx hb dX12_comesFrom_11 (by decide +kernel) ?_
    refine lv_iadd hx hb dX12_comesFrom_12 ?_
    have t_4 : (p_1 + 1).toInt = p_1.toInt + 1 := g5_iadd (a := p_1.toInt) (b := 1) (by rfl) (by decide +kernel) (by omega) (by omega)
    obtain ⟨hPc, hDc, hFc⟩ := g5_sub3 (wc := [(b_o, (oc12 u_th u_sa b_rf b_ro b_im b_ke u_fd b_tp u_td u_fr u_to u_so u_wo u_fa u_bd u_nc b_nl u_co b_op b_ar u_le b_pi b_pa u_pd u_od b_ws b_hw u_la b_se b_re u_bk u_va u_su u_ce u_ho u_wy u_bt u_ps b_pt u_tg u_sn b_ip u_ic b_ah b_be b_me u_wd b_tr b_ld u_st b_wn u_id)), (b_me, (arI G 1536 v_me))]) hP hD hS hA [0, 2] (by decide +kernel) rfl
    refine va_calli (va_runV (As := [.int p_2, .int k2_3, .int (p_1 + 1)]) (rest := []) ⟨hx, hb, hml, hown, hts⟩ (n_step l G b_o b_me b_rf b_ro b_im b_ke b_tp b_nl b_op b_ar b_pi b_pa b_ws b_hw b_se b_re b_pt b_ip b_ah b_be b_tr b_ld b_wn H.size u_th u_sa u_fd u_td u_fr u_to u_so u_fa u_bd u_nc u_co u_le u_pd u_od u_la u_bk u_ce u_ho u_wy u_bt u_ps u_tg u_sn u_ic u_wd u_id p_2 k2_3 (p_1 + 1) u_wo u_va u_su u_st v_me h_u_td h_u_fr h_u_to h_u_bd h_u_nc h_u_co h_u_pd h_u_la h_u_bk h_u_ce h_u_ho h_u_wy h_u_bt h_u_ps h_u_ic h_u_id h_p_2 ⟨by omega, by omega⟩ ⟨by omega, by omega⟩ (r_me)) (cwV 3 hts gV_X12_437 rfl rfl rfl hv_X12_step ⟨Nat.le_of_ble_eq_true rfl, Nat.le_of_ble_eq_true rfl⟩) (g5_preV hPc hK hDc hN hT hS hFc (ci := 12) (q0 := 0) rfl rfl) rfl rfl hl.1 rfl (lv_room (Nat.le_of_ble_eq_true rfl)) dX12_comesFrom_13 ⟨Nat.le_of_ble_eq_true rfl, Nat.le_of_ble_eq_true rfl⟩) hS (fun q _ h => hFc q h) hFc (fun r u t H locs ht hvm hw hB hz1 hk1 hS => ?_)
    obtain ⟨hP1, hD1⟩ := hB
    have hP1 := g5_ht ht hP1
    obtain ⟨z7, (i_5 : (-1) ≤ z7.toInt ∧ z7.toInt ≤ 63), (i_6 : z7.toInt = -1 ∨ (v_me (64 * (p_1 + 1).toInt + z7.toInt).toNat).toInt < 64), y8, rfl⟩ := hw
    have hJ9 := va_join (wr := [(b_be, (arJ G 49152 k2_be))]) hP hD [0, 2] [1] rfl rfl (by decide +kernel) (by decide +kernel) hk1 hFc hP1 hD1
    clear hP hD hPc hDc hFc ht hvm hz1 hk1 hP1 hD1
    obtain ⟨hP, hD⟩ := hJ9
    refine g5_rs [(b_be, (arJ G 49152 k2_be)), (b_o, (oc12 u_th u_sa b_rf b_ro b_im b_ke u_fd b_tp u_td u_fr u_to u_so u_wo u_fa u_bd u_nc b_nl u_co b_op b_ar u_le b_pi b_pa u_pd u_od b_ws b_hw u_la b_se b_re u_bk u_va u_su u_ce u_ho u_wy u_bt u_ps b_pt u_tg u_sn b_ip u_ic b_ah b_be b_me u_wd b_tr b_ld u_st b_wn u_id)), (b_me, (arI G 1536 v_me))] hP hD ?_
    clear hP hD
    intro hP hD
    refine g5_ti (v := z7) y8 ?_
    refine lv_istore (lv' := [(4, .int z7), (3, .int k2_3), (0, .ref b_o), (1, .int p_1), (2, .int p_2)]) hx hb dX12_comesFrom_16 hl (by decide +kernel) rfl ?_
    clear hl
    intro ls hl
    refine lv_iconst (v := 0) hx hb dX12_comesFrom_18 (by decide +kernel) ?_
    refine lv_istore (lv' := [(5, .int 0), (4, .int z7), (3, .int k2_3), (0, .ref b_o), (1, .int p_1), (2, .int p_2)]) hx hb dX12_comesFrom_19 hl (by decide +kernel) rfl ?_
    clear hl
    intro ls hl
    refine g5_loop (α := (Int32) × (Nat → Int64)) (fun (q : (Int32) × (Nat → Int64)) (ls : Array Slot) (H : Heap) (locs : List Loc) => match q with | (k21_5, k21_be) => lv_has ls 6 [(5, .int k21_5), (4, .int z7), (3, .int k2_3), (0, .ref b_o), (1, .int p_1), (2, .int p_2)] ∧ va_P G.1 vwCl [(b_be, (arJ G 49152 k21_be)), (b_o, (oc12 u_th u_sa b_rf b_ro b_im b_ke u_fd b_tp u_td u_fr u_to u_so u_wo u_fa u_bd u_nc b_nl u_co b_op b_ar u_le b_pi b_pa u_pd u_od b_ws b_hw u_la b_se b_re u_bk u_va u_su u_ce u_ho u_wy u_bt u_ps b_pt u_tg u_sn b_ip u_ic b_ah b_be b_me u_wd b_tr b_ld u_st b_wn u_id)), (b_me, (arI G 1536 v_me))] H ∧ va_D A [(b_be, (arJ G 49152 k21_be)), (b_o, (oc12 u_th u_sa b_rf b_ro b_im b_ke u_fd b_tp u_td u_fr u_to u_so u_wo u_fa u_bd u_nc b_nl u_co b_op b_ar u_le b_pi b_pa u_pd u_od b_ws b_hw u_la b_se b_re u_bk u_va u_su u_ce u_ho u_wy u_bt u_ps b_pt u_tg u_sn b_ip u_ic b_ah b_be b_me u_wd b_tr b_ld u_st b_wn u_id)), (b_me, (arI G 1536 v_me))] ∧ va_S A s.heap H locs ∧ (0 ≤ k21_5.toInt ∧ k21_5.toInt ≤ 32)) (fun (q : (Int32) × (Nat → Int64)) => match q with | (k21_5, k21_be) => Int.toNat (32 - k21_5.toInt)) (0, k2_be) ⟨lv_sub hl [0, 1, 2, 3, 4, 5] rfl, hP, hD, hS, ⟨by decide, by decide⟩⟩ ?_
    rintro ⟨k21_5, k21_be⟩ ls H locs ⟨hl, hP, hD, hS, (i_9 : 0 ≤ k21_5.toInt ∧ k21_5.toInt ≤ 32)⟩ ih_21_10
    replace hl : lv_has ls 6 [(5, .int k21_5), (4, .int z7), (3, .int k2_3), (0, .ref b_o), (1, .int p_1), (2, .int p_2)] := hl
    refine g5_rs [(b_be, (arJ G 49152 k21_be)), (b_o, (oc12 u_th u_sa b_rf b_ro b_im b_ke u_fd b_tp u_td u_fr u_to u_so u_wo u_fa u_bd u_nc b_nl u_co b_op b_ar u_le b_pi b_pa u_pd u_od b_ws b_hw u_la b_se b_re u_bk u_va u_su u_ce u_ho u_wy u_bt u_ps b_pt u_tg u_sn b_ip u_ic b_ah b_be b_me u_wd b_tr b_ld u_st b_wn u_id)), (b_me, (arI G 1536 v_me))] hP hD ?_
    clear hP hD
    intro hP hD
    refine lv_iload hx hb dX12_comesFrom_21 (lv_at hl 0 rfl) ?_
    refine lv_bipush (v := 32) hx hb dX12_comesFrom_23 (by decide +kernel) ?_
    refine lv_icmp_ge (tgt := 95) hx hb dX12_comesFrom_25 (by decide +kernel) (fun c_11 => ?_) (fun c_11 => ?_)
    ·
      have i_11 : k21_5.toInt ≥ 32 := g5_ge (a := k21_5.toInt) (b := 32) rfl (by decide +kernel) c_11
      refine lv_iinc (v := (k2_3 + 1)) (lv' := [(3, .int (k2_3 + 1)), (5, .int k21_5), (4, .int z7), (0, .ref b_o), (1, .int p_1), (2, .int p_2)]) hx hb dX12_comesFrom_95 hl (k := 2) rfl rfl (by decide +kernel) rfl ?_
      clear hl
      intro ls hl
      have t_12 : (k2_3 + 1).toInt = k2_3.toInt + 1 := g5_iadd (a := k2_3.toInt) (b := 1) rfl (by decide +kernel) (by omega) (by omega)
      refine lv_goto (tgt := 2) hx hb dX12_comesFrom_98 (by decide +kernel) ?_
      exact ih_2_2 ((k2_3 + 1), k21_be) ls H locs (show Int.toNat (5 - (k2_3 + 1).toInt) < Int.toNat (5 - k2_3.toInt) from g_up (show k2_3.toInt < (k2_3 + 1).toInt by omega) (show k2_3.toInt < 5 by omega)) ⟨lv_sub hl [0, 3, 4, 5] rfl, hP.sub [1, 0, 2] rfl, hD.sub [1, 0, 2] (by decide +kernel) rfl, hS, ⟨by omega, by omega⟩⟩
    ·
      have i_11 : k21_5.toInt < 32 := g5_geN (a := k21_5.toInt) (b := 32) rfl (by decide +kernel) c_11
      refine lv_iload hx hb dX12_comesFrom_28 (lv_at hl 1 rfl) ?_
      refine lv_iconst (v := (-1)) hx hb dX12_comesFrom_30 (by decide +kernel) ?_
      refine lv_icmp_eq (tgt := 95) hx hb dX12_comesFrom_31 (by decide +kernel) (fun c_13 => ?_) (fun c_13 => ?_)
      ·
        have i_13 : z7.toInt = (-1) := g5_eq (a := z7.toInt) (b := (-1)) rfl (by decide +kernel) c_13
        refine lv_iinc (v := (k2_3 + 1)) (lv' := [(3, .int (k2_3 + 1)), (5, .int k21_5), (4, .int z7), (0, .ref b_o), (1, .int p_1), (2, .int p_2)]) hx hb dX12_comesFrom_95 hl (k := 2) rfl rfl (by decide +kernel) rfl ?_
        clear hl
        intro ls hl
        have t_14 : (k2_3 + 1).toInt = k2_3.toInt + 1 := g5_iadd (a := k2_3.toInt) (b := 1) rfl (by decide +kernel) (by omega) (by omega)
        refine lv_goto (tgt := 2) hx hb dX12_comesFrom_98 (by decide +kernel) ?_
        exact ih_2_2 ((k2_3 + 1), k21_be) ls H locs (show Int.toNat (5 - (k2_3 + 1).toInt) < Int.toNat (5 - k2_3.toInt) from g_up (show k2_3.toInt < (k2_3 + 1).toInt by omega) (show k2_3.toInt < 5 by omega)) ⟨lv_sub hl [0, 3, 4, 5] rfl, hP.sub [1, 0, 2] rfl, hD.sub [1, 0, 2] (by decide +kernel) rfl, hS, ⟨by omega, by omega⟩⟩
      ·
        have n_13 : gNe (z7.toInt) ((-1)) := g5_eqN (a := z7.toInt) (b := (-1)) rfl (by decide +kernel) c_13
        have i_13 : z7.toInt ≥ 0 := by have z := g5_eqN (a := z7.toInt) (b := (-1)) (by rfl) (by decide +kernel) c_13; omega
        refine lv_aload_n hx hb dX12_comesFrom_34 rfl (lv_at hl 3 rfl) ?_
        refine va_get (D := G.1) (ci := 12) (v := .ref b_be) (C := RX12) (T := TX12) (N := 52) hx hb hts inG_X12 hown hK hP 1 rfl rfl 44 (by decide +kernel) (hts _ fl_X12_92) (fun _ h9 => h9) rfl dX12_comesFrom_35 ?_
        refine lv_bipush (v := 32) hx hb dX12_comesFrom_38 (by decide +kernel) ?_
        refine lv_bipush (v := 64) hx hb dX12_comesFrom_40 (by decide +kernel) ?_
        refine lv_iload_n hx hb dX12_comesFrom_42 rfl (lv_at hl 4 rfl) ?_
        refine lv_imul hx hb dX12_comesFrom_43 ?_
        have t_15 : (64 * p_1).toInt = 64 * p_1.toInt := g5_imul (a := 64) (b := p_1.toInt) (by decide +kernel) (by rfl) (by omega) (by omega)
        refine lv_iload_n hx hb dX12_comesFrom_44 rfl (lv_at hl 5 rfl) ?_
        refine lv_iadd hx hb dX12_comesFrom_45 ?_
        have t_16 : ((64 * p_1) + p_2).toInt = (64 * p_1).toInt + p_2.toInt := g5_iadd (a := (64 * p_1).toInt) (b := p_2.toInt) (by rfl) (by rfl) (by omega) (by omega)
        refine lv_imul hx hb dX12_comesFrom_46 ?_
        have t_17 : (32 * ((64 * p_1) + p_2)).toInt = 32 * ((64 * p_1) + p_2).toInt := g5_imul (a := 32) (b := ((64 * p_1) + p_2).toInt) (by decide +kernel) (by rfl) (by omega) (by omega)
        refine lv_iload hx hb dX12_comesFrom_47 (lv_at hl 0 rfl) ?_
        refine lv_iadd hx hb dX12_comesFrom_49 ?_
        have t_18 : ((32 * ((64 * p_1) + p_2)) + k21_5).toInt = (32 * ((64 * p_1) + p_2)).toInt + k21_5.toInt := g5_iadd (a := (32 * ((64 * p_1) + p_2)).toInt) (b := k21_5.toInt) (by rfl) (by rfl) (by omega) (by omega)
        refine lv_dup2_11 hx hb dX12_comesFrom_50 rfl rfl ?_
        refine va_lald hx hb hK hP 0 1 rfl rfl (i := ((32 * ((64 * p_1) + p_2)) + k21_5)) (vp_in_iff.mpr ⟨by omega, by omega⟩) dX12_comesFrom_51 ?_
        refine lv_aload_n hx hb dX12_comesFrom_52 rfl (lv_at hl 3 rfl) ?_
        refine va_get (D := G.1) (ci := 12) (v := .ref b_be) (C := RX12) (T := TX12) (N := 52) hx hb hts inG_X12 hown hK hP 1 rfl rfl 44 (by decide +kernel) (hts _ fl_X12_92) (fun _ h9 => h9) rfl dX12_comesFrom_53 ?_
        refine lv_bipush (v := 32) hx hb dX12_comesFrom_56 (by decide +kernel) ?_
        refine lv_bipush (v := 64) hx hb dX12_comesFrom_58 (by decide +kernel) ?_
        refine lv_iload_n hx hb dX12_comesFrom_60 rfl (lv_at hl 4 rfl) ?_
        refine lv_iconst (v := 1) hx hb dX12_comesFrom_61 (by decide +kernel) ?_
        refine lv_iadd hx hb dX12_comesFrom_62 ?_
        have t_19 : (p_1 + 1).toInt = p_1.toInt + 1 := g5_iadd (a := p_1.toInt) (b := 1) (by rfl) (by decide +kernel) (by omega) (by omega)
        refine lv_imul hx hb dX12_comesFrom_63 ?_
        have t_20 : (64 * (p_1 + 1)).toInt = 64 * (p_1 + 1).toInt := g5_imul (a := 64) (b := (p_1 + 1).toInt) (by decide +kernel) (by rfl) (by omega) (by omega)
        refine lv_iload hx hb dX12_comesFrom_64 (lv_at hl 1 rfl) ?_
        refine lv_iadd hx hb dX12_comesFrom_66 ?_
        have t_21 : ((64 * (p_1 + 1)) + z7).toInt = (64 * (p_1 + 1)).toInt + z7.toInt := g5_iadd (a := (64 * (p_1 + 1)).toInt) (b := z7.toInt) (by rfl) (by rfl) (by omega) (by omega)
        refine lv_imul hx hb dX12_comesFrom_67 ?_
        have t_22 : (32 * ((64 * (p_1 + 1)) + z7)).toInt = 32 * ((64 * (p_1 + 1)) + z7).toInt := g5_imul (a := 32) (b := ((64 * (p_1 + 1)) + z7).toInt) (by decide +kernel) (by rfl) (by omega) (by omega)
        refine lv_iload hx hb dX12_comesFrom_68 (lv_at hl 0 rfl) ?_
        refine lv_aload_n hx hb dX12_comesFrom_70 rfl (lv_at hl 3 rfl) ?_
        refine va_get (D := G.1) (ci := 12) (v := .ref b_me) (C := RX12) (T := TX12) (N := 52) hx hb hts inG_X12 hown hK hP 1 rfl rfl 45 (by decide +kernel) (hts _ fl_X12_95) (fun _ h9 => h9) rfl dX12_comesFrom_71 ?_
        refine lv_bipush (v := 64) hx hb dX12_comesFrom_74 (by decide +kernel) ?_
        refine lv_iload_n hx hb dX12_comesFrom_76 rfl (lv_at hl 4 rfl) ?_
        refine lv_iconst (v := 1) hx hb dX12_comesFrom_77 (by decide +kernel) ?_
        refine lv_iadd hx hb dX12_comesFrom_78 ?_
        have t_23 : (p_1 + 1).toInt = p_1.toInt + 1 := g5_iadd (a := p_1.toInt) (b := 1) (by rfl) (by decide +kernel) (by omega) (by omega)
        refine lv_imul hx hb dX12_comesFrom_79 ?_
        have t_24 : (64 * (p_1 + 1)).toInt = 64 * (p_1 + 1).toInt := g5_imul (a := 64) (b := (p_1 + 1).toInt) (by decide +kernel) (by rfl) (by omega) (by omega)
        refine lv_iload hx hb dX12_comesFrom_80 (lv_at hl 1 rfl) ?_
        refine lv_iadd hx hb dX12_comesFrom_82 ?_
        have t_25 : ((64 * (p_1 + 1)) + z7).toInt = (64 * (p_1 + 1)).toInt + z7.toInt := g5_iadd (a := (64 * (p_1 + 1)).toInt) (b := z7.toInt) (by rfl) (by rfl) (by omega) (by omega)
        refine va_iald hx hb hK hP 2 0 rfl rfl (i := ((64 * (p_1 + 1)) + z7)) (vp_in_iff.mpr ⟨by omega, by omega⟩) dX12_comesFrom_83 ?_
        have hr_26 : 0 ≤ (v_me ((64 * (p_1 + 1)) + z7).toNatClampNeg).toInt ∧ ((v_me ((64 * (p_1 + 1)) + z7).toNatClampNeg).toInt < 32 ∨ 64 ≤ (v_me ((64 * (p_1 + 1)) + z7).toNatClampNeg).toInt) ∧ (v_me ((64 * (p_1 + 1)) + z7).toNatClampNeg).toInt ≤ 127 := r_me (((64 * (p_1 + 1)) + z7).toNatClampNeg)
        have h64_27 : (v_me ((64 * (p_1 + 1)) + z7).toNatClampNeg).toInt < 64 := by have e9 : ((64 * (p_1 + 1)) + z7).toNatClampNeg = (64 * (p_1 + 1).toInt + z7.toInt).toNat := (by have zz := g5_clamp ((64 * (p_1 + 1)) + z7); omega); rw [e9]; rcases i_6 with q | q; omega; exact q
        refine lv_ior hx hb dX12_comesFrom_84 ?_
        have ho_28 : 0 ≤ (k21_5 ||| (v_me ((64 * (p_1 + 1)) + z7).toNatClampNeg)).toInt ∧ (k21_5 ||| (v_me ((64 * (p_1 + 1)) + z7).toNatClampNeg)).toInt < 32 := me_low ⟨by omega, by omega⟩ ⟨by omega, by omega⟩
        refine lv_iadd hx hb dX12_comesFrom_85 ?_
        have t_29 : ((32 * ((64 * (p_1 + 1)) + z7)) + (k21_5 ||| (v_me ((64 * (p_1 + 1)) + z7).toNatClampNeg))).toInt = (32 * ((64 * (p_1 + 1)) + z7)).toInt + (k21_5 ||| (v_me ((64 * (p_1 + 1)) + z7).toNatClampNeg)).toInt := g5_iadd (a := (32 * ((64 * (p_1 + 1)) + z7)).toInt) (b := (k21_5 ||| (v_me ((64 * (p_1 + 1)) + z7).toNatClampNeg)).toInt) (by rfl) (by rfl) (by omega) (by omega)
        refine va_lald hx hb hK hP 0 1 rfl rfl (i := ((32 * ((64 * (p_1 + 1)) + z7)) + (k21_5 ||| (v_me ((64 * (p_1 + 1)) + z7).toNatClampNeg)))) (vp_in_iff.mpr ⟨by omega, by omega⟩) dX12_comesFrom_86 ?_
        refine lv_ladd hx hb dX12_comesFrom_87 ?_
        refine va_last hx hb hK hP hD hS 0 1 rfl rfl (i := ((32 * ((64 * p_1) + p_2)) + k21_5)) (x := ((k21_be ((32 * ((64 * p_1) + p_2)) + k21_5).toNatClampNeg) + (k21_be ((32 * ((64 * (p_1 + 1)) + z7)) + (k21_5 ||| (v_me ((64 * (p_1 + 1)) + z7).toNatClampNeg))).toNatClampNeg))) (vp_in_iff.mpr ⟨by omega, by omega⟩) dX12_comesFrom_88 ?_
        clear hP hD hS
        intro H locs hP hD hS
        refine g5_rs [(b_be, (arJ G 49152 (vp_updL k21_be ((32 * ((64 * p_1) + p_2)) + k21_5).toNatClampNeg ((k21_be ((32 * ((64 * p_1) + p_2)) + k21_5).toNatClampNeg) + (k21_be ((32 * ((64 * (p_1 + 1)) + z7)) + (k21_5 ||| (v_me ((64 * (p_1 + 1)) + z7).toNatClampNeg))).toNatClampNeg))))), (b_o, (oc12 u_th u_sa b_rf b_ro b_im b_ke u_fd b_tp u_td u_fr u_to u_so u_wo u_fa u_bd u_nc b_nl u_co b_op b_ar u_le b_pi b_pa u_pd u_od b_ws b_hw u_la b_se b_re u_bk u_va u_su u_ce u_ho u_wy u_bt u_ps b_pt u_tg u_sn b_ip u_ic b_ah b_be b_me u_wd b_tr b_ld u_st b_wn u_id)), (b_me, (arI G 1536 v_me))] hP hD ?_
        clear hP hD
        intro hP hD
        refine lv_iinc (v := (k21_5 + 1)) (lv' := [(5, .int (k21_5 + 1)), (4, .int z7), (3, .int k2_3), (0, .ref b_o), (1, .int p_1), (2, .int p_2)]) hx hb dX12_comesFrom_89 hl (k := 0) rfl rfl (by decide +kernel) rfl ?_
        clear hl
        intro ls hl
        have t_30 : (k21_5 + 1).toInt = k21_5.toInt + 1 := g5_iadd (a := k21_5.toInt) (b := 1) rfl (by decide +kernel) (by omega) (by omega)
        refine lv_goto (tgt := 21) hx hb dX12_comesFrom_92 (by decide +kernel) ?_
        exact ih_21_10 ((k21_5 + 1), (vp_updL k21_be ((32 * ((64 * p_1) + p_2)) + k21_5).toNatClampNeg ((k21_be ((32 * ((64 * p_1) + p_2)) + k21_5).toNatClampNeg) + (k21_be ((32 * ((64 * (p_1 + 1)) + z7)) + (k21_5 ||| (v_me ((64 * (p_1 + 1)) + z7).toNatClampNeg))).toNatClampNeg)))) ls H locs (show Int.toNat (32 - (k21_5 + 1).toInt) < Int.toNat (32 - k21_5.toInt) from g_up (show k21_5.toInt < (k21_5 + 1).toInt by omega) (show k21_5.toInt < 32 by omega)) ⟨lv_sub hl [0, 1, 2, 3, 4, 5] rfl, hP, hD, hS, ⟨by omega, by omega⟩⟩
theorem dgX12_rowsAt_0 : ∀ r ∈ ([(0, (.lconst 0, 1)), (1, (.lstore_n 3, 1)), (2, (.iconst 0, 1)), (3, (.istore 5, 2)), (5, (.iload 5, 2)), (7, (.bipush 32, 2)), (9, (.if_icmp .ge 41, 3)), (12, (.bipush 32, 2)), (14, (.bipush 64, 2)), (16, (.iload_n 1, 1)), (17, (.imul, 1)), (18, (.iload_n 2, 1)), (19, (.iadd, 1)), (20, (.imul, 1)), (21, (.iload 5, 2)), (23, (.iadd, 1)), (24, (.istore 6, 2)), (26, (.lload_n 3, 1)), (27, (.aload_n 0, 1)), (28, (.getfield 89, 3)), (31, (.iload 6, 2)), (33, (.laload, 1)), (34, (.aload_n 0, 1)), (35, (.getfield 92, 3)), (38, (.iload 6, 2)), (40, (.laload, 1)), (41, (.lmul, 1)), (42, (.ladd, 1)), (43, (.lstore_n 3, 1)), (44, (.iinc 5 1, 3)), (47, (.goto (-42), 3)), (50, (.lload_n 3, 1)), (51, (.lreturn, 1))] : List (Nat × (Instr × Nat))), decode cX12_rowsAt r.1 = .ok r.2 := by decide +kernel
theorem dX12_rowsAt_0 : decode cX12_rowsAt 0 = .ok (.lconst 0, 1) := dgX12_rowsAt_0 (0, (.lconst 0, 1)) (List.mem_of_getElem? (i := 0) rfl)
theorem dX12_rowsAt_1 : decode cX12_rowsAt 1 = .ok (.lstore_n 3, 1) := dgX12_rowsAt_0 (1, (.lstore_n 3, 1)) (List.mem_of_getElem? (i := 1) rfl)
theorem dX12_rowsAt_2 : decode cX12_rowsAt 2 = .ok (.iconst 0, 1) := dgX12_rowsAt_0 (2, (.iconst 0, 1)) (List.mem_of_getElem? (i := 2) rfl)
theorem dX12_rowsAt_3 : decode cX12_rowsAt 3 = .ok (.istore 5, 2) := dgX12_rowsAt_0 (3, (.istore 5, 2)) (List.mem_of_getElem? (i := 3) rfl)
theorem dX12_rowsAt_5 : decode cX12_rowsAt 5 = .ok (.iload 5, 2) := dgX12_rowsAt_0 (5, (.iload 5, 2)) (List.mem_of_getElem? (i := 4) rfl)
theorem dX12_rowsAt_7 : decode cX12_rowsAt 7 = .ok (.bipush 32, 2) := dgX12_rowsAt_0 (7, (.bipush 32, 2)) (List.mem_of_getElem? (i := 5) rfl)
theorem dX12_rowsAt_9 : decode cX12_rowsAt 9 = .ok (.if_icmp .ge 41, 3) := dgX12_rowsAt_0 (9, (.if_icmp .ge 41, 3)) (List.mem_of_getElem? (i := 6) rfl)
theorem dX12_rowsAt_12 : decode cX12_rowsAt 12 = .ok (.bipush 32, 2) := dgX12_rowsAt_0 (12, (.bipush 32, 2)) (List.mem_of_getElem? (i := 7) rfl)
theorem dX12_rowsAt_14 : decode cX12_rowsAt 14 = .ok (.bipush 64, 2) := dgX12_rowsAt_0 (14, (.bipush 64, 2)) (List.mem_of_getElem? (i := 8) rfl)
theorem dX12_rowsAt_16 : decode cX12_rowsAt 16 = .ok (.iload_n 1, 1) := dgX12_rowsAt_0 (16, (.iload_n 1, 1)) (List.mem_of_getElem? (i := 9) rfl)
theorem dX12_rowsAt_17 : decode cX12_rowsAt 17 = .ok (.imul, 1) := dgX12_rowsAt_0 (17, (.imul, 1)) (List.mem_of_getElem? (i := 10) rfl)
theorem dX12_rowsAt_18 : decode cX12_rowsAt 18 = .ok (.iload_n 2, 1) := dgX12_rowsAt_0 (18, (.iload_n 2, 1)) (List.mem_of_getElem? (i := 11) rfl)
theorem dX12_rowsAt_19 : decode cX12_rowsAt 19 = .ok (.iadd, 1) := dgX12_rowsAt_0 (19, (.iadd, 1)) (List.mem_of_getElem? (i := 12) rfl)
theorem dX12_rowsAt_20 : decode cX12_rowsAt 20 = .ok (.imul, 1) := dgX12_rowsAt_0 (20, (.imul, 1)) (List.mem_of_getElem? (i := 13) rfl)
theorem dX12_rowsAt_21 : decode cX12_rowsAt 21 = .ok (.iload 5, 2) := dgX12_rowsAt_0 (21, (.iload 5, 2)) (List.mem_of_getElem? (i := 14) rfl)
theorem dX12_rowsAt_23 : decode cX12_rowsAt 23 = .ok (.iadd, 1) := dgX12_rowsAt_0 (23, (.iadd, 1)) (List.mem_of_getElem? (i := 15) rfl)
theorem dX12_rowsAt_24 : decode cX12_rowsAt 24 = .ok (.istore 6, 2) := dgX12_rowsAt_0 (24, (.istore 6, 2)) (List.mem_of_getElem? (i := 16) rfl)
theorem dX12_rowsAt_26 : decode cX12_rowsAt 26 = .ok (.lload_n 3, 1) := dgX12_rowsAt_0 (26, (.lload_n 3, 1)) (List.mem_of_getElem? (i := 17) rfl)
theorem dX12_rowsAt_27 : decode cX12_rowsAt 27 = .ok (.aload_n 0, 1) := dgX12_rowsAt_0 (27, (.aload_n 0, 1)) (List.mem_of_getElem? (i := 18) rfl)
theorem dX12_rowsAt_28 : decode cX12_rowsAt 28 = .ok (.getfield 89, 3) := dgX12_rowsAt_0 (28, (.getfield 89, 3)) (List.mem_of_getElem? (i := 19) rfl)
theorem dX12_rowsAt_31 : decode cX12_rowsAt 31 = .ok (.iload 6, 2) := dgX12_rowsAt_0 (31, (.iload 6, 2)) (List.mem_of_getElem? (i := 20) rfl)
theorem dX12_rowsAt_33 : decode cX12_rowsAt 33 = .ok (.laload, 1) := dgX12_rowsAt_0 (33, (.laload, 1)) (List.mem_of_getElem? (i := 21) rfl)
theorem dX12_rowsAt_34 : decode cX12_rowsAt 34 = .ok (.aload_n 0, 1) := dgX12_rowsAt_0 (34, (.aload_n 0, 1)) (List.mem_of_getElem? (i := 22) rfl)
theorem dX12_rowsAt_35 : decode cX12_rowsAt 35 = .ok (.getfield 92, 3) := dgX12_rowsAt_0 (35, (.getfield 92, 3)) (List.mem_of_getElem? (i := 23) rfl)
theorem dX12_rowsAt_38 : decode cX12_rowsAt 38 = .ok (.iload 6, 2) := dgX12_rowsAt_0 (38, (.iload 6, 2)) (List.mem_of_getElem? (i := 24) rfl)
theorem dX12_rowsAt_40 : decode cX12_rowsAt 40 = .ok (.laload, 1) := dgX12_rowsAt_0 (40, (.laload, 1)) (List.mem_of_getElem? (i := 25) rfl)
theorem dX12_rowsAt_41 : decode cX12_rowsAt 41 = .ok (.lmul, 1) := dgX12_rowsAt_0 (41, (.lmul, 1)) (List.mem_of_getElem? (i := 26) rfl)
theorem dX12_rowsAt_42 : decode cX12_rowsAt 42 = .ok (.ladd, 1) := dgX12_rowsAt_0 (42, (.ladd, 1)) (List.mem_of_getElem? (i := 27) rfl)
theorem dX12_rowsAt_43 : decode cX12_rowsAt 43 = .ok (.lstore_n 3, 1) := dgX12_rowsAt_0 (43, (.lstore_n 3, 1)) (List.mem_of_getElem? (i := 28) rfl)
theorem dX12_rowsAt_44 : decode cX12_rowsAt 44 = .ok (.iinc 5 1, 3) := dgX12_rowsAt_0 (44, (.iinc 5 1, 3)) (List.mem_of_getElem? (i := 29) rfl)
theorem dX12_rowsAt_47 : decode cX12_rowsAt 47 = .ok (.goto (-42), 3) := dgX12_rowsAt_0 (47, (.goto (-42), 3)) (List.mem_of_getElem? (i := 30) rfl)
theorem dX12_rowsAt_50 : decode cX12_rowsAt 50 = .ok (.lload_n 3, 1) := dgX12_rowsAt_0 (50, (.lload_n 3, 1)) (List.mem_of_getElem? (i := 31) rfl)
theorem dX12_rowsAt_51 : decode cX12_rowsAt 51 = .ok (.lreturn, 1) := dgX12_rowsAt_0 (51, (.lreturn, 1)) (List.mem_of_getElem? (i := 32) rfl)
