theorem dgX12_lacking_1 : ∀ r ∈ ([(63, (.aload_n 0, 1)), (64, (.getfield 358, 3)), (67, (.if_icmp .ge 49, 3)), (70, (.aload_n 0, 1)), (71, (.getfield 82, 3)), (74, (.iload 6, 2)), (76, (.iaload, 1)), (77, (.bipush 64, 2)), (79, (.aload_n 0, 1)), (80, (.getfield 13, 3)), (83, (.iload 4, 2)), (85, (.iconst 4, 1)), (86, (.iadd, 1)), (87, (.iaload, 1)), (88, (.imul, 1)), (89, (.aload_n 0, 1)), (90, (.getfield 13, 3)), (93, (.iload 4, 2)), (95, (.iconst 3, 1)), (96, (.iadd, 1)), (97, (.iaload, 1)), (98, (.iadd, 1)), (99, (.if_icmp .ne 7, 3)), (102, (.iconst 1, 1)), (103, (.goto 5, 3)), (106, (.iload 5, 2)), (108, (.istore 5, 2)), (110, (.iinc 6 1, 3)), (113, (.goto (-52), 3)), (116, (.iload_n 2, 1)), (117, (.iload 5, 2)), (119, (.aload_n 0, 1)), (120, (.getfield 13, 3)), (123, (.iload 4, 2)), (125, (.iconst 5, 1)), (126, (.iadd, 1)), (127, (.iaload, 1)), (128, (.if_icmp .eq 9, 3)), (131, (.iconst 1, 1)), (132, (.iload_n 3, 1))] : List (Nat × (Instr × Nat))), decode cX12_lacking r.1 = .ok r.2 := by decide +kernel
theorem dX12_lacking_63 : decode cX12_lacking 63 = .ok (.aload_n 0, 1) := dgX12_lacking_1 (63, (.aload_n 0, 1)) (List.mem_of_getElem? (i := 0) rfl)
theorem dX12_lacking_64 : decode cX12_lacking 64 = .ok (.getfield 358, 3) := dgX12_lacking_1 (64, (.getfield 358, 3)) (List.mem_of_getElem? (i := 1) rfl)
theorem dX12_lacking_67 : decode cX12_lacking 67 = .ok (.if_icmp .ge 49, 3) := dgX12_lacking_1 (67, (.if_icmp .ge 49, 3)) (List.mem_of_getElem? (i := 2) rfl)
theorem dX12_lacking_70 : decode cX12_lacking 70 = .ok (.aload_n 0, 1) := dgX12_lacking_1 (70, (.aload_n 0, 1)) (List.mem_of_getElem? (i := 3) rfl)
theorem dX12_lacking_71 : decode cX12_lacking 71 = .ok (.getfield 82, 3) := dgX12_lacking_1 (71, (.getfield 82, 3)) (List.mem_of_getElem? (i := 4) rfl)
theorem dX12_lacking_74 : decode cX12_lacking 74 = .ok (.iload 6, 2) := dgX12_lacking_1 (74, (.iload 6, 2)) (List.mem_of_getElem? (i := 5) rfl)
theorem dX12_lacking_76 : decode cX12_lacking 76 = .ok (.iaload, 1) := dgX12_lacking_1 (76, (.iaload, 1)) (List.mem_of_getElem? (i := 6) rfl)
theorem dX12_lacking_77 : decode cX12_lacking 77 = .ok (.bipush 64, 2) := dgX12_lacking_1 (77, (.bipush 64, 2)) (List.mem_of_getElem? (i := 7) rfl)
theorem dX12_lacking_79 : decode cX12_lacking 79 = .ok (.aload_n 0, 1) := dgX12_lacking_1 (79, (.aload_n 0, 1)) (List.mem_of_getElem? (i := 8) rfl)
theorem dX12_lacking_80 : decode cX12_lacking 80 = .ok (.getfield 13, 3) := dgX12_lacking_1 (80, (.getfield 13, 3)) (List.mem_of_getElem? (i := 9) rfl)
theorem dX12_lacking_83 : decode cX12_lacking 83 = .ok (.iload 4, 2) := dgX12_lacking_1 (83, (.iload 4, 2)) (List.mem_of_getElem? (i := 10) rfl)
theorem dX12_lacking_85 : decode cX12_lacking 85 = .ok (.iconst 4, 1) := dgX12_lacking_1 (85, (.iconst 4, 1)) (List.mem_of_getElem? (i := 11) rfl)
theorem dX12_lacking_86 : decode cX12_lacking 86 = .ok (.iadd, 1) := dgX12_lacking_1 (86, (.iadd, 1)) (List.mem_of_getElem? (i := 12) rfl)
theorem dX12_lacking_87 : decode cX12_lacking 87 = .ok (.iaload, 1) := dgX12_lacking_1 (87, (.iaload, 1)) (List.mem_of_getElem? (i := 13) rfl)
theorem dX12_lacking_88 : decode cX12_lacking 88 = .ok (.imul, 1) := dgX12_lacking_1 (88, (.imul, 1)) (List.mem_of_getElem? (i := 14) rfl)
theorem dX12_lacking_89 : decode cX12_lacking 89 = .ok (.aload_n 0, 1) := dgX12_lacking_1 (89, (.aload_n 0, 1)) (List.mem_of_getElem? (i := 15) rfl)
theorem dX12_lacking_90 : decode cX12_lacking 90 = .ok (.getfield 13, 3) := dgX12_lacking_1 (90, (.getfield 13, 3)) (List.mem_of_getElem? (i := 16) rfl)
theorem dX12_lacking_93 : decode cX12_lacking 93 = .ok (.iload 4, 2) := dgX12_lacking_1 (93, (.iload 4, 2)) (List.mem_of_getElem? (i := 17) rfl)
theorem dX12_lacking_95 : decode cX12_lacking 95 = .ok (.iconst 3, 1) := dgX12_lacking_1 (95, (.iconst 3, 1)) (List.mem_of_getElem? (i := 18) rfl)
theorem dX12_lacking_96 : decode cX12_lacking 96 = .ok (.iadd, 1) := dgX12_lacking_1 (96, (.iadd, 1)) (List.mem_of_getElem? (i := 19) rfl)
theorem dX12_lacking_97 : decode cX12_lacking 97 = .ok (.iaload, 1) := dgX12_lacking_1 (97, (.iaload, 1)) (List.mem_of_getElem? (i := 20) rfl)
theorem dX12_lacking_98 : decode cX12_lacking 98 = .ok (.iadd, 1) := dgX12_lacking_1 (98, (.iadd, 1)) (List.mem_of_getElem? (i := 21) rfl)
theorem dX12_lacking_99 : decode cX12_lacking 99 = .ok (.if_icmp .ne 7, 3) := dgX12_lacking_1 (99, (.if_icmp .ne 7, 3)) (List.mem_of_getElem? (i := 22) rfl)
theorem dX12_lacking_102 : decode cX12_lacking 102 = .ok (.iconst 1, 1) := dgX12_lacking_1 (102, (.iconst 1, 1)) (List.mem_of_getElem? (i := 23) rfl)
theorem dX12_lacking_103 : decode cX12_lacking 103 = .ok (.goto 5, 3) := dgX12_lacking_1 (103, (.goto 5, 3)) (List.mem_of_getElem? (i := 24) rfl)
theorem dX12_lacking_106 : decode cX12_lacking 106 = .ok (.iload 5, 2) := dgX12_lacking_1 (106, (.iload 5, 2)) (List.mem_of_getElem? (i := 25) rfl)
theorem dX12_lacking_108 : decode cX12_lacking 108 = .ok (.istore 5, 2) := dgX12_lacking_1 (108, (.istore 5, 2)) (List.mem_of_getElem? (i := 26) rfl)
theorem dX12_lacking_110 : decode cX12_lacking 110 = .ok (.iinc 6 1, 3) := dgX12_lacking_1 (110, (.iinc 6 1, 3)) (List.mem_of_getElem? (i := 27) rfl)
theorem dX12_lacking_113 : decode cX12_lacking 113 = .ok (.goto (-52), 3) := dgX12_lacking_1 (113, (.goto (-52), 3)) (List.mem_of_getElem? (i := 28) rfl)
theorem dX12_lacking_116 : decode cX12_lacking 116 = .ok (.iload_n 2, 1) := dgX12_lacking_1 (116, (.iload_n 2, 1)) (List.mem_of_getElem? (i := 29) rfl)
theorem dX12_lacking_117 : decode cX12_lacking 117 = .ok (.iload 5, 2) := dgX12_lacking_1 (117, (.iload 5, 2)) (List.mem_of_getElem? (i := 30) rfl)
theorem dX12_lacking_119 : decode cX12_lacking 119 = .ok (.aload_n 0, 1) := dgX12_lacking_1 (119, (.aload_n 0, 1)) (List.mem_of_getElem? (i := 31) rfl)
theorem dX12_lacking_120 : decode cX12_lacking 120 = .ok (.getfield 13, 3) := dgX12_lacking_1 (120, (.getfield 13, 3)) (List.mem_of_getElem? (i := 32) rfl)
theorem dX12_lacking_123 : decode cX12_lacking 123 = .ok (.iload 4, 2) := dgX12_lacking_1 (123, (.iload 4, 2)) (List.mem_of_getElem? (i := 33) rfl)
theorem dX12_lacking_125 : decode cX12_lacking 125 = .ok (.iconst 5, 1) := dgX12_lacking_1 (125, (.iconst 5, 1)) (List.mem_of_getElem? (i := 34) rfl)
theorem dX12_lacking_126 : decode cX12_lacking 126 = .ok (.iadd, 1) := dgX12_lacking_1 (126, (.iadd, 1)) (List.mem_of_getElem? (i := 35) rfl)
theorem dX12_lacking_127 : decode cX12_lacking 127 = .ok (.iaload, 1) := dgX12_lacking_1 (127, (.iaload, 1)) (List.mem_of_getElem? (i := 36) rfl)
theorem dX12_lacking_128 : decode cX12_lacking 128 = .ok (.if_icmp .eq 9, 3) := dgX12_lacking_1 (128, (.if_icmp .eq 9, 3)) (List.mem_of_getElem? (i := 37) rfl)
theorem dX12_lacking_131 : decode cX12_lacking 131 = .ok (.iconst 1, 1) := dgX12_lacking_1 (131, (.iconst 1, 1)) (List.mem_of_getElem? (i := 38) rfl)
theorem dX12_lacking_132 : decode cX12_lacking 132 = .ok (.iload_n 3, 1) := dgX12_lacking_1 (132, (.iload_n 3, 1)) (List.mem_of_getElem? (i := 39) rfl)
theorem dgX12_lacking_2 : ∀ r ∈ ([(133, (.ishl, 1)), (134, (.goto 4, 3)), (137, (.iconst 0, 1)), (138, (.ior, 1)), (139, (.istore_n 2, 1)), (140, (.iinc 3 1, 3)), (143, (.goto (-139), 3)), (146, (.iload_n 2, 1)), (147, (.ireturn, 1))] : List (Nat × (Instr × Nat))), decode cX12_lacking r.1 = .ok r.2 := by decide +kernel
theorem dX12_lacking_133 : decode cX12_lacking 133 = .ok (.ishl, 1) := dgX12_lacking_2 (133, (.ishl, 1)) (List.mem_of_getElem? (i := 0) rfl)
theorem dX12_lacking_134 : decode cX12_lacking 134 = .ok (.goto 4, 3) := dgX12_lacking_2 (134, (.goto 4, 3)) (List.mem_of_getElem? (i := 1) rfl)
theorem dX12_lacking_137 : decode cX12_lacking 137 = .ok (.iconst 0, 1) := dgX12_lacking_2 (137, (.iconst 0, 1)) (List.mem_of_getElem? (i := 2) rfl)
theorem dX12_lacking_138 : decode cX12_lacking 138 = .ok (.ior, 1) := dgX12_lacking_2 (138, (.ior, 1)) (List.mem_of_getElem? (i := 3) rfl)
theorem dX12_lacking_139 : decode cX12_lacking 139 = .ok (.istore_n 2, 1) := dgX12_lacking_2 (139, (.istore_n 2, 1)) (List.mem_of_getElem? (i := 4) rfl)
theorem dX12_lacking_140 : decode cX12_lacking 140 = .ok (.iinc 3 1, 3) := dgX12_lacking_2 (140, (.iinc 3 1, 3)) (List.mem_of_getElem? (i := 5) rfl)
theorem dX12_lacking_143 : decode cX12_lacking 143 = .ok (.goto (-139), 3) := dgX12_lacking_2 (143, (.goto (-139), 3)) (List.mem_of_getElem? (i := 6) rfl)
theorem dX12_lacking_146 : decode cX12_lacking 146 = .ok (.iload_n 2, 1) := dgX12_lacking_2 (146, (.iload_n 2, 1)) (List.mem_of_getElem? (i := 7) rfl)
theorem dX12_lacking_147 : decode cX12_lacking 147 = .ok (.ireturn, 1) := dgX12_lacking_2 (147, (.ireturn, 1)) (List.mem_of_getElem? (i := 8) rfl)
set_option maxHeartbeats 4000000 in
set_option maxRecDepth 100000 in
theorem n_lacking (l : Launch) (G : g5_G) (b_o b_ro b_se b_re b_pt b_rf b_im b_ke b_tp b_nl b_op b_ar b_pi b_pa b_ws b_hw b_ip b_ah b_be b_me b_tr b_ld b_wn : Nat) (sz : Nat) (u_th : Int32) (u_sa : Int32) (u_fd : Int32) (u_td : Int32) (u_fr : Int32) (u_to : Int32) (u_so : Int32) (u_fa : Int32) (u_bd : Int32) (u_nc : Int32) (u_co : Int32) (u_le : Int32) (u_pd : Int32) (u_od : Int32) (u_la : Int32) (u_bk : Int32) (u_ce : Int32) (u_ho : Int32) (u_wy : Int32) (u_bt : Int32) (u_ps : Int32) (u_tg : Int32) (u_sn : Int32) (u_ic : Int32) (u_wd : Int32) (u_id : Int32) (p_1 : Int32) (u_wo : Int64) (u_va : Int64) (u_su : Int64) (u_st : Int64) (v_ro : Nat → Int32) (v_se : Nat → Int64) (v_re : Nat → Int64) (v_pt : Nat → Int32) (h_u_td : 0 ≤ u_td.toInt ∧ u_td.toInt ≤ 400) (h_u_fr : 0 ≤ u_fr.toInt ∧ u_fr.toInt ≤ 400) (h_u_to : 0 ≤ u_to.toInt ∧ u_to.toInt ≤ 400) (h_u_bd : 0 ≤ u_bd.toInt ∧ u_bd.toInt ≤ 1) (h_u_nc : 0 ≤ u_nc.toInt ∧ u_nc.toInt ≤ 12) (h_u_co : 0 ≤ u_co.toInt ∧ u_co.toInt ≤ 400) (h_u_pd : 0 ≤ u_pd.toInt ∧ u_pd.toInt ≤ 400) (h_u_la : 0 ≤ u_la.toInt ∧ u_la.toInt ≤ 4840) (h_u_bk : 0 ≤ u_bk.toInt ∧ u_bk.toInt ≤ 1) (h_u_ce : 0 ≤ u_ce.toInt ∧ u_ce.toInt ≤ 63) (h_u_ho : 0 ≤ u_ho.toInt ∧ u_ho.toInt ≤ 23) (h_u_wy : 0 ≤ u_wy.toInt ∧ u_wy.toInt ≤ 3) (h_u_bt : 0 ≤ u_bt.toInt ∧ u_bt.toInt ≤ 1000000) (h_u_ps : 0 ≤ u_ps.toInt ∧ u_ps.toInt ≤ 200) (h_u_ic : 0 ≤ u_ic.toInt ∧ u_ic.toInt ≤ 1) (h_u_id : 0 ≤ u_id.toInt ∧ u_id.toInt ≤ 1) (r_ro : MI v_ro) (r_pt : PTI v_pt) : Met l yX12_lacking (wsG yX12_lacking cX12_lacking 7 (some .int)) ({ frames := 7, cells := 0, slots := 0, locals := 176 }) (va_Pc [.ref b_o, .int p_1] (g5_P G [(b_o, (oc12 u_th u_sa b_rf b_ro b_im b_ke u_fd b_tp u_td u_fr u_to u_so u_wo u_fa u_bd u_nc b_nl u_co b_op b_ar u_le b_pi b_pa u_pd u_od b_ws b_hw u_la b_se b_re u_bk u_va u_su u_ce u_ho u_wy u_bt u_ps b_pt u_tg u_sn b_ip u_ic b_ah b_be b_me u_wd b_tr b_ld u_st b_wn u_id)), (b_ro, (arI G 5740 v_ro)), (b_se, (arJ G 13 v_se)), (b_re, (arJ G 400 v_re)), (b_pt, (arI G 200 v_pt))] sz)) (va_Qi (fun (r : Int32) (u : va_W) => (∃ (o_r : Int32) (o_la : Int32) (o_bk : Int32) (o_va : Int64) (o_su : Int64) (o_ce : Int32) (o_ho : Int32) (o_wy : Int32) (o_bt : Int32) (o_ps : Int32) (o_tg : Int32) (o_sn : Int32) (o_se : Nat → Int64) (o_re : Nat → Int64) (o_pt : Nat → Int32), (0 ≤ o_la.toInt ∧ o_la.toInt ≤ 4840) ∧ (0 ≤ o_bk.toInt ∧ o_bk.toInt ≤ 1) ∧ (0 ≤ o_ce.toInt ∧ o_ce.toInt ≤ 63) ∧ (0 ≤ o_ho.toInt ∧ o_ho.toInt ≤ 23) ∧ (0 ≤ o_wy.toInt ∧ o_wy.toInt ≤ 3) ∧ (0 ≤ o_bt.toInt ∧ o_bt.toInt ≤ 1000000) ∧ (0 ≤ o_ps.toInt ∧ o_ps.toInt ≤ 200) ∧ (PTI o_pt) ∧ (r = o_r) ∧ (u = [(b_o, (oc12 u_th u_sa b_rf b_ro b_im b_ke u_fd b_tp u_td u_fr u_to u_so u_wo u_fa u_bd u_nc b_nl u_co b_op b_ar u_le b_pi b_pa u_pd u_od b_ws b_hw o_la b_se b_re o_bk o_va o_su o_ce o_ho o_wy o_bt o_ps b_pt o_tg o_sn b_ip u_ic b_ah b_be b_me u_wd b_tr b_ld u_st b_wn u_id)), (b_ro, (arI G 5740 v_ro)), (b_se, (arJ G 13 o_se)), (b_re, (arJ G 400 o_re)), (b_pt, (arI G 200 o_pt))]))) (g5_B G (va_A [(b_o, (oc12 u_th u_sa b_rf b_ro b_im b_ke u_fd b_tp u_td u_fr u_to u_so u_wo u_fa u_bd u_nc b_nl u_co b_op b_ar u_le b_pi b_pa u_pd u_od b_ws b_hw u_la b_se b_re u_bk u_va u_su u_ce u_ho u_wy u_bt u_ps b_pt u_tg u_sn b_ip u_ic b_ah b_be b_me u_wd b_tr b_ld u_st b_wn u_id)), (b_ro, (arI G 5740 v_ro)), (b_se, (arJ G 13 v_se)), (b_re, (arJ G 400 v_re)), (b_pt, (arI G 200 v_pt))] sz)) (va_A [(b_o, (oc12 u_th u_sa b_rf b_ro b_im b_ke u_fd b_tp u_td u_fr u_to u_so u_wo u_fa u_bd u_nc b_nl u_co b_op b_ar u_le b_pi b_pa u_pd u_od b_ws b_hw u_la b_se b_re u_bk u_va u_su u_ce u_ho u_wy u_bt u_ps b_pt u_tg u_sn b_ip u_ic b_ah b_be b_me u_wd b_tr b_ld u_st b_wn u_id)), (b_ro, (arI G 5740 v_ro)), (b_se, (arJ G 13 v_se)), (b_re, (arJ G 400 v_re)), (b_pt, (arI G 200 v_pt))] sz)) 0 0 (va_A [(b_o, (oc12 u_th u_sa b_rf b_ro b_im b_ke u_fd b_tp u_td u_fr u_to u_so u_wo u_fa u_bd u_nc b_nl u_co b_op b_ar u_le b_pi b_pa u_pd u_od b_ws b_hw u_la b_se b_re u_bk u_va u_su u_ce u_ho u_wy u_bt u_ps b_pt u_tg u_sn b_ip u_ic b_ah b_be b_me u_wd b_tr b_ld u_st b_wn u_id)), (b_ro, (arI G 5740 v_ro)), (b_se, (arJ G 13 v_se)), (b_re, (arJ G 400 v_re)), (b_pt, (arI G 200 v_pt))] sz) := by
  refine Met.ofW (cc := cX12_lacking) (maxL := 7) (ret := (some .int)) (by decide) rfl ?_
  intro p e s m args below meth c s₁ B hml hv
  obtain ⟨rfl, hsz, hP, hK, hD0, hN, hT⟩ := hv
  have hx := B.exec
  have hb := B.bytes
  have hr := B.returns
  have hts : ∀ w ∈ tblG, w.before _ s = true := fun w h => atoms_spec (ws := (wsG yX12_lacking cX12_lacking 7 (some .int))) B.pre w (List.mem_cons_of_mem _ h)
  have hown : s.vm.findClass RX12 = some m.cls := findClass_of_methodNamed B.named
  have hlocks := B.notSynchronized
  subst hsz
  have hD := hD0.self (sz := s.heap.size)
  generalize hAe : va_A [(b_o, (oc12 u_th u_sa b_rf b_ro b_im b_ke u_fd b_tp u_td u_fr u_to u_so u_wo u_fa u_bd u_nc b_nl u_co b_op b_ar u_le b_pi b_pa u_pd u_od b_ws b_hw u_la b_se b_re u_bk u_va u_su u_ce u_ho u_wy u_bt u_ps b_pt u_tg u_sn b_ip u_ic b_ah b_be b_me u_wd b_tr b_ld u_st b_wn u_id)), (b_ro, (arI G 5740 v_ro)), (b_se, (arJ G 13 v_se)), (b_re, (arJ G 400 v_re)), (b_pt, (arI G 200 v_pt))] s.heap.size = A at hD hT ⊢
  have hA : ∀ q : Nat, s.heap.size ≤ q → A q := fun q h => by rw [← hAe]; exact Or.inr h
  have hS : va_S A s.heap s.heap [] := va_S.rf
  have hP : va_P G.1 vwCl [(b_o, (oc12 u_th u_sa b_rf b_ro b_im b_ke u_fd b_tp u_td u_fr u_to u_so u_wo u_fa u_bd u_nc b_nl u_co b_op b_ar u_le b_pi b_pa u_pd u_od b_ws b_hw u_la b_se b_re u_bk u_va u_su u_ce u_ho u_wy u_bt u_ps b_pt u_tg u_sn b_ip u_ic b_ah b_be b_me u_wd b_tr b_ld u_st b_wn u_id)), (b_ro, (arI G 5740 v_ro)), (b_se, (arJ G 13 v_se)), (b_re, (arJ G 400 v_re)), (b_pt, (arI G 200 v_pt))] s.heap := hP
  have hl := lv_entry ([.ref b_o, .int p_1]) (n := 7) (Nat.le_of_ble_eq_true rfl)
  rw [lg_entry_eq]
  generalize (lg_sl ([.ref b_o, .int p_1]) ++ List.replicate (7 - (lg_sl ([.ref b_o, .int p_1])).length) Slot.unset).toArray = ls at hl ⊢
  have hl : lv_has ls 7 [(0, .ref b_o), (1, .int p_1)] := hl
  refine lv_iconst (v := 0) hx hb dX12_lacking_0 (by decide) ?_
  refine lv_istore_n (lv' := [(2, .int 0), (0, .ref b_o), (1, .int p_1)]) hx hb dX12_lacking_1 rfl hl (by decide) rfl (fun ls hl => ?_)
  refine lv_iconst (v := 0) hx hb dX12_lacking_2 (by decide) ?_
  refine lv_istore_n (lv' := [(3, .int 0), (2, .int 0), (0, .ref b_o), (1, .int p_1)]) hx hb dX12_lacking_3 rfl hl (by decide) rfl (fun ls hl => ?_)
  refine g5_loop (α := (Int32) × (Int32) × (Int32) × (Int32) × (Int64) × (Int64) × (Int32) × (Int32) × (Int32) × (Int32) × (Int32) × (Int32) × (Int32) × (Nat → Int64) × (Nat → Int64) × (Nat → Int32)) (fun (q : (Int32) × (Int32) × (Int32) × (Int32) × (Int64) × (Int64) × (Int32) × (Int32) × (Int32) × (Int32) × (Int32) × (Int32) × (Int32) × (Nat → Int64) × (Nat → Int64) × (Nat → Int32)) (ls : Array Slot) (H : Heap) (locs : List Loc) => match q with | (k4_3, k4_2, k4_la, k4_bk, k4_va, k4_su, k4_ce, k4_ho, k4_wy, k4_bt, k4_ps, k4_tg, k4_sn, k4_se, k4_re, k4_pt) => lv_has ls 7 [(2, .int k4_2), (3, .int k4_3), (0, .ref b_o), (1, .int p_1)] ∧ va_P G.1 vwCl [(b_o, (oc12 u_th u_sa b_rf b_ro b_im b_ke u_fd b_tp u_td u_fr u_to u_so u_wo u_fa u_bd u_nc b_nl u_co b_op b_ar u_le b_pi b_pa u_pd u_od b_ws b_hw k4_la b_se b_re k4_bk k4_va k4_su k4_ce k4_ho k4_wy k4_bt k4_ps b_pt k4_tg k4_sn b_ip u_ic b_ah b_be b_me u_wd b_tr b_ld u_st b_wn u_id)), (b_ro, (arI G 5740 v_ro)), (b_se, (arJ G 13 k4_se)), (b_re, (arJ G 400 k4_re)), (b_pt, (arI G 200 k4_pt))] H ∧ va_D A [(b_o, (oc12 u_th u_sa b_rf b_ro b_im b_ke u_fd b_tp u_td u_fr u_to u_so u_wo u_fa u_bd u_nc b_nl u_co b_op b_ar u_le b_pi b_pa u_pd u_od b_ws b_hw k4_la b_se b_re k4_bk k4_va k4_su k4_ce k4_ho k4_wy k4_bt k4_ps b_pt k4_tg k4_sn b_ip u_ic b_ah b_be b_me u_wd b_tr b_ld u_st b_wn u_id)), (b_ro, (arI G 5740 v_ro)), (b_se, (arJ G 13 k4_se)), (b_re, (arJ G 400 k4_re)), (b_pt, (arI G 200 k4_pt))] ∧ va_S A s.heap H locs ∧ (0 ≤ k4_3.toInt ∧ k4_3.toInt ≤ 6) ∧ (0 ≤ k4_la.toInt ∧ k4_la.toInt ≤ 4840) ∧ (0 ≤ k4_bk.toInt ∧ k4_bk.toInt ≤ 1) ∧ (0 ≤ k4_ce.toInt ∧ k4_ce.toInt ≤ 63) ∧ (0 ≤ k4_ho.toInt ∧ k4_ho.toInt ≤ 23) ∧ (0 ≤ k4_wy.toInt ∧ k4_wy.toInt ≤ 3) ∧ (0 ≤ k4_bt.toInt ∧ k4_bt.toInt ≤ 1000000) ∧ (0 ≤ k4_ps.toInt ∧ k4_ps.toInt ≤ 200) ∧ (PTI k4_pt)) (fun (q : (Int32) × (Int32) × (Int32) × (Int32) × (Int64) × (Int64) × (Int32) × (Int32) × (Int32) × (Int32) × (Int32) × (Int32) × (Int32) × (Nat → Int64) × (Nat → Int64) × (Nat → Int32)) => match q with | (k4_3, k4_2, k4_la, k4_bk, k4_va, k4_su, k4_ce, k4_ho, k4_wy, k4_bt, k4_ps, k4_tg, k4_sn, k4_se, k4_re, k4_pt) => Int.toNat (6 - k4_3.toInt)) (0, 0, u_la, u_bk, u_va, u_su, u_ce, u_ho, u_wy, u_bt, u_ps, u_tg, u_sn, v_se, v_re, v_pt) ⟨lv_sub hl [1, 0, 2, 3] rfl, hP, hD, hS, ⟨by decide, by decide⟩, h_u_la, h_u_bk, h_u_ce, h_u_ho, h_u_wy, h_u_bt, h_u_ps, r_pt⟩ ?_
  rintro ⟨k4_3, k4_2, k4_la, k4_bk, k4_va, k4_su, k4_ce, k4_ho, k4_wy, k4_bt, k4_ps, k4_tg, k4_sn, k4_se, k4_re, k4_pt⟩ ls H locs ⟨hl, hP, hD, hS, i_1, i_2, i_3, i_4, i_5, i_6, i_7, i_8, i_9⟩ ih_4_10
  have hl : lv_has ls 7 [(2, .int k4_2), (3, .int k4_3), (0, .ref b_o), (1, .int p_1)] := hl
  have i_1 : 0 ≤ k4_3.toInt ∧ k4_3.toInt ≤ 6 := i_1
  have i_2 : 0 ≤ k4_la.toInt ∧ k4_la.toInt ≤ 4840 := i_2
  have i_3 : 0 ≤ k4_bk.toInt ∧ k4_bk.toInt ≤ 1 := i_3
  have i_4 : 0 ≤ k4_ce.toInt ∧ k4_ce.toInt ≤ 63 := i_4
  have i_5 : 0 ≤ k4_ho.toInt ∧ k4_ho.toInt ≤ 23 := i_5
  have i_6 : 0 ≤ k4_wy.toInt ∧ k4_wy.toInt ≤ 3 := i_6
  have i_7 : 0 ≤ k4_bt.toInt ∧ k4_bt.toInt ≤ 1000000 := i_7
  have i_8 : 0 ≤ k4_ps.toInt ∧ k4_ps.toInt ≤ 200 := i_8
  have i_9 : PTI k4_pt := i_9
  refine g5_rs [(b_o, (oc12 u_th u_sa b_rf b_ro b_im b_ke u_fd b_tp u_td u_fr u_to u_so u_wo u_fa u_bd u_nc b_nl u_co b_op b_ar u_le b_pi b_pa u_pd u_od b_ws b_hw k4_la b_se b_re k4_bk k4_va k4_su k4_ce k4_ho k4_wy k4_bt k4_ps b_pt k4_tg k4_sn b_ip u_ic b_ah b_be b_me u_wd b_tr b_ld u_st b_wn u_id)), (b_ro, (arI G 5740 v_ro)), (b_se, (arJ G 13 k4_se)), (b_re, (arJ G 400 k4_re)), (b_pt, (arI G 200 k4_pt))] hP hD (fun hP hD => ?_)
  refine lv_iload_n hx hb dX12_lacking_4 rfl (lv_at hl 1 rfl) ?_
  refine lv_aload_n hx hb dX12_lacking_5 rfl (lv_at hl 2 rfl) ?_
  refine va_get (D := G.1) (ci := 12) (v := .ref b_ro) (C := RX12) (T := TX12) (N := 52) hx hb hts inG_X12 hown hK hP 0 rfl rfl 3 (by decide) (hts _ fl_X12_13) (fun _ h9 => h9) rfl dX12_lacking_6 ?_
  refine lv_bipush (v := 8) hx hb dX12_lacking_9 (by decide) ?_
  refine va_iald hx hb hK hP 1 0 rfl rfl (i := 8) (by unfold vp_in; decide) dX12_lacking_11 ?_
  refine g5_ti (v := (v_ro 8)) rfl ?_
  have hr_11 : 0 ≤ (v_ro 8).toInt ∧ (v_ro 8).toInt ≤ 6 := mi_8 r_ro
  refine lv_icmp_ge (tgt := 146) hx hb dX12_lacking_12 (by decide) (fun c_12 => ?_) (fun c_12 => ?_)
  ·
    have i_12 : k4_3.toInt ≥ (v_ro 8).toInt := by have z := g5_ge (a := k4_3.toInt) (b := (v_ro 8).toInt) (by rfl) (by rfl) c_12; omega
    refine lv_iload_n hx hb dX12_lacking_146 rfl (lv_at hl 0 rfl) ?_
    exact W.iret (v := k4_2) hx hb hr (fun t ht hW => ⟨⟨k4_2, [(b_o, (oc12 u_th u_sa b_rf b_ro b_im b_ke u_fd b_tp u_td u_fr u_to u_so u_wo u_fa u_bd u_nc b_nl u_co b_op b_ar u_le b_pi b_pa u_pd u_od b_ws b_hw k4_la b_se b_re k4_bk k4_va k4_su k4_ce k4_ho k4_wy k4_bt k4_ps b_pt k4_tg k4_sn b_ip u_ic b_ah b_be b_me u_wd b_tr b_ld u_st b_wn u_id)), (b_ro, (arI G 5740 v_ro)), (b_se, (arJ G 13 k4_se)), (b_re, (arJ G 400 k4_re)), (b_pt, (arI G 200 k4_pt))], rfl, ⟨k4_2, k4_la, k4_bk, k4_va, k4_su, k4_ce, k4_ho, k4_wy, k4_bt, k4_ps, k4_tg, k4_sn, k4_se, k4_re, k4_pt, i_2, i_3, i_4, i_5, i_6, i_7, i_8, i_9, rfl, rfl⟩, by rw [ht]; exact hP.sub [0, 1, 2, 3, 4] rfl, hD.sub [0, 1, 2, 3, 4] (by decide) rfl⟩, hS.F ht⟩) hS.2.2 dX12_lacking_147
  ·
    have i_12 : k4_3.toInt < (v_ro 8).toInt := by have z := g5_geN (a := k4_3.toInt) (b := (v_ro 8).toInt) (by rfl) (by rfl) c_12; omega
    refine lv_sipush (v := 300) hx hb dX12_lacking_15 (by decide) ?_
    refine lv_bipush (v := 6) hx hb dX12_lacking_18 (by decide) ?_
    refine lv_iload_n hx hb dX12_lacking_20 rfl (lv_at hl 1 rfl) ?_
    refine lv_imul hx hb dX12_lacking_21 ?_
    have t_13 : (6 * k4_3).toInt = 6 * k4_3.toInt := g5_imul (a := 6) (b := k4_3.toInt) (by decide) (by rfl) (by omega) (by omega)
    refine lv_iadd hx hb dX12_lacking_22 ?_
    have t_14 : (300 + (6 * k4_3)).toInt = 300 + (6 * k4_3).toInt := g5_iadd (a := 300) (b := (6 * k4_3).toInt) (by decide) (by rfl) (by omega) (by omega)
    refine lv_istore (lv' := [(4, .int (300 + (6 * k4_3))), (2, .int k4_2), (3, .int k4_3), (0, .ref b_o), (1, .int p_1)]) hx hb dX12_lacking_23 hl (by decide) rfl (fun ls hl => ?_)
    refine lv_aload_n hx hb dX12_lacking_25 rfl (lv_at hl 3 rfl) ?_
    refine lv_aload_n hx hb dX12_lacking_26 rfl (lv_at hl 3 rfl) ?_
    refine va_get (D := G.1) (ci := 12) (v := .ref b_ro) (C := RX12) (T := TX12) (N := 52) hx hb hts inG_X12 hown hK hP 0 rfl rfl 3 (by decide) (hts _ fl_X12_13) (fun _ h9 => h9) rfl dX12_lacking_27 ?_
    refine lv_iload hx hb dX12_lacking_30 (lv_at hl 0 rfl) ?_
    refine va_iald hx hb hK hP 1 0 rfl rfl (i := (300 + (6 * k4_3))) (vp_in_iff.mpr ⟨by omega, by omega⟩) dX12_lacking_32 ?_
    have hv_15 : 0 ≤ (v_ro (300 + (6 * k4_3)).toNatClampNeg).toInt ∧ (v_ro (300 + (6 * k4_3)).toNatClampNeg).toInt ≤ 63 := mi_300_0 r_ro (by have zz := g5_clamp (300 + (6 * k4_3)); omega) (by have zz := g5_clamp (300 + (6 * k4_3)); omega) (by have zz := g5_clamp (300 + (6 * k4_3)); omega)
    refine lv_aload_n hx hb dX12_lacking_33 rfl (lv_at hl 3 rfl) ?_
    refine va_get (D := G.1) (ci := 12) (v := .ref b_ro) (C := RX12) (T := TX12) (N := 52) hx hb hts inG_X12 hown hK hP 0 rfl rfl 3 (by decide) (hts _ fl_X12_13) (fun _ h9 => h9) rfl dX12_lacking_34 ?_
    refine lv_iload hx hb dX12_lacking_37 (lv_at hl 0 rfl) ?_
    refine lv_iconst (v := 1) hx hb dX12_lacking_39 (by decide) ?_
    refine lv_iadd hx hb dX12_lacking_40 ?_
    have t_16 : ((300 + (6 * k4_3)) + 1).toInt = (300 + (6 * k4_3)).toInt + 1 := g5_iadd (a := (300 + (6 * k4_3)).toInt) (b := 1) (by rfl) (by decide) (by omega) (by omega)
    refine va_iald hx hb hK hP 1 0 rfl rfl (i := ((300 + (6 * k4_3)) + 1)) (vp_in_iff.mpr ⟨by omega, by omega⟩) dX12_lacking_41 ?_
    have hv_17 : 0 ≤ (v_ro ((300 + (6 * k4_3)) + 1).toNatClampNeg).toInt ∧ (v_ro ((300 + (6 * k4_3)) + 1).toNatClampNeg).toInt ≤ 3 := mi_300_1 r_ro (by have zz := g5_clamp ((300 + (6 * k4_3)) + 1); omega) (by have zz := g5_clamp ((300 + (6 * k4_3)) + 1); omega) (by have zz := g5_clamp ((300 + (6 * k4_3)) + 1); omega)
    refine lv_aload_n hx hb dX12_lacking_42 rfl (lv_at hl 3 rfl) ?_
    refine va_get (D := G.1) (ci := 12) (v := .ref b_ro) (C := RX12) (T := TX12) (N := 52) hx hb hts inG_X12 hown hK hP 0 rfl rfl 3 (by decide) (hts _ fl_X12_13) (fun _ h9 => h9) rfl dX12_lacking_43 ?_
    refine lv_iload hx hb dX12_lacking_46 (lv_at hl 0 rfl) ?_
    refine lv_iconst (v := 2) hx hb dX12_lacking_48 (by decide) ?_
    refine lv_iadd hx hb dX12_lacking_49 ?_
    have t_18 : ((300 + (6 * k4_3)) + 2).toInt = (300 + (6 * k4_3)).toInt + 2 := g5_iadd (a := (300 + (6 * k4_3)).toInt) (b := 2) (by rfl) (by decide) (by omega) (by omega)
    refine va_iald hx hb hK hP 1 0 rfl rfl (i := ((300 + (6 * k4_3)) + 2)) (vp_in_iff.mpr ⟨by omega, by omega⟩) dX12_lacking_50 ?_
    have hv_19 : 0 ≤ (v_ro ((300 + (6 * k4_3)) + 2).toNatClampNeg).toInt ∧ (v_ro ((300 + (6 * k4_3)) + 2).toNatClampNeg).toInt ≤ 23 := mi_300_2 r_ro (by have zz := g5_clamp ((300 + (6 * k4_3)) + 2); omega) (by have zz := g5_clamp ((300 + (6 * k4_3)) + 2); omega) (by have zz := g5_clamp ((300 + (6 * k4_3)) + 2); omega)
    refine lv_iload_n hx hb dX12_lacking_51 rfl (lv_at hl 4 rfl) ?_
    obtain ⟨hPc, hDc, hFc⟩ := g5_sub3 (wc := [(b_o, (oc12 u_th u_sa b_rf b_ro b_im b_ke u_fd b_tp u_td u_fr u_to u_so u_wo u_fa u_bd u_nc b_nl u_co b_op b_ar u_le b_pi b_pa u_pd u_od b_ws b_hw k4_la b_se b_re k4_bk k4_va k4_su k4_ce k4_ho k4_wy k4_bt k4_ps b_pt k4_tg k4_sn b_ip u_ic b_ah b_be b_me u_wd b_tr b_ld u_st b_wn u_id)), (b_ro, (arI G 5740 v_ro)), (b_se, (arJ G 13 k4_se)), (b_re, (arJ G 400 k4_re)), (b_pt, (arI G 200 k4_pt))]) hP hD hS hA [0, 1, 2, 3, 4] (by decide) rfl
    refine va_callv (va_runV (As := [.int (v_ro (300 + (6 * k4_3)).toNatClampNeg), .int (v_ro ((300 + (6 * k4_3)) + 1).toNatClampNeg), .int (v_ro ((300 + (6 * k4_3)) + 2).toNatClampNeg), .int p_1]) (rest := []) ⟨hx, hb, hml, hown, hts⟩ (n_go l G b_o b_ro b_se b_re b_pt b_rf b_im b_ke b_tp b_nl b_op b_ar b_pi b_pa b_ws b_hw b_ip b_ah b_be b_me b_tr b_ld b_wn H.size u_th u_sa u_fd u_td u_fr u_to u_so u_fa u_bd u_nc u_co u_le u_pd u_od k4_la k4_bk k4_ce k4_ho k4_wy k4_bt k4_ps k4_tg k4_sn u_ic u_wd u_id (v_ro (300 + (6 * k4_3)).toNatClampNeg) (v_ro ((300 + (6 * k4_3)) + 1).toNatClampNeg) (v_ro ((300 + (6 * k4_3)) + 2).toNatClampNeg) p_1 u_wo k4_va k4_su u_st v_ro k4_se k4_re k4_pt h_u_td h_u_fr h_u_to h_u_bd h_u_nc h_u_co h_u_pd i_2 i_3 i_4 i_5 i_6 i_7 i_8 h_u_ic h_u_id ⟨by omega, by omega⟩ ⟨by omega, by omega⟩ ⟨by omega, by omega⟩ (r_ro) (i_9)) (cwV 4 hts gV_X12_401 rfl rfl rfl hv_X12_go ⟨Nat.le_of_ble_eq_true rfl, Nat.le_of_ble_eq_true rfl⟩) (g5_preV hPc hK hDc hN hT hS hFc (ci := 12) (q0 := 0) rfl rfl) rfl rfl hl.1 rfl (lv_room (Nat.le_of_ble_eq_true rfl)) dX12_lacking_52 ⟨Nat.le_of_ble_eq_true rfl, Nat.le_of_ble_eq_true rfl⟩) hS (fun q _ h => hFc q h) hFc (fun u t H1 locs ht hvm hw hB hz1 hk1 hS => ?_)
    obtain ⟨hP1, hD1⟩ := hB
    rw [ht] at hP1
    obtain ⟨z28, z29, z30, z31, z32, z33, z34, z35, z36, z37, z38, z39, z40, z41, i_20, i_21, i_22, i_23, i_24, i_25, i_26, i_27, rfl⟩ := hw
    have i_20 : 0 ≤ z28.toInt ∧ z28.toInt ≤ 4840 := i_20
    have i_21 : 0 ≤ z29.toInt ∧ z29.toInt ≤ 1 := i_21
    have i_22 : 0 ≤ z32.toInt ∧ z32.toInt ≤ 63 := i_22
    have i_23 : 0 ≤ z33.toInt ∧ z33.toInt ≤ 23 := i_23
    have i_24 : 0 ≤ z34.toInt ∧ z34.toInt ≤ 3 := i_24
    have i_25 : 0 ≤ z35.toInt ∧ z35.toInt ≤ 1000000 := i_25
    have i_26 : 0 ≤ z36.toInt ∧ z36.toInt ≤ 200 := i_26
    have i_27 : PTI z41 := i_27
    obtain ⟨hP, hD⟩ := va_join (wr := []) hP hD [0, 1, 2, 3, 4] [] rfl rfl (by decide) (by decide) hk1 hFc hP1 hD1
    generalize H1 = H at hP hS ⊢
    refine g5_rs [(b_o, (oc12 u_th u_sa b_rf b_ro b_im b_ke u_fd b_tp u_td u_fr u_to u_so u_wo u_fa u_bd u_nc b_nl u_co b_op b_ar u_le b_pi b_pa u_pd u_od b_ws b_hw z28 b_se b_re z29 z30 z31 z32 z33 z34 z35 z36 b_pt z37 z38 b_ip u_ic b_ah b_be b_me u_wd b_tr b_ld u_st b_wn u_id)), (b_ro, (arI G 5740 v_ro)), (b_se, (arJ G 13 z39)), (b_re, (arJ G 400 z40)), (b_pt, (arI G 200 z41))] hP hD (fun hP hD => ?_)
    refine lv_iconst (v := 0) hx hb dX12_lacking_55 (by decide) ?_
    refine lv_istore (lv' := [(5, .int 0), (4, .int (300 + (6 * k4_3))), (2, .int k4_2), (3, .int k4_3), (0, .ref b_o), (1, .int p_1)]) hx hb dX12_lacking_56 hl (by decide) rfl (fun ls hl => ?_)
    refine lv_iconst (v := 0) hx hb dX12_lacking_58 (by decide) ?_
    refine lv_istore (lv' := [(6, .int 0), (5, .int 0), (4, .int (300 + (6 * k4_3))), (2, .int k4_2), (3, .int k4_3), (0, .ref b_o), (1, .int p_1)]) hx hb dX12_lacking_59 hl (by decide) rfl (fun ls hl => ?_)
    refine g5_loop (α := (Int32) × (Int32)) (fun (q : (Int32) × (Int32)) (ls : Array Slot) (H : Heap) (locs : List Loc) => match q with | (k61_6, k61_5) => lv_has ls 7 [(5, .int k61_5), (6, .int k61_6), (4, .int (300 + (6 * k4_3))), (2, .int k4_2), (3, .int k4_3), (0, .ref b_o), (1, .int p_1)] ∧ va_P G.1 vwCl [(b_o, (oc12 u_th u_sa b_rf b_ro b_im b_ke u_fd b_tp u_td u_fr u_to u_so u_wo u_fa u_bd u_nc b_nl u_co b_op b_ar u_le b_pi b_pa u_pd u_od b_ws b_hw z28 b_se b_re z29 z30 z31 z32 z33 z34 z35 z36 b_pt z37 z38 b_ip u_ic b_ah b_be b_me u_wd b_tr b_ld u_st b_wn u_id)), (b_ro, (arI G 5740 v_ro)), (b_se, (arJ G 13 z39)), (b_re, (arJ G 400 z40)), (b_pt, (arI G 200 z41))] H ∧ va_D A [(b_o, (oc12 u_th u_sa b_rf b_ro b_im b_ke u_fd b_tp u_td u_fr u_to u_so u_wo u_fa u_bd u_nc b_nl u_co b_op b_ar u_le b_pi b_pa u_pd u_od b_ws b_hw z28 b_se b_re z29 z30 z31 z32 z33 z34 z35 z36 b_pt z37 z38 b_ip u_ic b_ah b_be b_me u_wd b_tr b_ld u_st b_wn u_id)), (b_ro, (arI G 5740 v_ro)), (b_se, (arJ G 13 z39)), (b_re, (arJ G 400 z40)), (b_pt, (arI G 200 z41))] ∧ va_S A s.heap H locs ∧ (0 ≤ k61_6.toInt ∧ k61_6.toInt ≤ 200)) (fun (q : (Int32) × (Int32)) => match q with | (k61_6, k61_5) => Int.toNat (200 - k61_6.toInt)) (0, 0) ⟨lv_sub hl [1, 0, 2, 3, 4, 5, 6] rfl, hP, hD, hS, ⟨by decide, by decide⟩⟩ ?_
    rintro ⟨k61_6, k61_5⟩ ls H locs ⟨hl, hP, hD, hS, i_42⟩ ih_61_43
    have hl : lv_has ls 7 [(5, .int k61_5), (6, .int k61_6), (4, .int (300 + (6 * k4_3))), (2, .int k4_2), (3, .int k4_3), (0, .ref b_o), (1, .int p_1)] := hl
    have i_42 : 0 ≤ k61_6.toInt ∧ k61_6.toInt ≤ 200 := i_42
    refine g5_rs [(b_o, (oc12 u_th u_sa b_rf b_ro b_im b_ke u_fd b_tp u_td u_fr u_to u_so u_wo u_fa u_bd u_nc b_nl u_co b_op b_ar u_le b_pi b_pa u_pd u_od b_ws b_hw z28 b_se b_re z29 z30 z31 z32 z33 z34 z35 z36 b_pt z37 z38 b_ip u_ic b_ah b_be b_me u_wd b_tr b_ld u_st b_wn u_id)), (b_ro, (arI G 5740 v_ro)), (b_se, (arJ G 13 z39)), (b_re, (arJ G 400 z40)), (b_pt, (arI G 200 z41))] hP hD (fun hP hD => ?_)
    refine lv_iload hx hb dX12_lacking_61 (lv_at hl 1 rfl) ?_
    refine lv_aload_n hx hb dX12_lacking_63 rfl (lv_at hl 5 rfl) ?_
    refine va_get (D := G.1) (ci := 12) (v := .int z36) (C := RX12) (T := TX12) (N := 52) hx hb hts inG_X12 hown hK hP 0 rfl rfl 37 (by decide) (hts _ fl_X12_358) (fun _ h9 => h9) rfl dX12_lacking_64 ?_
    refine lv_icmp_ge (tgt := 116) hx hb dX12_lacking_67 (by decide) (fun c_44 => ?_) (fun c_44 => ?_)
    ·
      have i_44 : k61_6.toInt ≥ z36.toInt := by have z := g5_ge (a := k61_6.toInt) (b := z36.toInt) (by rfl) (by rfl) c_44; omega
      refine lv_iload_n hx hb dX12_lacking_116 rfl (lv_at hl 3 rfl) ?_
      refine lv_iload hx hb dX12_lacking_117 (lv_at hl 0 rfl) ?_
      refine lv_aload_n hx hb dX12_lacking_119 rfl (lv_at hl 5 rfl) ?_
      refine va_get (D := G.1) (ci := 12) (v := .ref b_ro) (C := RX12) (T := TX12) (N := 52) hx hb hts inG_X12 hown hK hP 0 rfl rfl 3 (by decide) (hts _ fl_X12_13) (fun _ h9 => h9) rfl dX12_lacking_120 ?_
      refine lv_iload hx hb dX12_lacking_123 (lv_at hl 2 rfl) ?_
      refine lv_iconst (v := 5) hx hb dX12_lacking_125 (by decide) ?_
      refine lv_iadd hx hb dX12_lacking_126 ?_
      have t_45 : ((300 + (6 * k4_3)) + 5).toInt = (300 + (6 * k4_3)).toInt + 5 := g5_iadd (a := (300 + (6 * k4_3)).toInt) (b := 5) (by rfl) (by decide) (by omega) (by omega)
      refine va_iald hx hb hK hP 1 0 rfl rfl (i := ((300 + (6 * k4_3)) + 5)) (vp_in_iff.mpr ⟨by omega, by omega⟩) dX12_lacking_127 ?_
      refine lv_icmp_eq (tgt := 137) hx hb dX12_lacking_128 (by decide) (fun c_46 => ?_) (fun c_46 => ?_)
      ·
        have i_46 : k61_5.toInt = (v_ro ((300 + (6 * k4_3)) + 5).toNatClampNeg).toInt := by have z := g5_eq (a := k61_5.toInt) (b := (v_ro ((300 + (6 * k4_3)) + 5).toNatClampNeg).toInt) (by rfl) (by rfl) c_46; omega
        refine lv_iconst (v := 0) hx hb dX12_lacking_137 (by decide) ?_
        refine lv_ior hx hb dX12_lacking_138 ?_
        refine g5_ti (v := k4_2) (by simp) ?_
        refine lv_istore_n (lv' := [(2, .int k4_2), (5, .int k61_5), (6, .int k61_6), (4, .int (300 + (6 * k4_3))), (3, .int k4_3), (0, .ref b_o), (1, .int p_1)]) hx hb dX12_lacking_139 rfl hl (by decide) rfl (fun ls hl => ?_)
        refine lv_iinc (v := (k4_3 + 1)) (lv' := [(3, .int (k4_3 + 1)), (2, .int k4_2), (5, .int k61_5), (6, .int k61_6), (4, .int (300 + (6 * k4_3))), (0, .ref b_o), (1, .int p_1)]) hx hb dX12_lacking_140 hl (k := 4) rfl rfl (by decide) rfl (fun ls hl => ?_)
        have t_47 : (k4_3 + 1).toInt = k4_3.toInt + 1 := g5_iadd (a := k4_3.toInt) (b := 1) rfl (by decide) (by omega) (by omega)
        refine lv_goto (tgt := 4) hx hb dX12_lacking_143 (by decide) ?_
        exact ih_4_10 ((k4_3 + 1), k4_2, z28, z29, z30, z31, z32, z33, z34, z35, z36, z37, z38, z39, z40, z41) ls H locs (show Int.toNat (6 - (k4_3 + 1).toInt) < Int.toNat (6 - k4_3.toInt) from g_up (show k4_3.toInt < (k4_3 + 1).toInt by omega) (show k4_3.toInt < 6 by omega)) ⟨lv_sub hl [1, 0, 5, 6] rfl, hP, hD, hS, ⟨by omega, by omega⟩, i_20, i_21, i_22, i_23, i_24, i_25, i_26, i_27⟩
      ·
        have n_46 : gNe (k61_5.toInt) ((v_ro ((300 + (6 * k4_3)) + 5).toNatClampNeg).toInt) := by have z := g5_eqN (a := k61_5.toInt) (b := (v_ro ((300 + (6 * k4_3)) + 5).toNatClampNeg).toInt) (by rfl) (by rfl) c_46; unfold gNe; omega
        refine lv_iconst (v := 1) hx hb dX12_lacking_131 (by decide) ?_
        refine lv_iload_n hx hb dX12_lacking_132 rfl (lv_at hl 4 rfl) ?_
        refine lv_ishl hx hb dX12_lacking_133 ?_
        refine lv_goto (tgt := 138) hx hb dX12_lacking_134 (by decide) ?_
        refine lv_ior hx hb dX12_lacking_138 ?_
        refine lv_istore_n (lv' := [(2, .int (k4_2 ||| (1 <<< (k4_3 &&& 31)))), (5, .int k61_5), (6, .int k61_6), (4, .int (300 + (6 * k4_3))), (3, .int k4_3), (0, .ref b_o), (1, .int p_1)]) hx hb dX12_lacking_139 rfl hl (by decide) rfl (fun ls hl => ?_)
        refine lv_iinc (v := (k4_3 + 1)) (lv' := [(3, .int (k4_3 + 1)), (2, .int (k4_2 ||| (1 <<< (k4_3 &&& 31)))), (5, .int k61_5), (6, .int k61_6), (4, .int (300 + (6 * k4_3))), (0, .ref b_o), (1, .int p_1)]) hx hb dX12_lacking_140 hl (k := 4) rfl rfl (by decide) rfl (fun ls hl => ?_)
        have t_48 : (k4_3 + 1).toInt = k4_3.toInt + 1 := g5_iadd (a := k4_3.toInt) (b := 1) rfl (by decide) (by omega) (by omega)
        refine lv_goto (tgt := 4) hx hb dX12_lacking_143 (by decide) ?_
        exact ih_4_10 ((k4_3 + 1), (k4_2 ||| (1 <<< (k4_3 &&& 31))), z28, z29, z30, z31, z32, z33, z34, z35, z36, z37, z38, z39, z40, z41) ls H locs (show Int.toNat (6 - (k4_3 + 1).toInt) < Int.toNat (6 - k4_3.toInt) from g_up (show k4_3.toInt < (k4_3 + 1).toInt by omega) (show k4_3.toInt < 6 by omega)) ⟨lv_sub hl [1, 0, 5, 6] rfl, hP, hD, hS, ⟨by omega, by omega⟩, i_20, i_21, i_22, i_23, i_24, i_25, i_26, i_27⟩
    ·
      have i_44 : k61_6.toInt < z36.toInt := by have z := g5_geN (a := k61_6.toInt) (b := z36.toInt) (by rfl) (by rfl) c_44; omega
      refine lv_aload_n hx hb dX12_lacking_70 rfl (lv_at hl 5 rfl) ?_
      refine va_get (D := G.1) (ci := 12) (v := .ref b_pt) (C := RX12) (T := TX12) (N := 52) hx hb hts inG_X12 hown hK hP 0 rfl rfl 38 (by decide) (hts _ fl_X12_82) (fun _ h9 => h9) rfl dX12_lacking_71 ?_
      refine lv_iload hx hb dX12_lacking_74 (lv_at hl 1 rfl) ?_
      refine va_iald hx hb hK hP 4 0 rfl rfl (i := k61_6) (vp_in_iff.mpr ⟨by omega, by omega⟩) dX12_lacking_76 ?_
      have hr_49 : 0 ≤ (z41 k61_6.toNatClampNeg).toInt ∧ (z41 k61_6.toNatClampNeg).toInt ≤ 1535 := i_27 (k61_6.toNatClampNeg)
      refine lv_bipush (v := 64) hx hb dX12_lacking_77 (by decide) ?_
      refine lv_aload_n hx hb dX12_lacking_79 rfl (lv_at hl 5 rfl) ?_
      refine va_get (D := G.1) (ci := 12) (v := .ref b_ro) (C := RX12) (T := TX12) (N := 52) hx hb hts inG_X12 hown hK hP 0 rfl rfl 3 (by decide) (hts _ fl_X12_13) (fun _ h9 => h9) rfl dX12_lacking_80 ?_
      refine lv_iload hx hb dX12_lacking_83 (lv_at hl 2 rfl) ?_
      refine lv_iconst (v := 4) hx hb dX12_lacking_85 (by decide) ?_
      refine lv_iadd hx hb dX12_lacking_86 ?_
      have t_50 : ((300 + (6 * k4_3)) + 4).toInt = (300 + (6 * k4_3)).toInt + 4 := g5_iadd (a := (300 + (6 * k4_3)).toInt) (b := 4) (by rfl) (by decide) (by omega) (by omega)
      refine va_iald hx hb hK hP 1 0 rfl rfl (i := ((300 + (6 * k4_3)) + 4)) (vp_in_iff.mpr ⟨by omega, by omega⟩) dX12_lacking_87 ?_
      refine lv_imul hx hb dX12_lacking_88 ?_
      refine lv_aload_n hx hb dX12_lacking_89 rfl (lv_at hl 5 rfl) ?_
      refine va_get (D := G.1) (ci := 12) (v := .ref b_ro) (C := RX12) (T := TX12) (N := 52) hx hb hts inG_X12 hown hK hP 0 rfl rfl 3 (by decide) (hts _ fl_X12_13) (fun _ h9 => h9) rfl dX12_lacking_90 ?_
      refine lv_iload hx hb dX12_lacking_93 (lv_at hl 2 rfl) ?_
      refine lv_iconst (v := 3) hx hb dX12_lacking_95 (by decide) ?_
      refine lv_iadd hx hb dX12_lacking_96 ?_
      have t_51 : ((300 + (6 * k4_3)) + 3).toInt = (300 + (6 * k4_3)).toInt + 3 := g5_iadd (a := (300 + (6 * k4_3)).toInt) (b := 3) (by rfl) (by decide) (by omega) (by omega)
      refine va_iald hx hb hK hP 1 0 rfl rfl (i := ((300 + (6 * k4_3)) + 3)) (vp_in_iff.mpr ⟨by omega, by omega⟩) dX12_lacking_97 ?_
      refine lv_iadd hx hb dX12_lacking_98 ?_
      refine lv_icmp_ne (tgt := 106) hx hb dX12_lacking_99 (by decide) (fun c_52 => ?_) (fun c_52 => ?_)
      ·
        have n_52 : gNe ((z41 k61_6.toNatClampNeg).toInt) (((64 * (v_ro ((300 + (6 * k4_3)) + 4).toNatClampNeg)) + (v_ro ((300 + (6 * k4_3)) + 3).toNatClampNeg)).toInt) := by have z := g5_ne (a := (z41 k61_6.toNatClampNeg).toInt) (b := ((64 * (v_ro ((300 + (6 * k4_3)) + 4).toNatClampNeg)) + (v_ro ((300 + (6 * k4_3)) + 3).toNatClampNeg)).toInt) (by rfl) (by rfl) c_52; unfold gNe; omega
        refine lv_iload hx hb dX12_lacking_106 (lv_at hl 0 rfl) ?_
        refine lv_istore (lv' := [(5, .int k61_5), (6, .int k61_6), (4, .int (300 + (6 * k4_3))), (2, .int k4_2), (3, .int k4_3), (0, .ref b_o), (1, .int p_1)]) hx hb dX12_lacking_108 hl (by decide) rfl (fun ls hl => ?_)
        refine lv_iinc (v := (k61_6 + 1)) (lv' := [(6, .int (k61_6 + 1)), (5, .int k61_5), (4, .int (300 + (6 * k4_3))), (2, .int k4_2), (3, .int k4_3), (0, .ref b_o), (1, .int p_1)]) hx hb dX12_lacking_110 hl (k := 1) rfl rfl (by decide) rfl (fun ls hl => ?_)
        have t_53 : (k61_6 + 1).toInt = k61_6.toInt + 1 := g5_iadd (a := k61_6.toInt) (b := 1) rfl (by decide) (by omega) (by omega)
        refine lv_goto (tgt := 61) hx hb dX12_lacking_113 (by decide) ?_
        exact ih_61_43 ((k61_6 + 1), k61_5) ls H locs (show Int.toNat (200 - (k61_6 + 1).toInt) < Int.toNat (200 - k61_6.toInt) from g_up (show k61_6.toInt < (k61_6 + 1).toInt by omega) (show k61_6.toInt < 200 by omega)) ⟨lv_sub hl [1, 0, 2, 3, 4, 5, 6] rfl, hP, hD, hS, ⟨by omega, by omega⟩⟩
      ·
        have i_52 : (z41 k61_6.toNatClampNeg).toInt = ((64 * (v_ro ((300 + (6 * k4_3)) + 4).toNatClampNeg)) + (v_ro ((300 + (6 * k4_3)) + 3).toNatClampNeg)).toInt := by have z := g5_neN (a := (z41 k61_6.toNatClampNeg).toInt) (b := ((64 * (v_ro ((300 + (6 * k4_3)) + 4).toNatClampNeg)) + (v_ro ((300 + (6 * k4_3)) + 3).toNatClampNeg)).toInt) (by rfl) (by rfl) c_52; omega
        refine lv_iconst (v := 1) hx hb dX12_lacking_102 (by decide) ?_
        refine lv_goto (tgt := 108) hx hb dX12_lacking_103 (by decide) ?_
        refine lv_istore (lv' := [(5, .int 1), (6, .int k61_6), (4, .int (300 + (6 * k4_3))), (2, .int k4_2), (3, .int k4_3), (0, .ref b_o), (1, .int p_1)]) hx hb dX12_lacking_108 hl (by decide) rfl (fun ls hl => ?_)
        refine lv_iinc (v := (k61_6 + 1)) (lv' := [(6, .int (k61_6 + 1)), (5, .int 1), (4, .int (300 + (6 * k4_3))), (2, .int k4_2), (3, .int k4_3), (0, .ref b_o), (1, .int p_1)]) hx hb dX12_lacking_110 hl (k := 1) rfl rfl (by decide) rfl (fun ls hl => ?_)
        have t_54 : (k61_6 + 1).toInt = k61_6.toInt + 1 := g5_iadd (a := k61_6.toInt) (b := 1) rfl (by decide) (by omega) (by omega)
        refine lv_goto (tgt := 61) hx hb dX12_lacking_113 (by decide) ?_
        exact ih_61_43 ((k61_6 + 1), 1) ls H locs (show Int.toNat (200 - (k61_6 + 1).toInt) < Int.toNat (200 - k61_6.toInt) from g_up (show k61_6.toInt < (k61_6 + 1).toInt by omega) (show k61_6.toInt < 200 by omega)) ⟨lv_sub hl [1, 0, 2, 3, 4, 5, 6] rfl, hP, hD, hS, ⟨by omega, by omega⟩⟩
theorem dgX12_areSpots_0 : ∀ r ∈ ([(0, (.iload_n 1, 1)), (1, (.i2l, 1)), (2, (.lconst 0, 1)), (3, (.iconst 1, 1)), (4, (.aload_n 0, 1)), (5, (.getfield 13, 3)), (8, (.bipush 7, 2)), (10, (.iaload, 1)), (11, (.ishl, 1)), (12, (.i2l, 1)), (13, (.lconst 1, 1)), (14, (.lsub, 1)), (15, (.invokestatic 121, 3)), (18, (.ireturn, 1))] : List (Nat × (Instr × Nat))), decode cX12_areSpots r.1 = .ok r.2 := by decide +kernel
theorem dX12_areSpots_0 : decode cX12_areSpots 0 = .ok (.iload_n 1, 1) := dgX12_areSpots_0 (0, (.iload_n 1, 1)) (List.mem_of_getElem? (i := 0) rfl)
theorem dX12_areSpots_1 : decode cX12_areSpots 1 = .ok (.i2l, 1) := dgX12_areSpots_0 (1, (.i2l, 1)) (List.mem_of_getElem? (i := 1) rfl)
theorem dX12_areSpots_2 : decode cX12_areSpots 2 = .ok (.lconst 0, 1) := dgX12_areSpots_0 (2, (.lconst 0, 1)) (List.mem_of_getElem? (i := 2) rfl)
theorem dX12_areSpots_3 : decode cX12_areSpots 3 = .ok (.iconst 1, 1) := dgX12_areSpots_0 (3, (.iconst 1, 1)) (List.mem_of_getElem? (i := 3) rfl)
theorem dX12_areSpots_4 : decode cX12_areSpots 4 = .ok (.aload_n 0, 1) := dgX12_areSpots_0 (4, (.aload_n 0, 1)) (List.mem_of_getElem? (i := 4) rfl)
theorem dX12_areSpots_5 : decode cX12_areSpots 5 = .ok (.getfield 13, 3) := dgX12_areSpots_0 (5, (.getfield 13, 3)) (List.mem_of_getElem? (i := 5) rfl)
theorem dX12_areSpots_8 : decode cX12_areSpots 8 = .ok (.bipush 7, 2) := dgX12_areSpots_0 (8, (.bipush 7, 2)) (List.mem_of_getElem? (i := 6) rfl)
theorem dX12_areSpots_10 : decode cX12_areSpots 10 = .ok (.iaload, 1) := dgX12_areSpots_0 (10, (.iaload, 1)) (List.mem_of_getElem? (i := 7) rfl)
theorem dX12_areSpots_11 : decode cX12_areSpots 11 = .ok (.ishl, 1) := dgX12_areSpots_0 (11, (.ishl, 1)) (List.mem_of_getElem? (i := 8) rfl)
theorem dX12_areSpots_12 : decode cX12_areSpots 12 = .ok (.i2l, 1) := dgX12_areSpots_0 (12, (.i2l, 1)) (List.mem_of_getElem? (i := 9) rfl)
theorem dX12_areSpots_13 : decode cX12_areSpots 13 = .ok (.lconst 1, 1) := dgX12_areSpots_0 (13, (.lconst 1, 1)) (List.mem_of_getElem? (i := 10) rfl)
theorem dX12_areSpots_14 : decode cX12_areSpots 14 = .ok (.lsub, 1) := dgX12_areSpots_0 (14, (.lsub, 1)) (List.mem_of_getElem? (i := 11) rfl)
theorem dX12_areSpots_15 : decode cX12_areSpots 15 = .ok (.invokestatic 121, 3) := dgX12_areSpots_0 (15, (.invokestatic 121, 3)) (List.mem_of_getElem? (i := 12) rfl)
theorem dX12_areSpots_18 : decode cX12_areSpots 18 = .ok (.ireturn, 1) := dgX12_areSpots_0 (18, (.ireturn, 1)) (List.mem_of_getElem? (i := 13) rfl)
set_option maxHeartbeats 4000000 in
set_option maxRecDepth 100000 in
theorem n_areSpots (l : Launch) (G : g5_G) (b_o b_ro b_rf b_im b_ke b_tp b_nl b_op b_ar b_pi b_pa b_ws b_hw b_se b_re b_pt b_ip b_ah b_be b_me b_tr b_ld b_wn : Nat) (sz : Nat) (u_th : Int32) (u_sa : Int32) (u_fd : Int32) (u_td : Int32) (u_fr : Int32) (u_to : Int32) (u_so : Int32) (u_fa : Int32) (u_bd : Int32) (u_nc : Int32) (u_co : Int32) (u_le : Int32) (u_pd : Int32) (u_od : Int32) (u_la : Int32) (u_bk : Int32) (u_ce : Int32) (u_ho : Int32) (u_wy : Int32) (u_bt : Int32) (u_ps : Int32) (u_tg : Int32) (u_sn : Int32) (u_ic : Int32) (u_wd : Int32) (u_id : Int32) (p_1 : Int32) (u_wo : Int64) (u_va : Int64) (u_su : Int64) (u_st : Int64) (v_ro : Nat → Int32) (h_u_td : 0 ≤ u_td.toInt ∧ u_td.toInt ≤ 400) (h_u_fr : 0 ≤ u_fr.toInt ∧ u_fr.toInt ≤ 400) (h_u_to : 0 ≤ u_to.toInt ∧ u_to.toInt ≤ 400) (h_u_bd : 0 ≤ u_bd.toInt ∧ u_bd.toInt ≤ 1) (h_u_nc : 0 ≤ u_nc.toInt ∧ u_nc.toInt ≤ 12) (h_u_co : 0 ≤ u_co.toInt ∧ u_co.toInt ≤ 400) (h_u_pd : 0 ≤ u_pd.toInt ∧ u_pd.toInt ≤ 400) (h_u_la : 0 ≤ u_la.toInt ∧ u_la.toInt ≤ 4840) (h_u_bk : 0 ≤ u_bk.toInt ∧ u_bk.toInt ≤ 1) (h_u_ce : 0 ≤ u_ce.toInt ∧ u_ce.toInt ≤ 63) (h_u_ho : 0 ≤ u_ho.toInt ∧ u_ho.toInt ≤ 23) (h_u_wy : 0 ≤ u_wy.toInt ∧ u_wy.toInt ≤ 3) (h_u_bt : 0 ≤ u_bt.toInt ∧ u_bt.toInt ≤ 1000000) (h_u_ps : 0 ≤ u_ps.toInt ∧ u_ps.toInt ≤ 200) (h_u_ic : 0 ≤ u_ic.toInt ∧ u_ic.toInt ≤ 1) (h_u_id : 0 ≤ u_id.toInt ∧ u_id.toInt ≤ 1) (r_ro : MI v_ro) : Met l yX12_areSpots (wsG yX12_areSpots cX12_areSpots 2 (some .boolean)) ({ frames := 1, cells := 0, slots := 0, locals := 25 }) (va_Pc [.ref b_o, .int p_1] (g5_P G [(b_o, (oc12 u_th u_sa b_rf b_ro b_im b_ke u_fd b_tp u_td u_fr u_to u_so u_wo u_fa u_bd u_nc b_nl u_co b_op b_ar u_le b_pi b_pa u_pd u_od b_ws b_hw u_la b_se b_re u_bk u_va u_su u_ce u_ho u_wy u_bt u_ps b_pt u_tg u_sn b_ip u_ic b_ah b_be b_me u_wd b_tr b_ld u_st b_wn u_id)), (b_ro, (arI G 5740 v_ro))] sz)) (va_Qi (fun (r : Int32) (u : va_W) => (∃ (o_r : Int32), (0 ≤ o_r.toInt ∧ o_r.toInt ≤ 1) ∧ (r = o_r) ∧ (u = [(b_o, (oc12 u_th u_sa b_rf b_ro b_im b_ke u_fd b_tp u_td u_fr u_to u_so u_wo u_fa u_bd u_nc b_nl u_co b_op b_ar u_le b_pi b_pa u_pd u_od b_ws b_hw u_la b_se b_re u_bk u_va u_su u_ce u_ho u_wy u_bt u_ps b_pt u_tg u_sn b_ip u_ic b_ah b_be b_me u_wd b_tr b_ld u_st b_wn u_id)), (b_ro, (arI G 5740 v_ro))]))) (g5_B G (va_A [(b_o, (oc12 u_th u_sa b_rf b_ro b_im b_ke u_fd b_tp u_td u_fr u_to u_so u_wo u_fa u_bd u_nc b_nl u_co b_op b_ar u_le b_pi b_pa u_pd u_od b_ws b_hw u_la b_se b_re u_bk u_va u_su u_ce u_ho u_wy u_bt u_ps b_pt u_tg u_sn b_ip u_ic b_ah b_be b_me u_wd b_tr b_ld u_st b_wn u_id)), (b_ro, (arI G 5740 v_ro))] sz)) (va_A [(b_o, (oc12 u_th u_sa b_rf b_ro b_im b_ke u_fd b_tp u_td u_fr u_to u_so u_wo u_fa u_bd u_nc b_nl u_co b_op b_ar u_le b_pi b_pa u_pd u_od b_ws b_hw u_la b_se b_re u_bk u_va u_su u_ce u_ho u_wy u_bt u_ps b_pt u_tg u_sn b_ip u_ic b_ah b_be b_me u_wd b_tr b_ld u_st b_wn u_id)), (b_ro, (arI G 5740 v_ro))] sz)) 0 0 (va_A [(b_o, (oc12 u_th u_sa b_rf b_ro b_im b_ke u_fd b_tp u_td u_fr u_to u_so u_wo u_fa u_bd u_nc b_nl u_co b_op b_ar u_le b_pi b_pa u_pd u_od b_ws b_hw u_la b_se b_re u_bk u_va u_su u_ce u_ho u_wy u_bt u_ps b_pt u_tg u_sn b_ip u_ic b_ah b_be b_me u_wd b_tr b_ld u_st b_wn u_id)), (b_ro, (arI G 5740 v_ro))] sz) := by
  refine Met.ofW (cc := cX12_areSpots) (maxL := 2) (ret := (some .boolean)) (by decide) rfl ?_
  intro p e s m args below meth c s₁ B hml hv
  obtain ⟨rfl, hsz, hP, hK, hD0, hN, hT⟩ := hv
  have hx := B.exec
  have hb := B.bytes
  have hr := B.returns
  have hts : ∀ w ∈ tblG, w.before _ s = true := fun w h => atoms_spec (ws := (wsG yX12_areSpots cX12_areSpots 2 (some .boolean))) B.pre w (List.mem_cons_of_mem _ h)
  have hown : s.vm.findClass RX12 = some m.cls := findClass_of_methodNamed B.named
  have hlocks := B.notSynchronized
  subst hsz
  have hD := hD0.self (sz := s.heap.size)
  generalize hAe : va_A [(b_o, (oc12 u_th u_sa b_rf b_ro b_im b_ke u_fd b_tp u_td u_fr u_to u_so u_wo u_fa u_bd u_nc b_nl u_co b_op b_ar u_le b_pi b_pa u_pd u_od b_ws b_hw u_la b_se b_re u_bk u_va u_su u_ce u_ho u_wy u_bt u_ps b_pt u_tg u_sn b_ip u_ic b_ah b_be b_me u_wd b_tr b_ld u_st b_wn u_id)), (b_ro, (arI G 5740 v_ro))] s.heap.size = A at hD hT ⊢
  have hA : ∀ q : Nat, s.heap.size ≤ q → A q := fun q h => by rw [← hAe]; exact Or.inr h
  have hS : va_S A s.heap s.heap [] := va_S.rf
  have hP : va_P G.1 vwCl [(b_o, (oc12 u_th u_sa b_rf b_ro b_im b_ke u_fd b_tp u_td u_fr u_to u_so u_wo u_fa u_bd u_nc b_nl u_co b_op b_ar u_le b_pi b_pa u_pd u_od b_ws b_hw u_la b_se b_re u_bk u_va u_su u_ce u_ho u_wy u_bt u_ps b_pt u_tg u_sn b_ip u_ic b_ah b_be b_me u_wd b_tr b_ld u_st b_wn u_id)), (b_ro, (arI G 5740 v_ro))] s.heap := hP
  have hl := lv_entry ([.ref b_o, .int p_1]) (n := 2) (Nat.le_of_ble_eq_true rfl)
  rw [lg_entry_eq]
  generalize (lg_sl ([.ref b_o, .int p_1]) ++ List.replicate (2 - (lg_sl ([.ref b_o, .int p_1])).length) Slot.unset).toArray = ls at hl ⊢
  have hl : lv_has ls 2 [(0, .ref b_o), (1, .int p_1)] := hl
  refine lv_iload_n hx hb dX12_areSpots_0 rfl (lv_at hl 1 rfl) ?_
  refine lv_i2l (v := p_1.toInt64) hx hb dX12_areSpots_1 rfl ?_
  refine lv_lconst (v := 0) hx hb dX12_areSpots_2 (by decide) ?_
  refine lv_iconst (v := 1) hx hb dX12_areSpots_3 (by decide) ?_
  refine lv_aload_n hx hb dX12_areSpots_4 rfl (lv_at hl 0 rfl) ?_
  refine va_get (D := G.1) (ci := 12) (v := .ref b_ro) (C := RX12) (T := TX12) (N := 52) hx hb hts inG_X12 hown hK hP 0 rfl rfl 3 (by decide) (hts _ fl_X12_13) (fun _ h9 => h9) rfl dX12_areSpots_5 ?_
  refine lv_bipush (v := 7) hx hb dX12_areSpots_8 (by decide) ?_
  refine va_iald hx hb hK hP 1 0 rfl rfl (i := 7) (by unfold vp_in; decide) dX12_areSpots_10 ?_
  refine g5_ti (v := (v_ro 7)) rfl ?_
  have hr_1 : 0 ≤ (v_ro 7).toInt ∧ (v_ro 7).toInt ≤ 8 := mi_7 r_ro
  refine lv_ishl hx hb dX12_areSpots_11 ?_
  refine lv_i2l (v := (1 <<< ((v_ro 7) &&& 31)).toInt64) hx hb dX12_areSpots_12 rfl ?_
  refine lv_lconst (v := 1) hx hb dX12_areSpots_13 (by decide) ?_
  refine lv_lsub hx hb dX12_areSpots_14 ?_
  obtain ⟨hPc, hDc, hFc⟩ := g5_sub3 (wc := []) hP hD hS hA [] (by decide) rfl
  refine va_calli (va_runS (As := [.long p_1.toInt64, .long 0, .long (((1 <<< ((v_ro 7) &&& 31)).toInt64) - 1)]) (rest := []) ⟨hx, hb, hml, hown, hts⟩ (n_inL l G s.heap.size p_1.toInt64 0 (((1 <<< ((v_ro 7) &&& 31)).toInt64) - 1)) (va_cwS 3 hts gS_X12_121 rfl rfl rfl hs_X12_in ⟨Nat.le_of_ble_eq_true rfl, Nat.le_of_ble_eq_true rfl⟩) (g5_preS hPc hK hDc hN hT hS hFc) rfl rfl hl.1 rfl (lv_room (Nat.le_of_ble_eq_true rfl)) dX12_areSpots_15 ⟨Nat.le_of_ble_eq_true rfl, Nat.le_of_ble_eq_true rfl⟩) hS (fun q _ h => hFc q h) hFc (fun r u t H1 locs ht hvm hw hB hz1 hk1 hS => ?_)
  obtain ⟨hP1, hD1⟩ := hB
  rw [ht] at hP1
  obtain ⟨z3, i_2, y4, rfl⟩ := hw
  have i_2 : 0 ≤ z3.toInt ∧ z3.toInt ≤ 1 := i_2
  have hP := g5_same hP hk1
  generalize H1 = H at hP hS ⊢
  refine g5_ti (v := z3) y4 ?_
  exact W.zret (v := z3) hx hb hr (g_nb (by omega) (by omega)) (fun t ht hW => ⟨⟨z3, [(b_o, (oc12 u_th u_sa b_rf b_ro b_im b_ke u_fd b_tp u_td u_fr u_to u_so u_wo u_fa u_bd u_nc b_nl u_co b_op b_ar u_le b_pi b_pa u_pd u_od b_ws b_hw u_la b_se b_re u_bk u_va u_su u_ce u_ho u_wy u_bt u_ps b_pt u_tg u_sn b_ip u_ic b_ah b_be b_me u_wd b_tr b_ld u_st b_wn u_id)), (b_ro, (arI G 5740 v_ro))], rfl, ⟨z3, i_2, rfl, rfl⟩, by rw [ht]; exact hP.sub [0, 1] rfl, hD.sub [0, 1] (by decide) rfl⟩, hS.F ht⟩) hS.2.2 dX12_areSpots_18
theorem dgX12_lacks_0 : ∀ r ∈ ([(0, (.aload_n 0, 1)), (1, (.iconst 0, 1)), (2, (.putfield 107, 3)), (5, (.aload_n 0, 1)), (6, (.iload_n 1, 1)), (7, (.invokevirtual 457, 3)), (10, (.ifCond .eq 11, 3)), (13, (.aload_n 0, 1)), (14, (.iload_n 1, 1)), (15, (.invokevirtual 460, 3)), (18, (.goto 4, 3)), (21, (.iconst (-1), 1)), (22, (.ireturn, 1))] : List (Nat × (Instr × Nat))), decode cX12_lacks r.1 = .ok r.2 := by decide +kernel
theorem dX12_lacks_0 : decode cX12_lacks 0 = .ok (.aload_n 0, 1) := dgX12_lacks_0 (0, (.aload_n 0, 1)) (List.mem_of_getElem? (i := 0) rfl)
theorem dX12_lacks_1 : decode cX12_lacks 1 = .ok (.iconst 0, 1) := dgX12_lacks_0 (1, (.iconst 0, 1)) (List.mem_of_getElem? (i := 1) rfl)
theorem dX12_lacks_2 : decode cX12_lacks 2 = .ok (.putfield 107, 3) := dgX12_lacks_0 (2, (.putfield 107, 3)) (List.mem_of_getElem? (i := 2) rfl)
theorem dX12_lacks_5 : decode cX12_lacks 5 = .ok (.aload_n 0, 1) := dgX12_lacks_0 (5, (.aload_n 0, 1)) (List.mem_of_getElem? (i := 3) rfl)
theorem dX12_lacks_6 : decode cX12_lacks 6 = .ok (.iload_n 1, 1) := dgX12_lacks_0 (6, (.iload_n 1, 1)) (List.mem_of_getElem? (i := 4) rfl)
theorem dX12_lacks_7 : decode cX12_lacks 7 = .ok (.invokevirtual 457, 3) := dgX12_lacks_0 (7, (.invokevirtual 457, 3)) (List.mem_of_getElem? (i := 5) rfl)
theorem dX12_lacks_10 : decode cX12_lacks 10 = .ok (.ifCond .eq 11, 3) := dgX12_lacks_0 (10, (.ifCond .eq 11, 3)) (List.mem_of_getElem? (i := 6) rfl)
theorem dX12_lacks_13 : decode cX12_lacks 13 = .ok (.aload_n 0, 1) := dgX12_lacks_0 (13, (.aload_n 0, 1)) (List.mem_of_getElem? (i := 7) rfl)
theorem dX12_lacks_14 : decode cX12_lacks 14 = .ok (.iload_n 1, 1) := dgX12_lacks_0 (14, (.iload_n 1, 1)) (List.mem_of_getElem? (i := 8) rfl)
theorem dX12_lacks_15 : decode cX12_lacks 15 = .ok (.invokevirtual 460, 3) := dgX12_lacks_0 (15, (.invokevirtual 460, 3)) (List.mem_of_getElem? (i := 9) rfl)
theorem dX12_lacks_18 : decode cX12_lacks 18 = .ok (.goto 4, 3) := dgX12_lacks_0 (18, (.goto 4, 3)) (List.mem_of_getElem? (i := 10) rfl)
theorem dX12_lacks_21 : decode cX12_lacks 21 = .ok (.iconst (-1), 1) := dgX12_lacks_0 (21, (.iconst (-1), 1)) (List.mem_of_getElem? (i := 11) rfl)
theorem dX12_lacks_22 : decode cX12_lacks 22 = .ok (.ireturn, 1) := dgX12_lacks_0 (22, (.ireturn, 1)) (List.mem_of_getElem? (i := 12) rfl)
theorem ml_X12_457 : Cond.methodLink RX12 457 yX12_areSpots ∈ tblG := tg 1783 (by decide +kernel) (by decide +kernel)
theorem im_X12_areSpots : Cond.instanceMethod yX12_areSpots ∈ tblG := tg 1785 (by decide +kernel) (by decide +kernel)
theorem se_X12_areSpots : Cond.selects RX12 yX12_areSpots yX12_areSpots ∈ tblG := tg 84 (by decide +kernel) (by decide +kernel)
theorem cd_X12_areSpots : Cond.code yX12_areSpots cX12_areSpots 2 (some .boolean) ∈ tblG := tg 1786 (by decide +kernel) (by decide +kernel)
theorem gW_X12_areSpots : GoodIn tblG (wsG yX12_areSpots cX12_areSpots 2 (some .boolean)) := tgi cd_X12_areSpots
theorem gV_X12_457 : GoodIn tblG (wsV RX12 457 RX12 yX12_areSpots (wsG yX12_areSpots cX12_areSpots 2 (some .boolean))) := tgV ml_X12_457 im_X12_areSpots se_X12_areSpots ini_X12 gW_X12_areSpots
theorem hv_X12_areSpots : yX12_areSpots.cls = RX12 ∧ yX12_areSpots.cls ≠ "java/lang/invoke/MethodHandle" ∧ yX12_areSpots.cls ≠ "java/lang/invoke/VarHandle" ∧ (parseMethodDescriptor yX12_areSpots.desc).map (fun d => d.parameters.length) = some 1 := by decide +kernel
theorem ml_X12_460 : Cond.methodLink RX12 460 yX12_lacking ∈ tblG := tg 1787 (by decide +kernel) (by decide +kernel)
theorem im_X12_lacking : Cond.instanceMethod yX12_lacking ∈ tblG := tg 1789 (by decide +kernel) (by decide +kernel)
theorem se_X12_lacking : Cond.selects RX12 yX12_lacking yX12_lacking ∈ tblG := tg 85 (by decide +kernel) (by decide +kernel)
theorem cd_X12_lacking : Cond.code yX12_lacking cX12_lacking 7 (some .int) ∈ tblG := tg 1790 (by decide +kernel) (by decide +kernel)
theorem gW_X12_lacking : GoodIn tblG (wsG yX12_lacking cX12_lacking 7 (some .int)) := tgi cd_X12_lacking
theorem gV_X12_460 : GoodIn tblG (wsV RX12 460 RX12 yX12_lacking (wsG yX12_lacking cX12_lacking 7 (some .int))) := tgV ml_X12_460 im_X12_lacking se_X12_lacking ini_X12 gW_X12_lacking
theorem hv_X12_lacking : yX12_lacking.cls = RX12 ∧ yX12_lacking.cls ≠ "java/lang/invoke/MethodHandle" ∧ yX12_lacking.cls ≠ "java/lang/invoke/VarHandle" ∧ (parseMethodDescriptor yX12_lacking.desc).map (fun d => d.parameters.length) = some 1 := by decide +kernel
set_option maxHeartbeats 4000000 in
set_option maxRecDepth 100000 in
theorem n_lacks (l : Launch) (G : g5_G) (b_o b_ro b_se b_re b_pt b_rf b_im b_ke b_tp b_nl b_op b_ar b_pi b_pa b_ws b_hw b_ip b_ah b_be b_me b_tr b_ld b_wn : Nat) (sz : Nat) (u_th : Int32) (u_sa : Int32) (u_fd : Int32) (u_td : Int32) (u_fr : Int32) (u_to : Int32) (u_so : Int32) (u_fa : Int32) (u_bd : Int32) (u_nc : Int32) (u_co : Int32) (u_le : Int32) (u_pd : Int32) (u_od : Int32) (u_la : Int32) (u_bk : Int32) (u_ce : Int32) (u_ho : Int32) (u_wy : Int32) (u_bt : Int32) (u_ps : Int32) (u_tg : Int32) (u_sn : Int32) (u_ic : Int32) (u_wd : Int32) (u_id : Int32) (p_1 : Int32) (u_wo : Int64) (u_va : Int64) (u_su : Int64) (u_st : Int64) (v_ro : Nat → Int32) (v_se : Nat → Int64) (v_re : Nat → Int64) (v_pt : Nat → Int32) (h_u_td : 0 ≤ u_td.toInt ∧ u_td.toInt ≤ 400) (h_u_fr : 0 ≤ u_fr.toInt ∧ u_fr.toInt ≤ 400) (h_u_to : 0 ≤ u_to.toInt ∧ u_to.toInt ≤ 400) (h_u_bd : 0 ≤ u_bd.toInt ∧ u_bd.toInt ≤ 1) (h_u_nc : 0 ≤ u_nc.toInt ∧ u_nc.toInt ≤ 12) (h_u_co : 0 ≤ u_co.toInt ∧ u_co.toInt ≤ 400) (h_u_pd : 0 ≤ u_pd.toInt ∧ u_pd.toInt ≤ 400) (h_u_la : 0 ≤ u_la.toInt ∧ u_la.toInt ≤ 4840) (h_u_bk : 0 ≤ u_bk.toInt ∧ u_bk.toInt ≤ 1) (h_u_ce : 0 ≤ u_ce.toInt ∧ u_ce.toInt ≤ 63) (h_u_ho : 0 ≤ u_ho.toInt ∧ u_ho.toInt ≤ 23) (h_u_wy : 0 ≤ u_wy.toInt ∧ u_wy.toInt ≤ 3) (h_u_bt : 0 ≤ u_bt.toInt ∧ u_bt.toInt ≤ 1000000) (h_u_ps : 0 ≤ u_ps.toInt ∧ u_ps.toInt ≤ 200) (h_u_ic : 0 ≤ u_ic.toInt ∧ u_ic.toInt ≤ 1) (h_u_id : 0 ≤ u_id.toInt ∧ u_id.toInt ≤ 1) (r_ro : MI v_ro) (r_pt : PTI v_pt) : Met l yX12_lacks (wsG yX12_lacks cX12_lacks 2 (some .int)) ({ frames := 8, cells := 0, slots := 0, locals := 202 }) (va_Pc [.ref b_o, .int p_1] (g5_P G [(b_o, (oc12 u_th u_sa b_rf b_ro b_im b_ke u_fd b_tp u_td u_fr u_to u_so u_wo u_fa u_bd u_nc b_nl u_co b_op b_ar u_le b_pi b_pa u_pd u_od b_ws b_hw u_la b_se b_re u_bk u_va u_su u_ce u_ho u_wy u_bt u_ps b_pt u_tg u_sn b_ip u_ic b_ah b_be b_me u_wd b_tr b_ld u_st b_wn u_id)), (b_ro, (arI G 5740 v_ro)), (b_se, (arJ G 13 v_se)), (b_re, (arJ G 400 v_re)), (b_pt, (arI G 200 v_pt))] sz)) (va_Qi (fun (r : Int32) (u : va_W) => (∃ (o_r : Int32) (o_th : Int32) (o_la : Int32) (o_bk : Int32) (o_va : Int64) (o_su : Int64) (o_ce : Int32) (o_ho : Int32) (o_wy : Int32) (o_bt : Int32) (o_ps : Int32) (o_tg : Int32) (o_sn : Int32) (o_se : Nat → Int64) (o_re : Nat → Int64) (o_pt : Nat → Int32), (0 ≤ o_la.toInt ∧ o_la.toInt ≤ 4840) ∧ (0 ≤ o_bk.toInt ∧ o_bk.toInt ≤ 1) ∧ (0 ≤ o_ce.toInt ∧ o_ce.toInt ≤ 63) ∧ (0 ≤ o_ho.toInt ∧ o_ho.toInt ≤ 23) ∧ (0 ≤ o_wy.toInt ∧ o_wy.toInt ≤ 3) ∧ (0 ≤ o_bt.toInt ∧ o_bt.toInt ≤ 1000000) ∧ (0 ≤ o_ps.toInt ∧ o_ps.toInt ≤ 200) ∧ (PTI o_pt) ∧ (r = o_r) ∧ (u = [(b_o, (oc12 o_th u_sa b_rf b_ro b_im b_ke u_fd b_tp u_td u_fr u_to u_so u_wo u_fa u_bd u_nc b_nl u_co b_op b_ar u_le b_pi b_pa u_pd u_od b_ws b_hw o_la b_se b_re o_bk o_va o_su o_ce o_ho o_wy o_bt o_ps b_pt o_tg o_sn b_ip u_ic b_ah b_be b_me u_wd b_tr b_ld u_st b_wn u_id)), (b_ro, (arI G 5740 v_ro)), (b_se, (arJ G 13 o_se)), (b_re, (arJ G 400 o_re)), (b_pt, (arI G 200 o_pt))]))) (g5_B G (va_A [(b_o, (oc12 u_th u_sa b_rf b_ro b_im b_ke u_fd b_tp u_td u_fr u_to u_so u_wo u_fa u_bd u_nc b_nl u_co b_op b_ar u_le b_pi b_pa u_pd u_od b_ws b_hw u_la b_se b_re u_bk u_va u_su u_ce u_ho u_wy u_bt u_ps b_pt u_tg u_sn b_ip u_ic b_ah b_be b_me u_wd b_tr b_ld u_st b_wn u_id)), (b_ro, (arI G 5740 v_ro)), (b_se, (arJ G 13 v_se)), (b_re, (arJ G 400 v_re)), (b_pt, (arI G 200 v_pt))] sz)) (va_A [(b_o, (oc12 u_th u_sa b_rf b_ro b_im b_ke u_fd b_tp u_td u_fr u_to u_so u_wo u_fa u_bd u_nc b_nl u_co b_op b_ar u_le b_pi b_pa u_pd u_od b_ws b_hw u_la b_se b_re u_bk u_va u_su u_ce u_ho u_wy u_bt u_ps b_pt u_tg u_sn b_ip u_ic b_ah b_be b_me u_wd b_tr b_ld u_st b_wn u_id)), (b_ro, (arI G 5740 v_ro)), (b_se, (arJ G 13 v_se)), (b_re, (arJ G 400 v_re)), (b_pt, (arI G 200 v_pt))] sz)) 0 0 (va_A [(b_o, (oc12 u_th u_sa b_rf b_ro b_im b_ke u_fd b_tp u_td u_fr u_to u_so u_wo u_fa u_bd u_nc b_nl u_co b_op b_ar u_le b_pi b_pa u_pd u_od b_ws b_hw u_la b_se b_re u_bk u_va u_su u_ce u_ho u_wy u_bt u_ps b_pt u_tg u_sn b_ip u_ic b_ah b_be b_me u_wd b_tr b_ld u_st b_wn u_id)), (b_ro, (arI G 5740 v_ro)), (b_se, (arJ G 13 v_se)), (b_re, (arJ G 400 v_re)), (b_pt, (arI G 200 v_pt))] sz) := by
  refine Met.ofW (cc := cX12_lacks) (maxL := 2) (ret := (some .int)) (by decide) rfl ?_
  intro p e s m args below meth c s₁ B hml hv
  obtain ⟨rfl, hsz, hP, hK, hD0, hN, hT⟩ := hv
  have hx := B.exec
  have hb := B.bytes
  have hr := B.returns
  have hts : ∀ w ∈ tblG, w.before _ s = true := fun w h => atoms_spec (ws := (wsG yX12_lacks cX12_lacks 2 (some .int))) B.pre w (List.mem_cons_of_mem _ h)
  have hown : s.vm.findClass RX12 = some m.cls := findClass_of_methodNamed B.named
  have hlocks := B.notSynchronized
  subst hsz
  have hD := hD0.self (sz := s.heap.size)
  generalize hAe : va_A [(b_o, (oc12 u_th u_sa b_rf b_ro b_im b_ke u_fd b_tp u_td u_fr u_to u_so u_wo u_fa u_bd u_nc b_nl u_co b_op b_ar u_le b_pi b_pa u_pd u_od b_ws b_hw u_la b_se b_re u_bk u_va u_su u_ce u_ho u_wy u_bt u_ps b_pt u_tg u_sn b_ip u_ic b_ah b_be b_me u_wd b_tr b_ld u_st b_wn u_id)), (b_ro, (arI G 5740 v_ro)), (b_se, (arJ G 13 v_se)), (b_re, (arJ G 400 v_re)), (b_pt, (arI G 200 v_pt))] s.heap.size = A at hD hT ⊢
  have hA : ∀ q : Nat, s.heap.size ≤ q → A q := fun q h => by rw [← hAe]; exact Or.inr h
  have hS : va_S A s.heap s.heap [] := va_S.rf
  have hP : va_P G.1 vwCl [(b_o, (oc12 u_th u_sa b_rf b_ro b_im b_ke u_fd b_tp u_td u_fr u_to u_so u_wo u_fa u_bd u_nc b_nl u_co b_op b_ar u_le b_pi b_pa u_pd u_od b_ws b_hw u_la b_se b_re u_bk u_va u_su u_ce u_ho u_wy u_bt u_ps b_pt u_tg u_sn b_ip u_ic b_ah b_be b_me u_wd b_tr b_ld u_st b_wn u_id)), (b_ro, (arI G 5740 v_ro)), (b_se, (arJ G 13 v_se)), (b_re, (arJ G 400 v_re)), (b_pt, (arI G 200 v_pt))] s.heap := hP
  have hl := lv_entry ([.ref b_o, .int p_1]) (n := 2) (Nat.le_of_ble_eq_true rfl)
  rw [lg_entry_eq]
  generalize (lg_sl ([.ref b_o, .int p_1]) ++ List.replicate (2 - (lg_sl ([.ref b_o, .int p_1])).length) Slot.unset).toArray = ls at hl ⊢
  have hl : lv_has ls 2 [(0, .ref b_o), (1, .int p_1)] := hl
  refine lv_aload_n hx hb dX12_lacks_0 rfl (lv_at hl 0 rfl) ?_
  refine lv_iconst (v := 0) hx hb dX12_lacks_1 (by decide) ?_
  refine va_put (D := G.1) (ci := 12) (v := .int 0) (ty := .int) (C := RX12) (T := TX12) (N := 52) hx hb hts inG_X12 tyX12 tyX12_ok nmX12 hown hK hP hD hS 0 rfl rfl 0 (by decide) (hts _ fl_X12_107) (fun _ h9 => h9) rfl (by decide +kernel) rfl rfl (Nat.le_of_ble_eq_true rfl) dX12_lacks_2 (fun H locs hP hD hS => ?_)
  refine g5_rs [(b_o, (oc12 0 u_sa b_rf b_ro b_im b_ke u_fd b_tp u_td u_fr u_to u_so u_wo u_fa u_bd u_nc b_nl u_co b_op b_ar u_le b_pi b_pa u_pd u_od b_ws b_hw u_la b_se b_re u_bk u_va u_su u_ce u_ho u_wy u_bt u_ps b_pt u_tg u_sn b_ip u_ic b_ah b_be b_me u_wd b_tr b_ld u_st b_wn u_id)), (b_ro, (arI G 5740 v_ro)), (b_se, (arJ G 13 v_se)), (b_re, (arJ G 400 v_re)), (b_pt, (arI G 200 v_pt))] hP hD (fun hP hD => ?_)
  refine lv_aload_n hx hb dX12_lacks_5 rfl (lv_at hl 0 rfl) ?_
  refine lv_iload_n hx hb dX12_lacks_6 rfl (lv_at hl 1 rfl) ?_
  obtain ⟨hPc, hDc, hFc⟩ := g5_sub3 (wc := [(b_o, (oc12 0 u_sa b_rf b_ro b_im b_ke u_fd b_tp u_td u_fr u_to u_so u_wo u_fa u_bd u_nc b_nl u_co b_op b_ar u_le b_pi b_pa u_pd u_od b_ws b_hw u_la b_se b_re u_bk u_va u_su u_ce u_ho u_wy u_bt u_ps b_pt u_tg u_sn b_ip u_ic b_ah b_be b_me u_wd b_tr b_ld u_st b_wn u_id)), (b_ro, (arI G 5740 v_ro))]) hP hD hS hA [0, 1] (by decide) rfl
  refine va_calli (va_runV (As := [.int p_1]) (rest := []) ⟨hx, hb, hml, hown, hts⟩ (n_areSpots l G b_o b_ro b_rf b_im b_ke b_tp b_nl b_op b_ar b_pi b_pa b_ws b_hw b_se b_re b_pt b_ip b_ah b_be b_me b_tr b_ld b_wn H.size 0 u_sa u_fd u_td u_fr u_to u_so u_fa u_bd u_nc u_co u_le u_pd u_od u_la u_bk u_ce u_ho u_wy u_bt u_ps u_tg u_sn u_ic u_wd u_id p_1 u_wo u_va u_su u_st v_ro h_u_td h_u_fr h_u_to h_u_bd h_u_nc h_u_co h_u_pd h_u_la h_u_bk h_u_ce h_u_ho h_u_wy h_u_bt h_u_ps h_u_ic h_u_id (r_ro)) (cwV 1 hts gV_X12_457 rfl rfl rfl hv_X12_areSpots ⟨Nat.le_of_ble_eq_true rfl, Nat.le_of_ble_eq_true rfl⟩) (g5_preV hPc hK hDc hN hT hS hFc (ci := 12) (q0 := 0) rfl rfl) rfl rfl hl.1 rfl (lv_room (Nat.le_of_ble_eq_true rfl)) dX12_lacks_7 ⟨Nat.le_of_ble_eq_true rfl, Nat.le_of_ble_eq_true rfl⟩) hS (fun q _ h => hFc q h) hFc (fun r u t H1 locs ht hvm hw hB hz1 hk1 hS => ?_)
  obtain ⟨hP1, hD1⟩ := hB
  rw [ht] at hP1
  obtain ⟨z2, i_1, y3, rfl⟩ := hw
  have i_1 : 0 ≤ z2.toInt ∧ z2.toInt ≤ 1 := i_1
  obtain ⟨hP, hD⟩ := va_join (wr := [(b_se, (arJ G 13 v_se)), (b_re, (arJ G 400 v_re)), (b_pt, (arI G 200 v_pt))]) hP hD [0, 1] [2, 3, 4] rfl rfl (by decide) (by decide) hk1 hFc hP1 hD1
  generalize H1 = H at hP hS ⊢
  refine g5_rs [(b_se, (arJ G 13 v_se)), (b_re, (arJ G 400 v_re)), (b_pt, (arI G 200 v_pt)), (b_o, (oc12 0 u_sa b_rf b_ro b_im b_ke u_fd b_tp u_td u_fr u_to u_so u_wo u_fa u_bd u_nc b_nl u_co b_op b_ar u_le b_pi b_pa u_pd u_od b_ws b_hw u_la b_se b_re u_bk u_va u_su u_ce u_ho u_wy u_bt u_ps b_pt u_tg u_sn b_ip u_ic b_ah b_be b_me u_wd b_tr b_ld u_st b_wn u_id)), (b_ro, (arI G 5740 v_ro))] hP hD (fun hP hD => ?_)
  refine g5_ti (v := z2) y3 ?_
  refine lv_if_eq (tgt := 21) hx hb dX12_lacks_10 (by decide) (fun c_4 => ?_) (fun c_4 => ?_)
  ·
    have i_4 : z2.toInt = 0 := by have z := g5_eq (a := z2.toInt) (b := 0) (by rfl) (by decide) c_4; omega
    refine lv_iconst (v := (-1)) hx hb dX12_lacks_21 (by decide) ?_
    exact W.iret (v := (-1)) hx hb hr (fun t ht hW => ⟨⟨(-1), [(b_o, (oc12 0 u_sa b_rf b_ro b_im b_ke u_fd b_tp u_td u_fr u_to u_so u_wo u_fa u_bd u_nc b_nl u_co b_op b_ar u_le b_pi b_pa u_pd u_od b_ws b_hw u_la b_se b_re u_bk u_va u_su u_ce u_ho u_wy u_bt u_ps b_pt u_tg u_sn b_ip u_ic b_ah b_be b_me u_wd b_tr b_ld u_st b_wn u_id)), (b_ro, (arI G 5740 v_ro)), (b_se, (arJ G 13 v_se)), (b_re, (arJ G 400 v_re)), (b_pt, (arI G 200 v_pt))], rfl, ⟨(-1), 0, u_la, u_bk, u_va, u_su, u_ce, u_ho, u_wy, u_bt, u_ps, u_tg, u_sn, v_se, v_re, v_pt, h_u_la, h_u_bk, h_u_ce, h_u_ho, h_u_wy, h_u_bt, h_u_ps, r_pt, rfl, rfl⟩, by rw [ht]; exact hP.sub [3, 4, 0, 1, 2] rfl, hD.sub [3, 4, 0, 1, 2] (by decide) rfl⟩, hS.F ht⟩) hS.2.2 dX12_lacks_22
  ·
    have n_4 : gNe (z2.toInt) (0) := by have z := g5_eqN (a := z2.toInt) (b := 0) (by rfl) (by decide) c_4; unfold gNe; omega
    have i_4 : z2.toInt ≥ 1 := by have z := g5_eqN (a := z2.toInt) (b := 0) (by rfl) (by decide) c_4; omega
    refine lv_aload_n hx hb dX12_lacks_13 rfl (lv_at hl 0 rfl) ?_
    refine lv_iload_n hx hb dX12_lacks_14 rfl (lv_at hl 1 rfl) ?_
    obtain ⟨hPc, hDc, hFc⟩ := g5_sub3 (wc := [(b_o, (oc12 0 u_sa b_rf b_ro b_im b_ke u_fd b_tp u_td u_fr u_to u_so u_wo u_fa u_bd u_nc b_nl u_co b_op b_ar u_le b_pi b_pa u_pd u_od b_ws b_hw u_la b_se b_re u_bk u_va u_su u_ce u_ho u_wy u_bt u_ps b_pt u_tg u_sn b_ip u_ic b_ah b_be b_me u_wd b_tr b_ld u_st b_wn u_id)), (b_ro, (arI G 5740 v_ro)), (b_se, (arJ G 13 v_se)), (b_re, (arJ G 400 v_re)), (b_pt, (arI G 200 v_pt))]) hP hD hS hA [3, 4, 0, 1, 2] (by decide) rfl
    refine va_calli (va_runV (As := [.int p_1]) (rest := []) ⟨hx, hb, hml, hown, hts⟩ (n_lacking l G b_o b_ro b_se b_re b_pt b_rf b_im b_ke b_tp b_nl b_op b_ar b_pi b_pa b_ws b_hw b_ip b_ah b_be b_me b_tr b_ld b_wn H.size 0 u_sa u_fd u_td u_fr u_to u_so u_fa u_bd u_nc u_co u_le u_pd u_od u_la u_bk u_ce u_ho u_wy u_bt u_ps u_tg u_sn u_ic u_wd u_id p_1 u_wo u_va u_su u_st v_ro v_se v_re v_pt h_u_td h_u_fr h_u_to h_u_bd h_u_nc h_u_co h_u_pd h_u_la h_u_bk h_u_ce h_u_ho h_u_wy h_u_bt h_u_ps h_u_ic h_u_id (r_ro) (r_pt)) (cwV 1 hts gV_X12_460 rfl rfl rfl hv_X12_lacking ⟨Nat.le_of_ble_eq_true rfl, Nat.le_of_ble_eq_true rfl⟩) (g5_preV hPc hK hDc hN hT hS hFc (ci := 12) (q0 := 0) rfl rfl) rfl rfl hl.1 rfl (lv_room (Nat.le_of_ble_eq_true rfl)) dX12_lacks_15 ⟨Nat.le_of_ble_eq_true rfl, Nat.le_of_ble_eq_true rfl⟩) hS (fun q _ h => hFc q h) hFc (fun r u t H1 locs ht hvm hw hB hz1 hk1 hS => ?_)
    obtain ⟨hP1, hD1⟩ := hB
    rw [ht] at hP1
    obtain ⟨z13, z14, z15, z16, z17, z18, z19, z20, z21, z22, z23, z24, z25, z26, z27, i_5, i_6, i_7, i_8, i_9, i_10, i_11, i_12, y28, rfl⟩ := hw
    have i_5 : 0 ≤ z14.toInt ∧ z14.toInt ≤ 4840 := i_5
    have i_6 : 0 ≤ z15.toInt ∧ z15.toInt ≤ 1 := i_6
    have i_7 : 0 ≤ z18.toInt ∧ z18.toInt ≤ 63 := i_7
    have i_8 : 0 ≤ z19.toInt ∧ z19.toInt ≤ 23 := i_8
    have i_9 : 0 ≤ z20.toInt ∧ z20.toInt ≤ 3 := i_9
    have i_10 : 0 ≤ z21.toInt ∧ z21.toInt ≤ 1000000 := i_10
    have i_11 : 0 ≤ z22.toInt ∧ z22.toInt ≤ 200 := i_11
    have i_12 : PTI z27 := i_12
    obtain ⟨hP, hD⟩ := va_join (wr := []) hP hD [3, 4, 0, 1, 2] [] rfl rfl (by decide) (by decide) hk1 hFc hP1 hD1
    generalize H1 = H at hP hS ⊢
    refine g5_rs [(b_o, (oc12 0 u_sa b_rf b_ro b_im b_ke u_fd b_tp u_td u_fr u_to u_so u_wo u_fa u_bd u_nc b_nl u_co b_op b_ar u_le b_pi b_pa u_pd u_od b_ws b_hw z14 b_se b_re z15 z16 z17 z18 z19 z20 z21 z22 b_pt z23 z24 b_ip u_ic b_ah b_be b_me u_wd b_tr b_ld u_st b_wn u_id)), (b_ro, (arI G 5740 v_ro)), (b_se, (arJ G 13 z25)), (b_re, (arJ G 400 z26)), (b_pt, (arI G 200 z27))] hP hD (fun hP hD => ?_)
    refine g5_ti (v := z13) y28 ?_
    refine lv_goto (tgt := 22) hx hb dX12_lacks_18 (by decide) ?_
    exact W.iret (v := z13) hx hb hr (fun t ht hW => ⟨⟨z13, [(b_o, (oc12 0 u_sa b_rf b_ro b_im b_ke u_fd b_tp u_td u_fr u_to u_so u_wo u_fa u_bd u_nc b_nl u_co b_op b_ar u_le b_pi b_pa u_pd u_od b_ws b_hw z14 b_se b_re z15 z16 z17 z18 z19 z20 z21 z22 b_pt z23 z24 b_ip u_ic b_ah b_be b_me u_wd b_tr b_ld u_st b_wn u_id)), (b_ro, (arI G 5740 v_ro)), (b_se, (arJ G 13 z25)), (b_re, (arJ G 400 z26)), (b_pt, (arI G 200 z27))], rfl, ⟨z13, 0, z14, z15, z16, z17, z18, z19, z20, z21, z22, z23, z24, z25, z26, z27, i_5, i_6, i_7, i_8, i_9, i_10, i_11, i_12, rfl, rfl⟩, by rw [ht]; exact hP.sub [0, 1, 2, 3, 4] rfl, hD.sub [0, 1, 2, 3, 4] (by decide) rfl⟩, hS.F ht⟩) hS.2.2 dX12_lacks_22
theorem dgX12_bits_0 : ∀ r ∈ ([(0, (.iconst 0, 1)), (1, (.istore_n 1, 1)), (2, (.iconst 0, 1)), (3, (.istore_n 2, 1)), (4, (.iload_n 2, 1)), (5, (.bipush 8, 2)), (7, (.if_icmp .ge 17, 3)), (10, (.iload_n 1, 1)), (11, (.iload_n 0, 1)), (12, (.iload_n 2, 1)), (13, (.ishr, 1)), (14, (.iconst 1, 1)), (15, (.iand, 1)), (16, (.iadd, 1)), (17, (.istore_n 1, 1)), (18, (.iinc 2 1, 3)), (21, (.goto (-17), 3)), (24, (.iload_n 1, 1)), (25, (.ireturn, 1))] : List (Nat × (Instr × Nat))), decode cX12_bits r.1 = .ok r.2 := by decide +kernel
theorem dX12_bits_0 : decode cX12_bits 0 = .ok (.iconst 0, 1) := dgX12_bits_0 (0, (.iconst 0, 1)) (List.mem_of_getElem? (i := 0) rfl)
theorem dX12_bits_1 : decode cX12_bits 1 = .ok (.istore_n 1, 1) := dgX12_bits_0 (1, (.istore_n 1, 1)) (List.mem_of_getElem? (i := 1) rfl)
theorem dX12_bits_2 : decode cX12_bits 2 = .ok (.iconst 0, 1) := dgX12_bits_0 (2, (.iconst 0, 1)) (List.mem_of_getElem? (i := 2) rfl)
theorem dX12_bits_3 : decode cX12_bits 3 = .ok (.istore_n 2, 1) := dgX12_bits_0 (3, (.istore_n 2, 1)) (List.mem_of_getElem? (i := 3) rfl)
theorem dX12_bits_4 : decode cX12_bits 4 = .ok (.iload_n 2, 1) := dgX12_bits_0 (4, (.iload_n 2, 1)) (List.mem_of_getElem? (i := 4) rfl)
theorem dX12_bits_5 : decode cX12_bits 5 = .ok (.bipush 8, 2) := dgX12_bits_0 (5, (.bipush 8, 2)) (List.mem_of_getElem? (i := 5) rfl)
theorem dX12_bits_7 : decode cX12_bits 7 = .ok (.if_icmp .ge 17, 3) := dgX12_bits_0 (7, (.if_icmp .ge 17, 3)) (List.mem_of_getElem? (i := 6) rfl)
theorem dX12_bits_10 : decode cX12_bits 10 = .ok (.iload_n 1, 1) := dgX12_bits_0 (10, (.iload_n 1, 1)) (List.mem_of_getElem? (i := 7) rfl)
theorem dX12_bits_11 : decode cX12_bits 11 = .ok (.iload_n 0, 1) := dgX12_bits_0 (11, (.iload_n 0, 1)) (List.mem_of_getElem? (i := 8) rfl)
theorem dX12_bits_12 : decode cX12_bits 12 = .ok (.iload_n 2, 1) := dgX12_bits_0 (12, (.iload_n 2, 1)) (List.mem_of_getElem? (i := 9) rfl)
theorem dX12_bits_13 : decode cX12_bits 13 = .ok (.ishr, 1) := dgX12_bits_0 (13, (.ishr, 1)) (List.mem_of_getElem? (i := 10) rfl)
theorem dX12_bits_14 : decode cX12_bits 14 = .ok (.iconst 1, 1) := dgX12_bits_0 (14, (.iconst 1, 1)) (List.mem_of_getElem? (i := 11) rfl)
theorem dX12_bits_15 : decode cX12_bits 15 = .ok (.iand, 1) := dgX12_bits_0 (15, (.iand, 1)) (List.mem_of_getElem? (i := 12) rfl)
theorem dX12_bits_16 : decode cX12_bits 16 = .ok (.iadd, 1) := dgX12_bits_0 (16, (.iadd, 1)) (List.mem_of_getElem? (i := 13) rfl)
theorem dX12_bits_17 : decode cX12_bits 17 = .ok (.istore_n 1, 1) := dgX12_bits_0 (17, (.istore_n 1, 1)) (List.mem_of_getElem? (i := 14) rfl)
theorem dX12_bits_18 : decode cX12_bits 18 = .ok (.iinc 2 1, 3) := dgX12_bits_0 (18, (.iinc 2 1, 3)) (List.mem_of_getElem? (i := 15) rfl)
theorem dX12_bits_21 : decode cX12_bits 21 = .ok (.goto (-17), 3) := dgX12_bits_0 (21, (.goto (-17), 3)) (List.mem_of_getElem? (i := 16) rfl)
theorem dX12_bits_24 : decode cX12_bits 24 = .ok (.iload_n 1, 1) := dgX12_bits_0 (24, (.iload_n 1, 1)) (List.mem_of_getElem? (i := 17) rfl)
theorem dX12_bits_25 : decode cX12_bits 25 = .ok (.ireturn, 1) := dgX12_bits_0 (25, (.ireturn, 1)) (List.mem_of_getElem? (i := 18) rfl)
set_option maxHeartbeats 4000000 in
set_option maxRecDepth 100000 in
theorem n_bits (l : Launch) (G : g5_G) (sz : Nat) (p_0 : Int32) : Met l yX12_bits (wsG yX12_bits cX12_bits 3 (some .int)) ({ frames := 0, cells := 0, slots := 0, locals := 0 }) (va_Pc [.int p_0] (g5_P G [] sz)) (va_Qi (fun (r : Int32) (u : va_W) => (∃ (o_r : Int32), (r = o_r) ∧ (u = []))) (g5_B G (va_A [] sz)) (va_A [] sz)) 0 0 (va_A [] sz) := by
  refine Met.ofW (cc := cX12_bits) (maxL := 3) (ret := (some .int)) (by decide) rfl ?_
  intro p e s m args below meth c s₁ B hml hv
  obtain ⟨rfl, hsz, hP, hK, hD0, hN, hT⟩ := hv
  have hx := B.exec
  have hb := B.bytes
  have hr := B.returns
  have hts : ∀ w ∈ tblG, w.before _ s = true := fun w h => atoms_spec (ws := (wsG yX12_bits cX12_bits 3 (some .int))) B.pre w (List.mem_cons_of_mem _ h)
  have hown : s.vm.findClass RX12 = some m.cls := findClass_of_methodNamed B.named
  have hlocks := B.notSynchronized
  subst hsz
  have hD := hD0.self (sz := s.heap.size)
  generalize hAe : va_A [] s.heap.size = A at hD hT ⊢
  have hA : ∀ q : Nat, s.heap.size ≤ q → A q := fun q h => by rw [← hAe]; exact Or.inr h
  have hS : va_S A s.heap s.heap [] := va_S.rf
  have hP : va_P G.1 vwCl [] s.heap := hP
  have hl := lv_entry ([.int p_0]) (n := 3) (Nat.le_of_ble_eq_true rfl)
  rw [lg_entry_eq]
  generalize (lg_sl ([.int p_0]) ++ List.replicate (3 - (lg_sl ([.int p_0])).length) Slot.unset).toArray = ls at hl ⊢
  have hl : lv_has ls 3 [(0, .int p_0)] := hl
  refine lv_iconst (v := 0) hx hb dX12_bits_0 (by decide) ?_
  refine lv_istore_n (lv' := [(1, .int 0), (0, .int p_0)]) hx hb dX12_bits_1 rfl hl (by decide) rfl (fun ls hl => ?_)
  refine lv_iconst (v := 0) hx hb dX12_bits_2 (by decide) ?_
  refine lv_istore_n (lv' := [(2, .int 0), (1, .int 0), (0, .int p_0)]) hx hb dX12_bits_3 rfl hl (by decide) rfl (fun ls hl => ?_)
  refine g5_loop (α := (Int32) × (Int32)) (fun (q : (Int32) × (Int32)) (ls : Array Slot) (H : Heap) (locs : List Loc) => match q with | (k4_2, k4_1) => lv_has ls 3 [(1, .int k4_1), (2, .int k4_2), (0, .int p_0)] ∧ va_P G.1 vwCl [] H ∧ va_D A [] ∧ va_S A s.heap H locs ∧ (0 ≤ k4_2.toInt ∧ k4_2.toInt ≤ 8)) (fun (q : (Int32) × (Int32)) => match q with | (k4_2, k4_1) => Int.toNat (8 - k4_2.toInt)) (0, 0) ⟨lv_sub hl [1, 0, 2] rfl, hP, hD, hS, ⟨by decide, by decide⟩⟩ ?_
  rintro ⟨k4_2, k4_1⟩ ls H locs ⟨hl, hP, hD, hS, i_1⟩ ih_4_2
  have hl : lv_has ls 3 [(1, .int k4_1), (2, .int k4_2), (0, .int p_0)] := hl
  have i_1 : 0 ≤ k4_2.toInt ∧ k4_2.toInt ≤ 8 := i_1
  refine g5_rs [] hP hD (fun hP hD => ?_)
  refine lv_iload_n hx hb dX12_bits_4 rfl (lv_at hl 1 rfl) ?_
  refine lv_bipush (v := 8) hx hb dX12_bits_5 (by decide) ?_
  refine lv_icmp_ge (tgt := 24) hx hb dX12_bits_7 (by decide) (fun c_3 => ?_) (fun c_3 => ?_)
  ·
    have i_3 : k4_2.toInt ≥ 8 := by have z := g5_ge (a := k4_2.toInt) (b := 8) (by rfl) (by decide) c_3; omega
    refine lv_iload_n hx hb dX12_bits_24 rfl (lv_at hl 0 rfl) ?_
    exact W.iret (v := k4_1) hx hb hr (fun t ht hW => ⟨⟨k4_1, [], rfl, ⟨k4_1, rfl, rfl⟩, by rw [ht]; exact hP.sub [] rfl, hD.sub [] (by decide) rfl⟩, hS.F ht⟩) hS.2.2 dX12_bits_25
  ·
    have i_3 : k4_2.toInt < 8 := by have z := g5_geN (a := k4_2.toInt) (b := 8) (by rfl) (by decide) c_3; omega
    refine lv_iload_n hx hb dX12_bits_10 rfl (lv_at hl 0 rfl) ?_
    refine lv_iload_n hx hb dX12_bits_11 rfl (lv_at hl 2 rfl) ?_
    refine lv_iload_n hx hb dX12_bits_12 rfl (lv_at hl 1 rfl) ?_
    refine lv_ishr hx hb dX12_bits_13 ?_
    refine lv_iconst (v := 1) hx hb dX12_bits_14 (by decide) ?_
    refine lv_iand hx hb dX12_bits_15 ?_
    refine lv_iadd hx hb dX12_bits_16 ?_
    refine lv_istore_n (lv' := [(1, .int (k4_1 + ((p_0 >>> (k4_2 &&& 31)) &&& 1))), (2, .int k4_2), (0, .int p_0)]) hx hb dX12_bits_17 rfl hl (by decide) rfl (fun ls hl => ?_)
    refine lv_iinc (v := (k4_2 + 1)) (lv' := [(2, .int (k4_2 + 1)), (1, .int (k4_1 + ((p_0 >>> (k4_2 &&& 31)) &&& 1))), (0, .int p_0)]) hx hb dX12_bits_18 hl (k := 1) rfl rfl (by decide) rfl (fun ls hl => ?_)
    have t_4 : (k4_2 + 1).toInt = k4_2.toInt + 1 := g5_iadd (a := k4_2.toInt) (b := 1) rfl (by decide) (by omega) (by omega)
    refine lv_goto (tgt := 4) hx hb dX12_bits_21 (by decide) ?_
    exact ih_4_2 ((k4_2 + 1), (k4_1 + ((p_0 >>> (k4_2 &&& 31)) &&& 1))) ls H locs (show Int.toNat (8 - (k4_2 + 1).toInt) < Int.toNat (8 - k4_2.toInt) from g_up (show k4_2.toInt < (k4_2 + 1).toInt by omega) (show k4_2.toInt < 8 by omega)) ⟨lv_sub hl [1, 0, 2] rfl, hP, hD, hS, ⟨by omega, by omega⟩⟩
