set_option maxHeartbeats 4000000 in
set_option maxRecDepth 100000 in
theorem n_whereIsX (l : Launch) (G : g5_G) (b_o b_ro b_rf b_im b_ke b_tp b_nl b_op b_ar b_pi b_pa b_ws b_hw b_se b_re b_pt b_ip b_ah b_be b_me b_tr b_ld b_wn : Nat) (sz : Nat) (u_th : Int32) (u_sa : Int32) (u_fd : Int32) (u_td : Int32) (u_fr : Int32) (u_to : Int32) (u_so : Int32) (u_fa : Int32) (u_bd : Int32) (u_nc : Int32) (u_co : Int32) (u_le : Int32) (u_pd : Int32) (u_od : Int32) (u_la : Int32) (u_bk : Int32) (u_ce : Int32) (u_ho : Int32) (u_wy : Int32) (u_bt : Int32) (u_ps : Int32) (u_tg : Int32) (u_sn : Int32) (u_ic : Int32) (u_wd : Int32) (u_id : Int32) (p_1 : Int32) (p_2 : Int32) (u_wo : Int64) (u_va : Int64) (u_su : Int64) (u_st : Int64) (v_ro : Nat → Int32) (h_u_td : 0 ≤ u_td.toInt ∧ u_td.toInt ≤ 400) (h_u_fr : 0 ≤ u_fr.toInt ∧ u_fr.toInt ≤ 400) (h_u_to : 0 ≤ u_to.toInt ∧ u_to.toInt ≤ 400) (h_u_bd : 0 ≤ u_bd.toInt ∧ u_bd.toInt ≤ 1) (h_u_nc : 0 ≤ u_nc.toInt ∧ u_nc.toInt ≤ 12) (h_u_co : 0 ≤ u_co.toInt ∧ u_co.toInt ≤ 400) (h_u_pd : 0 ≤ u_pd.toInt ∧ u_pd.toInt ≤ 400) (h_u_la : 0 ≤ u_la.toInt ∧ u_la.toInt ≤ 4840) (h_u_bk : 0 ≤ u_bk.toInt ∧ u_bk.toInt ≤ 1) (h_u_ce : 0 ≤ u_ce.toInt ∧ u_ce.toInt ≤ 63) (h_u_ho : 0 ≤ u_ho.toInt ∧ u_ho.toInt ≤ 23) (h_u_wy : 0 ≤ u_wy.toInt ∧ u_wy.toInt ≤ 3) (h_u_bt : 0 ≤ u_bt.toInt ∧ u_bt.toInt ≤ 1000000) (h_u_ps : 0 ≤ u_ps.toInt ∧ u_ps.toInt ≤ 200) (h_u_ic : 0 ≤ u_ic.toInt ∧ u_ic.toInt ≤ 1) (h_u_id : 0 ≤ u_id.toInt ∧ u_id.toInt ≤ 1) (h_p_1 : 0 ≤ p_1.toInt ∧ p_1.toInt ≤ 4) (h_p_2 : 0 ≤ p_2.toInt ∧ p_2.toInt ≤ 23) (r_ro : MI v_ro) : Met l yX12_whereIs (wsG yX12_whereIs cX12_whereIs 3 (some .int)) ({ frames := 0, cells := 0, slots := 0, locals := 0 }) (va_Pc [.ref b_o, .int p_1, .int p_2] (g5_P G [(b_o, (oc12 u_th u_sa b_rf b_ro b_im b_ke u_fd b_tp u_td u_fr u_to u_so u_wo u_fa u_bd u_nc b_nl u_co b_op b_ar u_le b_pi b_pa u_pd u_od b_ws b_hw u_la b_se b_re u_bk u_va u_su u_ce u_ho u_wy u_bt u_ps b_pt u_tg u_sn b_ip u_ic b_ah b_be b_me u_wd b_tr b_ld u_st b_wn u_id)), (b_ro, (arI G 5740 v_ro))] sz)) (va_Qi (fun (r : Int32) (u : va_W) => (∃ (o_r : Int32), ((-1) ≤ o_r.toInt ∧ o_r.toInt ≤ 63) ∧ (o_r.toInt = (v_ro ((110 + (24 * p_1)) + p_2).toNatClampNeg).toInt) ∧ (r = o_r) ∧ (u = [(b_o, (oc12 u_th u_sa b_rf b_ro b_im b_ke u_fd b_tp u_td u_fr u_to u_so u_wo u_fa u_bd u_nc b_nl u_co b_op b_ar u_le b_pi b_pa u_pd u_od b_ws b_hw u_la b_se b_re u_bk u_va u_su u_ce u_ho u_wy u_bt u_ps b_pt u_tg u_sn b_ip u_ic b_ah b_be b_me u_wd b_tr b_ld u_st b_wn u_id)), (b_ro, (arI G 5740 v_ro))]))) (g5_B G (va_A [(b_o, (oc12 u_th u_sa b_rf b_ro b_im b_ke u_fd b_tp u_td u_fr u_to u_so u_wo u_fa u_bd u_nc b_nl u_co b_op b_ar u_le b_pi b_pa u_pd u_od b_ws b_hw u_la b_se b_re u_bk u_va u_su u_ce u_ho u_wy u_bt u_ps b_pt u_tg u_sn b_ip u_ic b_ah b_be b_me u_wd b_tr b_ld u_st b_wn u_id)), (b_ro, (arI G 5740 v_ro))] sz)) (va_A [(b_o, (oc12 u_th u_sa b_rf b_ro b_im b_ke u_fd b_tp u_td u_fr u_to u_so u_wo u_fa u_bd u_nc b_nl u_co b_op b_ar u_le b_pi b_pa u_pd u_od b_ws b_hw u_la b_se b_re u_bk u_va u_su u_ce u_ho u_wy u_bt u_ps b_pt u_tg u_sn b_ip u_ic b_ah b_be b_me u_wd b_tr b_ld u_st b_wn u_id)), (b_ro, (arI G 5740 v_ro))] sz)) 0 0 (va_A [(b_o, (oc12 u_th u_sa b_rf b_ro b_im b_ke u_fd b_tp u_td u_fr u_to u_so u_wo u_fa u_bd u_nc b_nl u_co b_op b_ar u_le b_pi b_pa u_pd u_od b_ws b_hw u_la b_se b_re u_bk u_va u_su u_ce u_ho u_wy u_bt u_ps b_pt u_tg u_sn b_ip u_ic b_ah b_be b_me u_wd b_tr b_ld u_st b_wn u_id)), (b_ro, (arI G 5740 v_ro))] sz) := by
  refine Met.ofW (cc := cX12_whereIs) (maxL := 3) (ret := (some .int)) (by decide) rfl ?_
  intro p e s m args below meth c s₁ B hml hv
  obtain ⟨rfl, hsz, hP, hK, hD0, hN, hT⟩ := hv
  have hx := B.exec
  have hb := B.bytes
  have hr := B.returns
  have hts : ∀ w ∈ tblG, w.before _ s = true := fun w h => atoms_spec (ws := (wsG yX12_whereIs cX12_whereIs 3 (some .int))) B.pre w (List.mem_cons_of_mem _ h)
  have hown : s.vm.findClass RX12 = some m.cls := findClass_of_methodNamed B.named
  have hlocks := B.notSynchronized
  subst hsz
  have hD := hD0.self (sz := s.heap.size)
  generalize hAe : va_A [(b_o, (oc12 u_th u_sa b_rf b_ro b_im b_ke u_fd b_tp u_td u_fr u_to u_so u_wo u_fa u_bd u_nc b_nl u_co b_op b_ar u_le b_pi b_pa u_pd u_od b_ws b_hw u_la b_se b_re u_bk u_va u_su u_ce u_ho u_wy u_bt u_ps b_pt u_tg u_sn b_ip u_ic b_ah b_be b_me u_wd b_tr b_ld u_st b_wn u_id)), (b_ro, (arI G 5740 v_ro))] s.heap.size = A at hD hT ⊢
  have hA : ∀ q : Nat, s.heap.size ≤ q → A q := fun q h => by rw [← hAe]; exact Or.inr h
  have hS : va_S A s.heap s.heap [] := va_S.rf
  have hP : va_P G.1 vwCl [(b_o, (oc12 u_th u_sa b_rf b_ro b_im b_ke u_fd b_tp u_td u_fr u_to u_so u_wo u_fa u_bd u_nc b_nl u_co b_op b_ar u_le b_pi b_pa u_pd u_od b_ws b_hw u_la b_se b_re u_bk u_va u_su u_ce u_ho u_wy u_bt u_ps b_pt u_tg u_sn b_ip u_ic b_ah b_be b_me u_wd b_tr b_ld u_st b_wn u_id)), (b_ro, (arI G 5740 v_ro))] s.heap := hP
  have hl := lv_entry ([.ref b_o, .int p_1, .int p_2]) (n := 3) (Nat.le_of_ble_eq_true rfl)
  rw [lg_entry_eq]
  generalize (lg_sl ([.ref b_o, .int p_1, .int p_2]) ++ List.replicate (3 - (lg_sl ([.ref b_o, .int p_1, .int p_2])).length) Slot.unset).toArray = ls at hl ⊢
  have hl : lv_has ls 3 [(0, .ref b_o), (1, .int p_1), (2, .int p_2)] := hl
  refine lv_aload_n hx hb dX12_whereIs_0 rfl (lv_at hl 0 rfl) ?_
  refine va_get (D := G.1) (ci := 12) (v := .ref b_ro) (C := RX12) (T := TX12) (N := 52) hx hb hts inG_X12 hown hK hP 0 rfl rfl 3 (by decide) (hts _ fl_X12_13) (fun _ h9 => h9) rfl dX12_whereIs_1 ?_
  refine lv_bipush (v := 110) hx hb dX12_whereIs_4 (by decide) ?_
  refine lv_bipush (v := 24) hx hb dX12_whereIs_6 (by decide) ?_
  refine lv_iload_n hx hb dX12_whereIs_8 rfl (lv_at hl 1 rfl) ?_
  refine lv_imul hx hb dX12_whereIs_9 ?_
  have t_1 : (24 * p_1).toInt = 24 * p_1.toInt := g5_imul (a := 24) (b := p_1.toInt) (by decide) (by rfl) (by omega) (by omega)
  refine lv_iadd hx hb dX12_whereIs_10 ?_
  have t_2 : (110 + (24 * p_1)).toInt = 110 + (24 * p_1).toInt := g5_iadd (a := 110) (b := (24 * p_1).toInt) (by decide) (by rfl) (by omega) (by omega)
  refine lv_iload_n hx hb dX12_whereIs_11 rfl (lv_at hl 2 rfl) ?_
  refine lv_iadd hx hb dX12_whereIs_12 ?_
  have t_3 : ((110 + (24 * p_1)) + p_2).toInt = (110 + (24 * p_1)).toInt + p_2.toInt := g5_iadd (a := (110 + (24 * p_1)).toInt) (b := p_2.toInt) (by rfl) (by rfl) (by omega) (by omega)
  refine va_iald hx hb hK hP 1 0 rfl rfl (i := ((110 + (24 * p_1)) + p_2)) (vp_in_iff.mpr ⟨by omega, by omega⟩) dX12_whereIs_13 ?_
  have hv_4 : (-1) ≤ (v_ro ((110 + (24 * p_1)) + p_2).toNatClampNeg).toInt ∧ (v_ro ((110 + (24 * p_1)) + p_2).toNatClampNeg).toInt ≤ 63 := mi_110 r_ro (by have zz := g5_clamp ((110 + (24 * p_1)) + p_2); omega) (by have zz := g5_clamp ((110 + (24 * p_1)) + p_2); omega)
  exact W.iret (v := (v_ro ((110 + (24 * p_1)) + p_2).toNatClampNeg)) hx hb hr (fun t ht hW => ⟨⟨(v_ro ((110 + (24 * p_1)) + p_2).toNatClampNeg), [(b_o, (oc12 u_th u_sa b_rf b_ro b_im b_ke u_fd b_tp u_td u_fr u_to u_so u_wo u_fa u_bd u_nc b_nl u_co b_op b_ar u_le b_pi b_pa u_pd u_od b_ws b_hw u_la b_se b_re u_bk u_va u_su u_ce u_ho u_wy u_bt u_ps b_pt u_tg u_sn b_ip u_ic b_ah b_be b_me u_wd b_tr b_ld u_st b_wn u_id)), (b_ro, (arI G 5740 v_ro))], rfl, ⟨(v_ro ((110 + (24 * p_1)) + p_2).toNatClampNeg), ⟨by omega, by omega⟩, rfl, rfl, rfl⟩, by rw [ht]; exact hP.sub [0, 1] rfl, hD.sub [0, 1] (by decide) rfl⟩, hS.F ht⟩) hS.2.2 dX12_whereIs_14
theorem dgX12_look_0 : ∀ r ∈ ([(0, (.aload_n 0, 1)), (1, (.iconst 0, 1)), (2, (.putfield 107, 3)), (5, (.iload_n 1, 1)), (6, (.iload_n 2, 1)), (7, (.iload_n 3, 1)), (8, (.invokestatic 397, 3)), (11, (.ifCond .ne 5, 3)), (14, (.iconst (-1), 1)), (15, (.ireturn, 1)), (16, (.aload_n 0, 1)), (17, (.iload_n 1, 1)), (18, (.iload_n 2, 1)), (19, (.iload_n 3, 1)), (20, (.iconst 0, 1)), (21, (.invokevirtual 401, 3)), (24, (.iload 4, 2)), (26, (.tableswitch 80 0 4 #[34, 39, 44, 70, 75], 34)), (60, (.aload_n 0, 1)), (61, (.getfield 371, 3)), (64, (.ireturn, 1)), (65, (.aload_n 0, 1)), (66, (.getfield 358, 3)), (69, (.ireturn, 1)), (70, (.aload_n 0, 1)), (71, (.getfield 358, 3)), (74, (.ifCond .ne 7, 3)), (77, (.iconst (-1), 1)), (78, (.goto 17, 3)), (81, (.aload_n 0, 1)), (82, (.getfield 82, 3)), (85, (.aload_n 0, 1)), (86, (.getfield 358, 3)), (89, (.iconst 1, 1)), (90, (.isub, 1)), (91, (.iaload, 1)), (92, (.bipush 64, 2)), (94, (.idiv, 1)), (95, (.ireturn, 1)), (96, (.aload_n 0, 1))] : List (Nat × (Instr × Nat))), decode cX12_look r.1 = .ok r.2 := by decide +kernel
theorem dX12_look_0 : decode cX12_look 0 = .ok (.aload_n 0, 1) := dgX12_look_0 (0, (.aload_n 0, 1)) (List.mem_of_getElem? (i := 0) rfl)
theorem dX12_look_1 : decode cX12_look 1 = .ok (.iconst 0, 1) := dgX12_look_0 (1, (.iconst 0, 1)) (List.mem_of_getElem? (i := 1) rfl)
theorem dX12_look_2 : decode cX12_look 2 = .ok (.putfield 107, 3) := dgX12_look_0 (2, (.putfield 107, 3)) (List.mem_of_getElem? (i := 2) rfl)
theorem dX12_look_5 : decode cX12_look 5 = .ok (.iload_n 1, 1) := dgX12_look_0 (5, (.iload_n 1, 1)) (List.mem_of_getElem? (i := 3) rfl)
theorem dX12_look_6 : decode cX12_look 6 = .ok (.iload_n 2, 1) := dgX12_look_0 (6, (.iload_n 2, 1)) (List.mem_of_getElem? (i := 4) rfl)
theorem dX12_look_7 : decode cX12_look 7 = .ok (.iload_n 3, 1) := dgX12_look_0 (7, (.iload_n 3, 1)) (List.mem_of_getElem? (i := 5) rfl)
theorem dX12_look_8 : decode cX12_look 8 = .ok (.invokestatic 397, 3) := dgX12_look_0 (8, (.invokestatic 397, 3)) (List.mem_of_getElem? (i := 6) rfl)
theorem dX12_look_11 : decode cX12_look 11 = .ok (.ifCond .ne 5, 3) := dgX12_look_0 (11, (.ifCond .ne 5, 3)) (List.mem_of_getElem? (i := 7) rfl)
theorem dX12_look_14 : decode cX12_look 14 = .ok (.iconst (-1), 1) := dgX12_look_0 (14, (.iconst (-1), 1)) (List.mem_of_getElem? (i := 8) rfl)
theorem dX12_look_15 : decode cX12_look 15 = .ok (.ireturn, 1) := dgX12_look_0 (15, (.ireturn, 1)) (List.mem_of_getElem? (i := 9) rfl)
theorem dX12_look_16 : decode cX12_look 16 = .ok (.aload_n 0, 1) := dgX12_look_0 (16, (.aload_n 0, 1)) (List.mem_of_getElem? (i := 10) rfl)
theorem dX12_look_17 : decode cX12_look 17 = .ok (.iload_n 1, 1) := dgX12_look_0 (17, (.iload_n 1, 1)) (List.mem_of_getElem? (i := 11) rfl)
theorem dX12_look_18 : decode cX12_look 18 = .ok (.iload_n 2, 1) := dgX12_look_0 (18, (.iload_n 2, 1)) (List.mem_of_getElem? (i := 12) rfl)
theorem dX12_look_19 : decode cX12_look 19 = .ok (.iload_n 3, 1) := dgX12_look_0 (19, (.iload_n 3, 1)) (List.mem_of_getElem? (i := 13) rfl)
theorem dX12_look_20 : decode cX12_look 20 = .ok (.iconst 0, 1) := dgX12_look_0 (20, (.iconst 0, 1)) (List.mem_of_getElem? (i := 14) rfl)
theorem dX12_look_21 : decode cX12_look 21 = .ok (.invokevirtual 401, 3) := dgX12_look_0 (21, (.invokevirtual 401, 3)) (List.mem_of_getElem? (i := 15) rfl)
theorem dX12_look_24 : decode cX12_look 24 = .ok (.iload 4, 2) := dgX12_look_0 (24, (.iload 4, 2)) (List.mem_of_getElem? (i := 16) rfl)
theorem dX12_look_26 : decode cX12_look 26 = .ok (.tableswitch 80 0 4 #[34, 39, 44, 70, 75], 34) := dgX12_look_0 (26, (.tableswitch 80 0 4 #[34, 39, 44, 70, 75], 34)) (List.mem_of_getElem? (i := 17) rfl)
theorem dX12_look_60 : decode cX12_look 60 = .ok (.aload_n 0, 1) := dgX12_look_0 (60, (.aload_n 0, 1)) (List.mem_of_getElem? (i := 18) rfl)
theorem dX12_look_61 : decode cX12_look 61 = .ok (.getfield 371, 3) := dgX12_look_0 (61, (.getfield 371, 3)) (List.mem_of_getElem? (i := 19) rfl)
theorem dX12_look_64 : decode cX12_look 64 = .ok (.ireturn, 1) := dgX12_look_0 (64, (.ireturn, 1)) (List.mem_of_getElem? (i := 20) rfl)
theorem dX12_look_65 : decode cX12_look 65 = .ok (.aload_n 0, 1) := dgX12_look_0 (65, (.aload_n 0, 1)) (List.mem_of_getElem? (i := 21) rfl)
theorem dX12_look_66 : decode cX12_look 66 = .ok (.getfield 358, 3) := dgX12_look_0 (66, (.getfield 358, 3)) (List.mem_of_getElem? (i := 22) rfl)
theorem dX12_look_69 : decode cX12_look 69 = .ok (.ireturn, 1) := dgX12_look_0 (69, (.ireturn, 1)) (List.mem_of_getElem? (i := 23) rfl)
theorem dX12_look_70 : decode cX12_look 70 = .ok (.aload_n 0, 1) := dgX12_look_0 (70, (.aload_n 0, 1)) (List.mem_of_getElem? (i := 24) rfl)
theorem dX12_look_71 : decode cX12_look 71 = .ok (.getfield 358, 3) := dgX12_look_0 (71, (.getfield 358, 3)) (List.mem_of_getElem? (i := 25) rfl)
theorem dX12_look_74 : decode cX12_look 74 = .ok (.ifCond .ne 7, 3) := dgX12_look_0 (74, (.ifCond .ne 7, 3)) (List.mem_of_getElem? (i := 26) rfl)
theorem dX12_look_77 : decode cX12_look 77 = .ok (.iconst (-1), 1) := dgX12_look_0 (77, (.iconst (-1), 1)) (List.mem_of_getElem? (i := 27) rfl)
theorem dX12_look_78 : decode cX12_look 78 = .ok (.goto 17, 3) := dgX12_look_0 (78, (.goto 17, 3)) (List.mem_of_getElem? (i := 28) rfl)
theorem dX12_look_81 : decode cX12_look 81 = .ok (.aload_n 0, 1) := dgX12_look_0 (81, (.aload_n 0, 1)) (List.mem_of_getElem? (i := 29) rfl)
theorem dX12_look_82 : decode cX12_look 82 = .ok (.getfield 82, 3) := dgX12_look_0 (82, (.getfield 82, 3)) (List.mem_of_getElem? (i := 30) rfl)
theorem dX12_look_85 : decode cX12_look 85 = .ok (.aload_n 0, 1) := dgX12_look_0 (85, (.aload_n 0, 1)) (List.mem_of_getElem? (i := 31) rfl)
theorem dX12_look_86 : decode cX12_look 86 = .ok (.getfield 358, 3) := dgX12_look_0 (86, (.getfield 358, 3)) (List.mem_of_getElem? (i := 32) rfl)
theorem dX12_look_89 : decode cX12_look 89 = .ok (.iconst 1, 1) := dgX12_look_0 (89, (.iconst 1, 1)) (List.mem_of_getElem? (i := 33) rfl)
theorem dX12_look_90 : decode cX12_look 90 = .ok (.isub, 1) := dgX12_look_0 (90, (.isub, 1)) (List.mem_of_getElem? (i := 34) rfl)
theorem dX12_look_91 : decode cX12_look 91 = .ok (.iaload, 1) := dgX12_look_0 (91, (.iaload, 1)) (List.mem_of_getElem? (i := 35) rfl)
theorem dX12_look_92 : decode cX12_look 92 = .ok (.bipush 64, 2) := dgX12_look_0 (92, (.bipush 64, 2)) (List.mem_of_getElem? (i := 36) rfl)
theorem dX12_look_94 : decode cX12_look 94 = .ok (.idiv, 1) := dgX12_look_0 (94, (.idiv, 1)) (List.mem_of_getElem? (i := 37) rfl)
theorem dX12_look_95 : decode cX12_look 95 = .ok (.ireturn, 1) := dgX12_look_0 (95, (.ireturn, 1)) (List.mem_of_getElem? (i := 38) rfl)
theorem dX12_look_96 : decode cX12_look 96 = .ok (.aload_n 0, 1) := dgX12_look_0 (96, (.aload_n 0, 1)) (List.mem_of_getElem? (i := 39) rfl)
theorem dgX12_look_1 : ∀ r ∈ ([(97, (.getfield 361, 3)), (100, (.ireturn, 1)), (101, (.aload_n 0, 1)), (102, (.getfield 368, 3)), (105, (.ireturn, 1)), (106, (.iconst (-1), 1)), (107, (.ireturn, 1))] : List (Nat × (Instr × Nat))), decode cX12_look r.1 = .ok r.2 := by decide +kernel
theorem dX12_look_97 : decode cX12_look 97 = .ok (.getfield 361, 3) := dgX12_look_1 (97, (.getfield 361, 3)) (List.mem_of_getElem? (i := 0) rfl)
theorem dX12_look_100 : decode cX12_look 100 = .ok (.ireturn, 1) := dgX12_look_1 (100, (.ireturn, 1)) (List.mem_of_getElem? (i := 1) rfl)
theorem dX12_look_101 : decode cX12_look 101 = .ok (.aload_n 0, 1) := dgX12_look_1 (101, (.aload_n 0, 1)) (List.mem_of_getElem? (i := 2) rfl)
theorem dX12_look_102 : decode cX12_look 102 = .ok (.getfield 368, 3) := dgX12_look_1 (102, (.getfield 368, 3)) (List.mem_of_getElem? (i := 3) rfl)
theorem dX12_look_105 : decode cX12_look 105 = .ok (.ireturn, 1) := dgX12_look_1 (105, (.ireturn, 1)) (List.mem_of_getElem? (i := 4) rfl)
theorem dX12_look_106 : decode cX12_look 106 = .ok (.iconst (-1), 1) := dgX12_look_1 (106, (.iconst (-1), 1)) (List.mem_of_getElem? (i := 5) rfl)
theorem dX12_look_107 : decode cX12_look 107 = .ok (.ireturn, 1) := dgX12_look_1 (107, (.ireturn, 1)) (List.mem_of_getElem? (i := 6) rfl)
theorem ml_X12_401 : Cond.methodLink RX12 401 yX12_go ∈ tblG := tg 1610 (by decide +kernel) (by decide +kernel)
theorem im_X12_go : Cond.instanceMethod yX12_go ∈ tblG := tg 1612 (by decide +kernel) (by decide +kernel)
theorem se_X12_go : Cond.selects RX12 yX12_go yX12_go ∈ tblG := tg 62 (by decide +kernel) (by decide +kernel)
theorem cd_X12_go : Cond.code yX12_go cX12_go 7 none ∈ tblG := tg 1613 (by decide +kernel) (by decide +kernel)
theorem gW_X12_go : GoodIn tblG (wsG yX12_go cX12_go 7 none) := tgi cd_X12_go
theorem gV_X12_401 : GoodIn tblG (wsV RX12 401 RX12 yX12_go (wsG yX12_go cX12_go 7 none)) := tgV ml_X12_401 im_X12_go se_X12_go ini_X12 gW_X12_go
theorem hv_X12_go : yX12_go.cls = RX12 ∧ yX12_go.cls ≠ "java/lang/invoke/MethodHandle" ∧ yX12_go.cls ≠ "java/lang/invoke/VarHandle" ∧ (parseMethodDescriptor yX12_go.desc).map (fun d => d.parameters.length) = some 4 := by decide +kernel
set_option maxHeartbeats 4000000 in
set_option maxRecDepth 100000 in
theorem n_look (l : Launch) (G : g5_G) (b_o b_ro b_se b_re b_pt b_rf b_im b_ke b_tp b_nl b_op b_ar b_pi b_pa b_ws b_hw b_ip b_ah b_be b_me b_tr b_ld b_wn : Nat) (sz : Nat) (u_th : Int32) (u_sa : Int32) (u_fd : Int32) (u_td : Int32) (u_fr : Int32) (u_to : Int32) (u_so : Int32) (u_fa : Int32) (u_bd : Int32) (u_nc : Int32) (u_co : Int32) (u_le : Int32) (u_pd : Int32) (u_od : Int32) (u_la : Int32) (u_bk : Int32) (u_ce : Int32) (u_ho : Int32) (u_wy : Int32) (u_bt : Int32) (u_ps : Int32) (u_tg : Int32) (u_sn : Int32) (u_ic : Int32) (u_wd : Int32) (u_id : Int32) (p_1 : Int32) (p_2 : Int32) (p_3 : Int32) (p_4 : Int32) (u_wo : Int64) (u_va : Int64) (u_su : Int64) (u_st : Int64) (v_ro : Nat → Int32) (v_se : Nat → Int64) (v_re : Nat → Int64) (v_pt : Nat → Int32) (h_u_td : 0 ≤ u_td.toInt ∧ u_td.toInt ≤ 400) (h_u_fr : 0 ≤ u_fr.toInt ∧ u_fr.toInt ≤ 400) (h_u_to : 0 ≤ u_to.toInt ∧ u_to.toInt ≤ 400) (h_u_bd : 0 ≤ u_bd.toInt ∧ u_bd.toInt ≤ 1) (h_u_nc : 0 ≤ u_nc.toInt ∧ u_nc.toInt ≤ 12) (h_u_co : 0 ≤ u_co.toInt ∧ u_co.toInt ≤ 400) (h_u_pd : 0 ≤ u_pd.toInt ∧ u_pd.toInt ≤ 400) (h_u_la : 0 ≤ u_la.toInt ∧ u_la.toInt ≤ 4840) (h_u_bk : 0 ≤ u_bk.toInt ∧ u_bk.toInt ≤ 1) (h_u_ce : 0 ≤ u_ce.toInt ∧ u_ce.toInt ≤ 63) (h_u_ho : 0 ≤ u_ho.toInt ∧ u_ho.toInt ≤ 23) (h_u_wy : 0 ≤ u_wy.toInt ∧ u_wy.toInt ≤ 3) (h_u_bt : 0 ≤ u_bt.toInt ∧ u_bt.toInt ≤ 1000000) (h_u_ps : 0 ≤ u_ps.toInt ∧ u_ps.toInt ≤ 200) (h_u_ic : 0 ≤ u_ic.toInt ∧ u_ic.toInt ≤ 1) (h_u_id : 0 ≤ u_id.toInt ∧ u_id.toInt ≤ 1) (r_ro : MI v_ro) (r_pt : PTI v_pt) : Met l yX12_look (wsG yX12_look cX12_look 5 (some .int)) ({ frames := 7, cells := 0, slots := 0, locals := 176 }) (va_Pc [.ref b_o, .int p_1, .int p_2, .int p_3, .int p_4] (g5_P G [(b_o, (oc12 u_th u_sa b_rf b_ro b_im b_ke u_fd b_tp u_td u_fr u_to u_so u_wo u_fa u_bd u_nc b_nl u_co b_op b_ar u_le b_pi b_pa u_pd u_od b_ws b_hw u_la b_se b_re u_bk u_va u_su u_ce u_ho u_wy u_bt u_ps b_pt u_tg u_sn b_ip u_ic b_ah b_be b_me u_wd b_tr b_ld u_st b_wn u_id)), (b_ro, (arI G 5740 v_ro)), (b_se, (arJ G 13 v_se)), (b_re, (arJ G 400 v_re)), (b_pt, (arI G 200 v_pt))] sz)) (va_Qi (fun (r : Int32) (u : va_W) => (∃ (o_r : Int32) (o_th : Int32) (o_la : Int32) (o_bk : Int32) (o_va : Int64) (o_su : Int64) (o_ce : Int32) (o_ho : Int32) (o_wy : Int32) (o_bt : Int32) (o_ps : Int32) (o_tg : Int32) (o_sn : Int32) (o_se : Nat → Int64) (o_re : Nat → Int64) (o_pt : Nat → Int32), (0 ≤ o_la.toInt ∧ o_la.toInt ≤ 4840) ∧ (0 ≤ o_bk.toInt ∧ o_bk.toInt ≤ 1) ∧ (0 ≤ o_ce.toInt ∧ o_ce.toInt ≤ 63) ∧ (0 ≤ o_ho.toInt ∧ o_ho.toInt ≤ 23) ∧ (0 ≤ o_wy.toInt ∧ o_wy.toInt ≤ 3) ∧ (0 ≤ o_bt.toInt ∧ o_bt.toInt ≤ 1000000) ∧ (0 ≤ o_ps.toInt ∧ o_ps.toInt ≤ 200) ∧ (PTI o_pt) ∧ (r = o_r) ∧ (u = [(b_o, (oc12 o_th u_sa b_rf b_ro b_im b_ke u_fd b_tp u_td u_fr u_to u_so u_wo u_fa u_bd u_nc b_nl u_co b_op b_ar u_le b_pi b_pa u_pd u_od b_ws b_hw o_la b_se b_re o_bk o_va o_su o_ce o_ho o_wy o_bt o_ps b_pt o_tg o_sn b_ip u_ic b_ah b_be b_me u_wd b_tr b_ld u_st b_wn u_id)), (b_ro, (arI G 5740 v_ro)), (b_se, (arJ G 13 o_se)), (b_re, (arJ G 400 o_re)), (b_pt, (arI G 200 o_pt))]))) (g5_B G (va_A [(b_o, (oc12 u_th u_sa b_rf b_ro b_im b_ke u_fd b_tp u_td u_fr u_to u_so u_wo u_fa u_bd u_nc b_nl u_co b_op b_ar u_le b_pi b_pa u_pd u_od b_ws b_hw u_la b_se b_re u_bk u_va u_su u_ce u_ho u_wy u_bt u_ps b_pt u_tg u_sn b_ip u_ic b_ah b_be b_me u_wd b_tr b_ld u_st b_wn u_id)), (b_ro, (arI G 5740 v_ro)), (b_se, (arJ G 13 v_se)), (b_re, (arJ G 400 v_re)), (b_pt, (arI G 200 v_pt))] sz)) (va_A [(b_o, (oc12 u_th u_sa b_rf b_ro b_im b_ke u_fd b_tp u_td u_fr u_to u_so u_wo u_fa u_bd u_nc b_nl u_co b_op b_ar u_le b_pi b_pa u_pd u_od b_ws b_hw u_la b_se b_re u_bk u_va u_su u_ce u_ho u_wy u_bt u_ps b_pt u_tg u_sn b_ip u_ic b_ah b_be b_me u_wd b_tr b_ld u_st b_wn u_id)), (b_ro, (arI G 5740 v_ro)), (b_se, (arJ G 13 v_se)), (b_re, (arJ G 400 v_re)), (b_pt, (arI G 200 v_pt))] sz)) 0 0 (va_A [(b_o, (oc12 u_th u_sa b_rf b_ro b_im b_ke u_fd b_tp u_td u_fr u_to u_so u_wo u_fa u_bd u_nc b_nl u_co b_op b_ar u_le b_pi b_pa u_pd u_od b_ws b_hw u_la b_se b_re u_bk u_va u_su u_ce u_ho u_wy u_bt u_ps b_pt u_tg u_sn b_ip u_ic b_ah b_be b_me u_wd b_tr b_ld u_st b_wn u_id)), (b_ro, (arI G 5740 v_ro)), (b_se, (arJ G 13 v_se)), (b_re, (arJ G 400 v_re)), (b_pt, (arI G 200 v_pt))] sz) := by
  refine Met.ofW (cc := cX12_look) (maxL := 5) (ret := (some .int)) (by decide) rfl ?_
  intro p e s m args below meth c s₁ B hml hv
  obtain ⟨rfl, hsz, hP, hK, hD0, hN, hT⟩ := hv
  have hx := B.exec
  have hb := B.bytes
  have hr := B.returns
  have hts : ∀ w ∈ tblG, w.before _ s = true := fun w h => atoms_spec (ws := (wsG yX12_look cX12_look 5 (some .int))) B.pre w (List.mem_cons_of_mem _ h)
  have hown : s.vm.findClass RX12 = some m.cls := findClass_of_methodNamed B.named
  have hlocks := B.notSynchronized
  subst hsz
  have hD := hD0.self (sz := s.heap.size)
  generalize hAe : va_A [(b_o, (oc12 u_th u_sa b_rf b_ro b_im b_ke u_fd b_tp u_td u_fr u_to u_so u_wo u_fa u_bd u_nc b_nl u_co b_op b_ar u_le b_pi b_pa u_pd u_od b_ws b_hw u_la b_se b_re u_bk u_va u_su u_ce u_ho u_wy u_bt u_ps b_pt u_tg u_sn b_ip u_ic b_ah b_be b_me u_wd b_tr b_ld u_st b_wn u_id)), (b_ro, (arI G 5740 v_ro)), (b_se, (arJ G 13 v_se)), (b_re, (arJ G 400 v_re)), (b_pt, (arI G 200 v_pt))] s.heap.size = A at hD hT ⊢
  have hA : ∀ q : Nat, s.heap.size ≤ q → A q := fun q h => by rw [← hAe]; exact Or.inr h
  have hS : va_S A s.heap s.heap [] := va_S.rf
  have hP : va_P G.1 vwCl [(b_o, (oc12 u_th u_sa b_rf b_ro b_im b_ke u_fd b_tp u_td u_fr u_to u_so u_wo u_fa u_bd u_nc b_nl u_co b_op b_ar u_le b_pi b_pa u_pd u_od b_ws b_hw u_la b_se b_re u_bk u_va u_su u_ce u_ho u_wy u_bt u_ps b_pt u_tg u_sn b_ip u_ic b_ah b_be b_me u_wd b_tr b_ld u_st b_wn u_id)), (b_ro, (arI G 5740 v_ro)), (b_se, (arJ G 13 v_se)), (b_re, (arJ G 400 v_re)), (b_pt, (arI G 200 v_pt))] s.heap := hP
  have hl := lv_entry ([.ref b_o, .int p_1, .int p_2, .int p_3, .int p_4]) (n := 5) (Nat.le_of_ble_eq_true rfl)
  rw [lg_entry_eq]
  generalize (lg_sl ([.ref b_o, .int p_1, .int p_2, .int p_3, .int p_4]) ++ List.replicate (5 - (lg_sl ([.ref b_o, .int p_1, .int p_2, .int p_3, .int p_4])).length) Slot.unset).toArray = ls at hl ⊢
  have hl : lv_has ls 5 [(0, .ref b_o), (1, .int p_1), (2, .int p_2), (3, .int p_3), (4, .int p_4)] := hl
  refine lv_aload_n hx hb dX12_look_0 rfl (lv_at hl 0 rfl) ?_
  refine lv_iconst (v := 0) hx hb dX12_look_1 (by decide) ?_
  refine va_put (D := G.1) (ci := 12) (v := .int 0) (ty := .int) (C := RX12) (T := TX12) (N := 52) hx hb hts inG_X12 tyX12 tyX12_ok nmX12 hown hK hP hD hS 0 rfl rfl 0 (by decide) (hts _ fl_X12_107) (fun _ h9 => h9) rfl (by decide +kernel) rfl rfl (Nat.le_of_ble_eq_true rfl) dX12_look_2 (fun H locs hP hD hS => ?_)
  refine g5_rs [(b_o, (oc12 0 u_sa b_rf b_ro b_im b_ke u_fd b_tp u_td u_fr u_to u_so u_wo u_fa u_bd u_nc b_nl u_co b_op b_ar u_le b_pi b_pa u_pd u_od b_ws b_hw u_la b_se b_re u_bk u_va u_su u_ce u_ho u_wy u_bt u_ps b_pt u_tg u_sn b_ip u_ic b_ah b_be b_me u_wd b_tr b_ld u_st b_wn u_id)), (b_ro, (arI G 5740 v_ro)), (b_se, (arJ G 13 v_se)), (b_re, (arJ G 400 v_re)), (b_pt, (arI G 200 v_pt))] hP hD (fun hP hD => ?_)
  refine lv_iload_n hx hb dX12_look_5 rfl (lv_at hl 1 rfl) ?_
  refine lv_iload_n hx hb dX12_look_6 rfl (lv_at hl 2 rfl) ?_
  refine lv_iload_n hx hb dX12_look_7 rfl (lv_at hl 3 rfl) ?_
  obtain ⟨hPc, hDc, hFc⟩ := g5_sub3 (wc := []) hP hD hS hA [] (by decide) rfl
  refine va_calli (va_runS (As := [.int p_1, .int p_2, .int p_3]) (rest := []) ⟨hx, hb, hml, hown, hts⟩ (n_isLook l G H.size p_1 p_2 p_3) (va_cwS 3 hts gS_X12_397 rfl rfl rfl hs_X12_isLook ⟨Nat.le_of_ble_eq_true rfl, Nat.le_of_ble_eq_true rfl⟩) (g5_preS hPc hK hDc hN hT hS hFc) rfl rfl hl.1 rfl (lv_room (Nat.le_of_ble_eq_true rfl)) dX12_look_8 ⟨Nat.le_of_ble_eq_true rfl, Nat.le_of_ble_eq_true rfl⟩) hS (fun q _ h => hFc q h) hFc (fun r u t H1 locs ht hvm hw hB hz1 hk1 hS => ?_)
  obtain ⟨hP1, hD1⟩ := hB
  rw [ht] at hP1
  rcases hw with ⟨i_1, i_2, i_3, rfl, rfl⟩ | ⟨rfl, rfl⟩
  ·
    have i_1 : 0 ≤ p_1.toInt ∧ p_1.toInt ≤ 63 := i_1
    have i_2 : 0 ≤ p_2.toInt ∧ p_2.toInt ≤ 3 := i_2
    have i_3 : 0 ≤ p_3.toInt ∧ p_3.toInt ≤ 23 := i_3
    have hP := g5_same hP hk1
    generalize H1 = H at hP hS ⊢
    refine lv_if_ne (tgt := 16) hx hb dX12_look_11 (by decide) (fun c_4 => ?_) (fun c_4 => ?_)
    ·
      refine lv_aload_n hx hb dX12_look_16 rfl (lv_at hl 0 rfl) ?_
      refine lv_iload_n hx hb dX12_look_17 rfl (lv_at hl 1 rfl) ?_
      refine lv_iload_n hx hb dX12_look_18 rfl (lv_at hl 2 rfl) ?_
      refine lv_iload_n hx hb dX12_look_19 rfl (lv_at hl 3 rfl) ?_
      refine lv_iconst (v := 0) hx hb dX12_look_20 (by decide) ?_
      obtain ⟨hPc, hDc, hFc⟩ := g5_sub3 (wc := [(b_o, (oc12 0 u_sa b_rf b_ro b_im b_ke u_fd b_tp u_td u_fr u_to u_so u_wo u_fa u_bd u_nc b_nl u_co b_op b_ar u_le b_pi b_pa u_pd u_od b_ws b_hw u_la b_se b_re u_bk u_va u_su u_ce u_ho u_wy u_bt u_ps b_pt u_tg u_sn b_ip u_ic b_ah b_be b_me u_wd b_tr b_ld u_st b_wn u_id)), (b_ro, (arI G 5740 v_ro)), (b_se, (arJ G 13 v_se)), (b_re, (arJ G 400 v_re)), (b_pt, (arI G 200 v_pt))]) hP hD hS hA [0, 1, 2, 3, 4] (by decide) rfl
      refine va_callv (va_runV (As := [.int p_1, .int p_2, .int p_3, .int 0]) (rest := []) ⟨hx, hb, hml, hown, hts⟩ (n_go l G b_o b_ro b_se b_re b_pt b_rf b_im b_ke b_tp b_nl b_op b_ar b_pi b_pa b_ws b_hw b_ip b_ah b_be b_me b_tr b_ld b_wn H.size 0 u_sa u_fd u_td u_fr u_to u_so u_fa u_bd u_nc u_co u_le u_pd u_od u_la u_bk u_ce u_ho u_wy u_bt u_ps u_tg u_sn u_ic u_wd u_id p_1 p_2 p_3 0 u_wo u_va u_su u_st v_ro v_se v_re v_pt h_u_td h_u_fr h_u_to h_u_bd h_u_nc h_u_co h_u_pd h_u_la h_u_bk h_u_ce h_u_ho h_u_wy h_u_bt h_u_ps h_u_ic h_u_id i_1 i_2 i_3 (r_ro) (r_pt)) (cwV 4 hts gV_X12_401 rfl rfl rfl hv_X12_go ⟨Nat.le_of_ble_eq_true rfl, Nat.le_of_ble_eq_true rfl⟩) (g5_preV hPc hK hDc hN hT hS hFc (ci := 12) (q0 := 0) rfl rfl) rfl rfl hl.1 rfl (lv_room (Nat.le_of_ble_eq_true rfl)) dX12_look_21 ⟨Nat.le_of_ble_eq_true rfl, Nat.le_of_ble_eq_true rfl⟩) hS (fun q _ h => hFc q h) hFc (fun u t H1 locs ht hvm hw hB hz1 hk1 hS => ?_)
      obtain ⟨hP1, hD1⟩ := hB
      rw [ht] at hP1
      obtain ⟨z13, z14, z15, z16, z17, z18, z19, z20, z21, z22, z23, z24, z25, z26, i_5, i_6, i_7, i_8, i_9, i_10, i_11, i_12, rfl⟩ := hw
      have i_5 : 0 ≤ z13.toInt ∧ z13.toInt ≤ 4840 := i_5
      have i_6 : 0 ≤ z14.toInt ∧ z14.toInt ≤ 1 := i_6
      have i_7 : 0 ≤ z17.toInt ∧ z17.toInt ≤ 63 := i_7
      have i_8 : 0 ≤ z18.toInt ∧ z18.toInt ≤ 23 := i_8
      have i_9 : 0 ≤ z19.toInt ∧ z19.toInt ≤ 3 := i_9
      have i_10 : 0 ≤ z20.toInt ∧ z20.toInt ≤ 1000000 := i_10
      have i_11 : 0 ≤ z21.toInt ∧ z21.toInt ≤ 200 := i_11
      have i_12 : PTI z26 := i_12
      obtain ⟨hP, hD⟩ := va_join (wr := []) hP hD [0, 1, 2, 3, 4] [] rfl rfl (by decide) (by decide) hk1 hFc hP1 hD1
      generalize H1 = H at hP hS ⊢
      refine g5_rs [(b_o, (oc12 0 u_sa b_rf b_ro b_im b_ke u_fd b_tp u_td u_fr u_to u_so u_wo u_fa u_bd u_nc b_nl u_co b_op b_ar u_le b_pi b_pa u_pd u_od b_ws b_hw z13 b_se b_re z14 z15 z16 z17 z18 z19 z20 z21 b_pt z22 z23 b_ip u_ic b_ah b_be b_me u_wd b_tr b_ld u_st b_wn u_id)), (b_ro, (arI G 5740 v_ro)), (b_se, (arJ G 13 z24)), (b_re, (arJ G 400 z25)), (b_pt, (arI G 200 z26))] hP hD (fun hP hD => ?_)
      refine lv_iload hx hb dX12_look_24 (lv_at hl 4 rfl) ?_
      rcases (show p_4.toInt = 0 ∨ p_4.toInt = 1 ∨ p_4.toInt = 2 ∨ p_4.toInt = 3 ∨ p_4.toInt = 4 ∨ p_4.toInt < 0 ∨ p_4.toInt > 4 by omega) with s_27 | s_27 | s_27 | s_27 | s_27 | s_27 | s_27
      ·
        have i_27 : p_4.toInt = 0 := by omega
        refine lv_tableIn (tgt := 60) hx hb dX12_look_26 (by omega) (by omega) (by rw [s_27]; rfl) (by decide) ?_
        refine lv_aload_n hx hb dX12_look_60 rfl (lv_at hl 0 rfl) ?_
        refine va_get (D := G.1) (ci := 12) (v := .int z23) (C := RX12) (T := TX12) (N := 52) hx hb hts inG_X12 hown hK hP 0 rfl rfl 40 (by decide) (hts _ fl_X12_371) (fun _ h9 => h9) rfl dX12_look_61 ?_
        exact W.iret (v := z23) hx hb hr (fun t ht hW => ⟨⟨z23, [(b_o, (oc12 0 u_sa b_rf b_ro b_im b_ke u_fd b_tp u_td u_fr u_to u_so u_wo u_fa u_bd u_nc b_nl u_co b_op b_ar u_le b_pi b_pa u_pd u_od b_ws b_hw z13 b_se b_re z14 z15 z16 z17 z18 z19 z20 z21 b_pt z22 z23 b_ip u_ic b_ah b_be b_me u_wd b_tr b_ld u_st b_wn u_id)), (b_ro, (arI G 5740 v_ro)), (b_se, (arJ G 13 z24)), (b_re, (arJ G 400 z25)), (b_pt, (arI G 200 z26))], rfl, ⟨z23, 0, z13, z14, z15, z16, z17, z18, z19, z20, z21, z22, z23, z24, z25, z26, i_5, i_6, i_7, i_8, i_9, i_10, i_11, i_12, rfl, rfl⟩, by rw [ht]; exact hP.sub [0, 1, 2, 3, 4] rfl, hD.sub [0, 1, 2, 3, 4] (by decide) rfl⟩, hS.F ht⟩) hS.2.2 dX12_look_64
      ·
        have i_27 : p_4.toInt = 1 := by omega
        refine lv_tableIn (tgt := 65) hx hb dX12_look_26 (by omega) (by omega) (by rw [s_27]; rfl) (by decide) ?_
        refine lv_aload_n hx hb dX12_look_65 rfl (lv_at hl 0 rfl) ?_
        refine va_get (D := G.1) (ci := 12) (v := .int z21) (C := RX12) (T := TX12) (N := 52) hx hb hts inG_X12 hown hK hP 0 rfl rfl 37 (by decide) (hts _ fl_X12_358) (fun _ h9 => h9) rfl dX12_look_66 ?_
        exact W.iret (v := z21) hx hb hr (fun t ht hW => ⟨⟨z21, [(b_o, (oc12 0 u_sa b_rf b_ro b_im b_ke u_fd b_tp u_td u_fr u_to u_so u_wo u_fa u_bd u_nc b_nl u_co b_op b_ar u_le b_pi b_pa u_pd u_od b_ws b_hw z13 b_se b_re z14 z15 z16 z17 z18 z19 z20 z21 b_pt z22 z23 b_ip u_ic b_ah b_be b_me u_wd b_tr b_ld u_st b_wn u_id)), (b_ro, (arI G 5740 v_ro)), (b_se, (arJ G 13 z24)), (b_re, (arJ G 400 z25)), (b_pt, (arI G 200 z26))], rfl, ⟨z21, 0, z13, z14, z15, z16, z17, z18, z19, z20, z21, z22, z23, z24, z25, z26, i_5, i_6, i_7, i_8, i_9, i_10, i_11, i_12, rfl, rfl⟩, by rw [ht]; exact hP.sub [0, 1, 2, 3, 4] rfl, hD.sub [0, 1, 2, 3, 4] (by decide) rfl⟩, hS.F ht⟩) hS.2.2 dX12_look_69
      ·
        have i_27 : p_4.toInt = 2 := by omega
        refine lv_tableIn (tgt := 70) hx hb dX12_look_26 (by omega) (by omega) (by rw [s_27]; rfl) (by decide) ?_
        refine lv_aload_n hx hb dX12_look_70 rfl (lv_at hl 0 rfl) ?_
        refine va_get (D := G.1) (ci := 12) (v := .int z21) (C := RX12) (T := TX12) (N := 52) hx hb hts inG_X12 hown hK hP 0 rfl rfl 37 (by decide) (hts _ fl_X12_358) (fun _ h9 => h9) rfl dX12_look_71 ?_
        refine lv_if_ne (tgt := 81) hx hb dX12_look_74 (by decide) (fun c_28 => ?_) (fun c_28 => ?_)
        ·
          have n_28 : gNe (z21.toInt) (0) := by have z := g5_ne (a := z21.toInt) (b := 0) (by rfl) (by decide) c_28; unfold gNe; omega
          have i_28 : z21.toInt ≥ 1 := by have z := g5_ne (a := z21.toInt) (b := 0) (by rfl) (by decide) c_28; omega
          refine lv_aload_n hx hb dX12_look_81 rfl (lv_at hl 0 rfl) ?_
          refine va_get (D := G.1) (ci := 12) (v := .ref b_pt) (C := RX12) (T := TX12) (N := 52) hx hb hts inG_X12 hown hK hP 0 rfl rfl 38 (by decide) (hts _ fl_X12_82) (fun _ h9 => h9) rfl dX12_look_82 ?_
          refine lv_aload_n hx hb dX12_look_85 rfl (lv_at hl 0 rfl) ?_
          refine va_get (D := G.1) (ci := 12) (v := .int z21) (C := RX12) (T := TX12) (N := 52) hx hb hts inG_X12 hown hK hP 0 rfl rfl 37 (by decide) (hts _ fl_X12_358) (fun _ h9 => h9) rfl dX12_look_86 ?_
          refine lv_iconst (v := 1) hx hb dX12_look_89 (by decide) ?_
          refine lv_isub hx hb dX12_look_90 ?_
          have t_29 : (z21 - 1).toInt = z21.toInt - 1 := g5_isub (a := z21.toInt) (b := 1) (by rfl) (by decide) (by omega) (by omega)
          refine va_iald hx hb hK hP 4 0 rfl rfl (i := (z21 - 1)) (vp_in_iff.mpr ⟨by omega, by omega⟩) dX12_look_91 ?_
          have hr_30 : 0 ≤ (z26 (z21 - 1).toNatClampNeg).toInt ∧ (z26 (z21 - 1).toNatClampNeg).toInt ≤ 1535 := i_12 ((z21 - 1).toNatClampNeg)
          refine lv_bipush (v := 64) hx hb dX12_look_92 (by decide) ?_
          refine lv_idiv hx hb dX12_look_94 (by decide) ?_
          have t_31 : ((z26 (z21 - 1).toNatClampNeg) / 64).toInt = (z26 (z21 - 1).toNatClampNeg).toInt / 64 := g5_idiv (a := (z26 (z21 - 1).toNatClampNeg).toInt) (b := 64) rfl (by decide) (by omega) (by decide)
          exact W.iret (v := ((z26 (z21 - 1).toNatClampNeg) / 64)) hx hb hr (fun t ht hW => ⟨⟨((z26 (z21 - 1).toNatClampNeg) / 64), [(b_o, (oc12 0 u_sa b_rf b_ro b_im b_ke u_fd b_tp u_td u_fr u_to u_so u_wo u_fa u_bd u_nc b_nl u_co b_op b_ar u_le b_pi b_pa u_pd u_od b_ws b_hw z13 b_se b_re z14 z15 z16 z17 z18 z19 z20 z21 b_pt z22 z23 b_ip u_ic b_ah b_be b_me u_wd b_tr b_ld u_st b_wn u_id)), (b_ro, (arI G 5740 v_ro)), (b_se, (arJ G 13 z24)), (b_re, (arJ G 400 z25)), (b_pt, (arI G 200 z26))], rfl, ⟨((z26 (z21 - 1).toNatClampNeg) / 64), 0, z13, z14, z15, z16, z17, z18, z19, z20, z21, z22, z23, z24, z25, z26, i_5, i_6, i_7, i_8, i_9, i_10, i_11, i_12, rfl, rfl⟩, by rw [ht]; exact hP.sub [0, 1, 2, 3, 4] rfl, hD.sub [0, 1, 2, 3, 4] (by decide) rfl⟩, hS.F ht⟩) hS.2.2 dX12_look_95
        ·
          have i_28 : z21.toInt = 0 := by have z := g5_neN (a := z21.toInt) (b := 0) (by rfl) (by decide) c_28; omega
          refine lv_iconst (v := (-1)) hx hb dX12_look_77 (by decide) ?_
          refine lv_goto (tgt := 95) hx hb dX12_look_78 (by decide) ?_
          exact W.iret (v := (-1)) hx hb hr (fun t ht hW => ⟨⟨(-1), [(b_o, (oc12 0 u_sa b_rf b_ro b_im b_ke u_fd b_tp u_td u_fr u_to u_so u_wo u_fa u_bd u_nc b_nl u_co b_op b_ar u_le b_pi b_pa u_pd u_od b_ws b_hw z13 b_se b_re z14 z15 z16 z17 z18 z19 z20 z21 b_pt z22 z23 b_ip u_ic b_ah b_be b_me u_wd b_tr b_ld u_st b_wn u_id)), (b_ro, (arI G 5740 v_ro)), (b_se, (arJ G 13 z24)), (b_re, (arJ G 400 z25)), (b_pt, (arI G 200 z26))], rfl, ⟨(-1), 0, z13, z14, z15, z16, z17, z18, z19, z20, z21, z22, z23, z24, z25, z26, i_5, i_6, i_7, i_8, i_9, i_10, i_11, i_12, rfl, rfl⟩, by rw [ht]; exact hP.sub [0, 1, 2, 3, 4] rfl, hD.sub [0, 1, 2, 3, 4] (by decide) rfl⟩, hS.F ht⟩) hS.2.2 dX12_look_95
      ·
        have i_27 : p_4.toInt = 3 := by omega
        refine lv_tableIn (tgt := 96) hx hb dX12_look_26 (by omega) (by omega) (by rw [s_27]; rfl) (by decide) ?_
        refine lv_aload_n hx hb dX12_look_96 rfl (lv_at hl 0 rfl) ?_
        refine va_get (D := G.1) (ci := 12) (v := .int z20) (C := RX12) (T := TX12) (N := 52) hx hb hts inG_X12 hown hK hP 0 rfl rfl 36 (by decide) (hts _ fl_X12_361) (fun _ h9 => h9) rfl dX12_look_97 ?_
        exact W.iret (v := z20) hx hb hr (fun t ht hW => ⟨⟨z20, [(b_o, (oc12 0 u_sa b_rf b_ro b_im b_ke u_fd b_tp u_td u_fr u_to u_so u_wo u_fa u_bd u_nc b_nl u_co b_op b_ar u_le b_pi b_pa u_pd u_od b_ws b_hw z13 b_se b_re z14 z15 z16 z17 z18 z19 z20 z21 b_pt z22 z23 b_ip u_ic b_ah b_be b_me u_wd b_tr b_ld u_st b_wn u_id)), (b_ro, (arI G 5740 v_ro)), (b_se, (arJ G 13 z24)), (b_re, (arJ G 400 z25)), (b_pt, (arI G 200 z26))], rfl, ⟨z20, 0, z13, z14, z15, z16, z17, z18, z19, z20, z21, z22, z23, z24, z25, z26, i_5, i_6, i_7, i_8, i_9, i_10, i_11, i_12, rfl, rfl⟩, by rw [ht]; exact hP.sub [0, 1, 2, 3, 4] rfl, hD.sub [0, 1, 2, 3, 4] (by decide) rfl⟩, hS.F ht⟩) hS.2.2 dX12_look_100
      ·
        have i_27 : p_4.toInt = 4 := by omega
        refine lv_tableIn (tgt := 101) hx hb dX12_look_26 (by omega) (by omega) (by rw [s_27]; rfl) (by decide) ?_
        refine lv_aload_n hx hb dX12_look_101 rfl (lv_at hl 0 rfl) ?_
        refine va_get (D := G.1) (ci := 12) (v := .int z22) (C := RX12) (T := TX12) (N := 52) hx hb hts inG_X12 hown hK hP 0 rfl rfl 39 (by decide) (hts _ fl_X12_368) (fun _ h9 => h9) rfl dX12_look_102 ?_
        exact W.iret (v := z22) hx hb hr (fun t ht hW => ⟨⟨z22, [(b_o, (oc12 0 u_sa b_rf b_ro b_im b_ke u_fd b_tp u_td u_fr u_to u_so u_wo u_fa u_bd u_nc b_nl u_co b_op b_ar u_le b_pi b_pa u_pd u_od b_ws b_hw z13 b_se b_re z14 z15 z16 z17 z18 z19 z20 z21 b_pt z22 z23 b_ip u_ic b_ah b_be b_me u_wd b_tr b_ld u_st b_wn u_id)), (b_ro, (arI G 5740 v_ro)), (b_se, (arJ G 13 z24)), (b_re, (arJ G 400 z25)), (b_pt, (arI G 200 z26))], rfl, ⟨z22, 0, z13, z14, z15, z16, z17, z18, z19, z20, z21, z22, z23, z24, z25, z26, i_5, i_6, i_7, i_8, i_9, i_10, i_11, i_12, rfl, rfl⟩, by rw [ht]; exact hP.sub [0, 1, 2, 3, 4] rfl, hD.sub [0, 1, 2, 3, 4] (by decide) rfl⟩, hS.F ht⟩) hS.2.2 dX12_look_105
      ·
        have i_27 : p_4.toInt < 0 := by omega
        refine lv_tableOut (tgt := 106) hx hb dX12_look_26 (by omega) (by decide) ?_
        refine lv_iconst (v := (-1)) hx hb dX12_look_106 (by decide) ?_
        exact W.iret (v := (-1)) hx hb hr (fun t ht hW => ⟨⟨(-1), [(b_o, (oc12 0 u_sa b_rf b_ro b_im b_ke u_fd b_tp u_td u_fr u_to u_so u_wo u_fa u_bd u_nc b_nl u_co b_op b_ar u_le b_pi b_pa u_pd u_od b_ws b_hw z13 b_se b_re z14 z15 z16 z17 z18 z19 z20 z21 b_pt z22 z23 b_ip u_ic b_ah b_be b_me u_wd b_tr b_ld u_st b_wn u_id)), (b_ro, (arI G 5740 v_ro)), (b_se, (arJ G 13 z24)), (b_re, (arJ G 400 z25)), (b_pt, (arI G 200 z26))], rfl, ⟨(-1), 0, z13, z14, z15, z16, z17, z18, z19, z20, z21, z22, z23, z24, z25, z26, i_5, i_6, i_7, i_8, i_9, i_10, i_11, i_12, rfl, rfl⟩, by rw [ht]; exact hP.sub [0, 1, 2, 3, 4] rfl, hD.sub [0, 1, 2, 3, 4] (by decide) rfl⟩, hS.F ht⟩) hS.2.2 dX12_look_107
      ·
        have i_27 : p_4.toInt > 4 := by omega
        refine lv_tableOut (tgt := 106) hx hb dX12_look_26 (by omega) (by decide) ?_
        refine lv_iconst (v := (-1)) hx hb dX12_look_106 (by decide) ?_
        exact W.iret (v := (-1)) hx hb hr (fun t ht hW => ⟨⟨(-1), [(b_o, (oc12 0 u_sa b_rf b_ro b_im b_ke u_fd b_tp u_td u_fr u_to u_so u_wo u_fa u_bd u_nc b_nl u_co b_op b_ar u_le b_pi b_pa u_pd u_od b_ws b_hw z13 b_se b_re z14 z15 z16 z17 z18 z19 z20 z21 b_pt z22 z23 b_ip u_ic b_ah b_be b_me u_wd b_tr b_ld u_st b_wn u_id)), (b_ro, (arI G 5740 v_ro)), (b_se, (arJ G 13 z24)), (b_re, (arJ G 400 z25)), (b_pt, (arI G 200 z26))], rfl, ⟨(-1), 0, z13, z14, z15, z16, z17, z18, z19, z20, z21, z22, z23, z24, z25, z26, i_5, i_6, i_7, i_8, i_9, i_10, i_11, i_12, rfl, rfl⟩, by rw [ht]; exact hP.sub [0, 1, 2, 3, 4] rfl, hD.sub [0, 1, 2, 3, 4] (by decide) rfl⟩, hS.F ht⟩) hS.2.2 dX12_look_107
    ·
      exact absurd c_4 (by decide)
  ·
    have hP := g5_same hP hk1
    generalize H1 = H at hP hS ⊢
    refine lv_if_ne (tgt := 16) hx hb dX12_look_11 (by decide) (fun c_32 => ?_) (fun c_32 => ?_)
    ·
      exact absurd c_32 (by decide)
    ·
      refine lv_iconst (v := (-1)) hx hb dX12_look_14 (by decide) ?_
      exact W.iret (v := (-1)) hx hb hr (fun t ht hW => ⟨⟨(-1), [(b_o, (oc12 0 u_sa b_rf b_ro b_im b_ke u_fd b_tp u_td u_fr u_to u_so u_wo u_fa u_bd u_nc b_nl u_co b_op b_ar u_le b_pi b_pa u_pd u_od b_ws b_hw u_la b_se b_re u_bk u_va u_su u_ce u_ho u_wy u_bt u_ps b_pt u_tg u_sn b_ip u_ic b_ah b_be b_me u_wd b_tr b_ld u_st b_wn u_id)), (b_ro, (arI G 5740 v_ro)), (b_se, (arJ G 13 v_se)), (b_re, (arJ G 400 v_re)), (b_pt, (arI G 200 v_pt))], rfl, ⟨(-1), 0, u_la, u_bk, u_va, u_su, u_ce, u_ho, u_wy, u_bt, u_ps, u_tg, u_sn, v_se, v_re, v_pt, h_u_la, h_u_bk, h_u_ce, h_u_ho, h_u_wy, h_u_bt, h_u_ps, r_pt, rfl, rfl⟩, by rw [ht]; exact hP.sub [0, 1, 2, 3, 4] rfl, hD.sub [0, 1, 2, 3, 4] (by decide) rfl⟩, hS.F ht⟩) hS.2.2 dX12_look_15
theorem dgX12_point_0 : ∀ r ∈ ([(0, (.aload_n 0, 1)), (1, (.iconst 0, 1)), (2, (.putfield 107, 3)), (5, (.iload_n 1, 1)), (6, (.iload_n 2, 1)), (7, (.iload_n 3, 1)), (8, (.invokestatic 397, 3)), (11, (.ifCond .ne 5, 3)), (14, (.iconst (-1), 1)), (15, (.ireturn, 1)), (16, (.aload_n 0, 1)), (17, (.iload_n 1, 1)), (18, (.iload_n 2, 1)), (19, (.iload_n 3, 1)), (20, (.iconst 0, 1)), (21, (.invokevirtual 401, 3)), (24, (.iload 4, 2)), (26, (.i2l, 1)), (27, (.lconst 0, 1)), (28, (.aload_n 0, 1)), (29, (.getfield 358, 3)), (32, (.i2l, 1)), (33, (.lconst 1, 1)), (34, (.lsub, 1)), (35, (.invokestatic 121, 3)), (38, (.ifCond .eq 13, 3)), (41, (.aload_n 0, 1)), (42, (.getfield 82, 3)), (45, (.iload 4, 2)), (47, (.iaload, 1)), (48, (.goto 4, 3)), (51, (.iconst (-1), 1)), (52, (.ireturn, 1))] : List (Nat × (Instr × Nat))), decode cX12_point r.1 = .ok r.2 := by decide +kernel
theorem dX12_point_0 : decode cX12_point 0 = .ok (.aload_n 0, 1) := dgX12_point_0 (0, (.aload_n 0, 1)) (List.mem_of_getElem? (i := 0) rfl)
theorem dX12_point_1 : decode cX12_point 1 = .ok (.iconst 0, 1) := dgX12_point_0 (1, (.iconst 0, 1)) (List.mem_of_getElem? (i := 1) rfl)
theorem dX12_point_2 : decode cX12_point 2 = .ok (.putfield 107, 3) := dgX12_point_0 (2, (.putfield 107, 3)) (List.mem_of_getElem? (i := 2) rfl)
theorem dX12_point_5 : decode cX12_point 5 = .ok (.iload_n 1, 1) := dgX12_point_0 (5, (.iload_n 1, 1)) (List.mem_of_getElem? (i := 3) rfl)
theorem dX12_point_6 : decode cX12_point 6 = .ok (.iload_n 2, 1) := dgX12_point_0 (6, (.iload_n 2, 1)) (List.mem_of_getElem? (i := 4) rfl)
theorem dX12_point_7 : decode cX12_point 7 = .ok (.iload_n 3, 1) := dgX12_point_0 (7, (.iload_n 3, 1)) (List.mem_of_getElem? (i := 5) rfl)
theorem dX12_point_8 : decode cX12_point 8 = .ok (.invokestatic 397, 3) := dgX12_point_0 (8, (.invokestatic 397, 3)) (List.mem_of_getElem? (i := 6) rfl)
theorem dX12_point_11 : decode cX12_point 11 = .ok (.ifCond .ne 5, 3) := dgX12_point_0 (11, (.ifCond .ne 5, 3)) (List.mem_of_getElem? (i := 7) rfl)
theorem dX12_point_14 : decode cX12_point 14 = .ok (.iconst (-1), 1) := dgX12_point_0 (14, (.iconst (-1), 1)) (List.mem_of_getElem? (i := 8) rfl)
theorem dX12_point_15 : decode cX12_point 15 = .ok (.ireturn, 1) := dgX12_point_0 (15, (.ireturn, 1)) (List.mem_of_getElem? (i := 9) rfl)
theorem dX12_point_16 : decode cX12_point 16 = .ok (.aload_n 0, 1) := dgX12_point_0 (16, (.aload_n 0, 1)) (List.mem_of_getElem? (i := 10) rfl)
theorem dX12_point_17 : decode cX12_point 17 = .ok (.iload_n 1, 1) := dgX12_point_0 (17, (.iload_n 1, 1)) (List.mem_of_getElem? (i := 11) rfl)
theorem dX12_point_18 : decode cX12_point 18 = .ok (.iload_n 2, 1) := dgX12_point_0 (18, (.iload_n 2, 1)) (List.mem_of_getElem? (i := 12) rfl)
theorem dX12_point_19 : decode cX12_point 19 = .ok (.iload_n 3, 1) := dgX12_point_0 (19, (.iload_n 3, 1)) (List.mem_of_getElem? (i := 13) rfl)
theorem dX12_point_20 : decode cX12_point 20 = .ok (.iconst 0, 1) := dgX12_point_0 (20, (.iconst 0, 1)) (List.mem_of_getElem? (i := 14) rfl)
theorem dX12_point_21 : decode cX12_point 21 = .ok (.invokevirtual 401, 3) := dgX12_point_0 (21, (.invokevirtual 401, 3)) (List.mem_of_getElem? (i := 15) rfl)
theorem dX12_point_24 : decode cX12_point 24 = .ok (.iload 4, 2) := dgX12_point_0 (24, (.iload 4, 2)) (List.mem_of_getElem? (i := 16) rfl)
theorem dX12_point_26 : decode cX12_point 26 = .ok (.i2l, 1) := dgX12_point_0 (26, (.i2l, 1)) (List.mem_of_getElem? (i := 17) rfl)
theorem dX12_point_27 : decode cX12_point 27 = .ok (.lconst 0, 1) := dgX12_point_0 (27, (.lconst 0, 1)) (List.mem_of_getElem? (i := 18) rfl)
theorem dX12_point_28 : decode cX12_point 28 = .ok (.aload_n 0, 1) := dgX12_point_0 (28, (.aload_n 0, 1)) (List.mem_of_getElem? (i := 19) rfl)
theorem dX12_point_29 : decode cX12_point 29 = .ok (.getfield 358, 3) := dgX12_point_0 (29, (.getfield 358, 3)) (List.mem_of_getElem? (i := 20) rfl)
theorem dX12_point_32 : decode cX12_point 32 = .ok (.i2l, 1) := dgX12_point_0 (32, (.i2l, 1)) (List.mem_of_getElem? (i := 21) rfl)
theorem dX12_point_33 : decode cX12_point 33 = .ok (.lconst 1, 1) := dgX12_point_0 (33, (.lconst 1, 1)) (List.mem_of_getElem? (i := 22) rfl)
theorem dX12_point_34 : decode cX12_point 34 = .ok (.lsub, 1) := dgX12_point_0 (34, (.lsub, 1)) (List.mem_of_getElem? (i := 23) rfl)
theorem dX12_point_35 : decode cX12_point 35 = .ok (.invokestatic 121, 3) := dgX12_point_0 (35, (.invokestatic 121, 3)) (List.mem_of_getElem? (i := 24) rfl)
theorem dX12_point_38 : decode cX12_point 38 = .ok (.ifCond .eq 13, 3) := dgX12_point_0 (38, (.ifCond .eq 13, 3)) (List.mem_of_getElem? (i := 25) rfl)
theorem dX12_point_41 : decode cX12_point 41 = .ok (.aload_n 0, 1) := dgX12_point_0 (41, (.aload_n 0, 1)) (List.mem_of_getElem? (i := 26) rfl)
theorem dX12_point_42 : decode cX12_point 42 = .ok (.getfield 82, 3) := dgX12_point_0 (42, (.getfield 82, 3)) (List.mem_of_getElem? (i := 27) rfl)
theorem dX12_point_45 : decode cX12_point 45 = .ok (.iload 4, 2) := dgX12_point_0 (45, (.iload 4, 2)) (List.mem_of_getElem? (i := 28) rfl)
theorem dX12_point_47 : decode cX12_point 47 = .ok (.iaload, 1) := dgX12_point_0 (47, (.iaload, 1)) (List.mem_of_getElem? (i := 29) rfl)
theorem dX12_point_48 : decode cX12_point 48 = .ok (.goto 4, 3) := dgX12_point_0 (48, (.goto 4, 3)) (List.mem_of_getElem? (i := 30) rfl)
theorem dX12_point_51 : decode cX12_point 51 = .ok (.iconst (-1), 1) := dgX12_point_0 (51, (.iconst (-1), 1)) (List.mem_of_getElem? (i := 31) rfl)
theorem dX12_point_52 : decode cX12_point 52 = .ok (.ireturn, 1) := dgX12_point_0 (52, (.ireturn, 1)) (List.mem_of_getElem? (i := 32) rfl)
set_option maxHeartbeats 4000000 in
set_option maxRecDepth 100000 in
theorem n_point (l : Launch) (G : g5_G) (b_o b_ro b_se b_re b_pt b_rf b_im b_ke b_tp b_nl b_op b_ar b_pi b_pa b_ws b_hw b_ip b_ah b_be b_me b_tr b_ld b_wn : Nat) (sz : Nat) (u_th : Int32) (u_sa : Int32) (u_fd : Int32) (u_td : Int32) (u_fr : Int32) (u_to : Int32) (u_so : Int32) (u_fa : Int32) (u_bd : Int32) (u_nc : Int32) (u_co : Int32) (u_le : Int32) (u_pd : Int32) (u_od : Int32) (u_la : Int32) (u_bk : Int32) (u_ce : Int32) (u_ho : Int32) (u_wy : Int32) (u_bt : Int32) (u_ps : Int32) (u_tg : Int32) (u_sn : Int32) (u_ic : Int32) (u_wd : Int32) (u_id : Int32) (p_1 : Int32) (p_2 : Int32) (p_3 : Int32) (p_4 : Int32) (u_wo : Int64) (u_va : Int64) (u_su : Int64) (u_st : Int64) (v_ro : Nat → Int32) (v_se : Nat → Int64) (v_re : Nat → Int64) (v_pt : Nat → Int32) (h_u_td : 0 ≤ u_td.toInt ∧ u_td.toInt ≤ 400) (h_u_fr : 0 ≤ u_fr.toInt ∧ u_fr.toInt ≤ 400) (h_u_to : 0 ≤ u_to.toInt ∧ u_to.toInt ≤ 400) (h_u_bd : 0 ≤ u_bd.toInt ∧ u_bd.toInt ≤ 1) (h_u_nc : 0 ≤ u_nc.toInt ∧ u_nc.toInt ≤ 12) (h_u_co : 0 ≤ u_co.toInt ∧ u_co.toInt ≤ 400) (h_u_pd : 0 ≤ u_pd.toInt ∧ u_pd.toInt ≤ 400) (h_u_la : 0 ≤ u_la.toInt ∧ u_la.toInt ≤ 4840) (h_u_bk : 0 ≤ u_bk.toInt ∧ u_bk.toInt ≤ 1) (h_u_ce : 0 ≤ u_ce.toInt ∧ u_ce.toInt ≤ 63) (h_u_ho : 0 ≤ u_ho.toInt ∧ u_ho.toInt ≤ 23) (h_u_wy : 0 ≤ u_wy.toInt ∧ u_wy.toInt ≤ 3) (h_u_bt : 0 ≤ u_bt.toInt ∧ u_bt.toInt ≤ 1000000) (h_u_ps : 0 ≤ u_ps.toInt ∧ u_ps.toInt ≤ 200) (h_u_ic : 0 ≤ u_ic.toInt ∧ u_ic.toInt ≤ 1) (h_u_id : 0 ≤ u_id.toInt ∧ u_id.toInt ≤ 1) (r_ro : MI v_ro) (r_pt : PTI v_pt) : Met l yX12_point (wsG yX12_point cX12_point 5 (some .int)) ({ frames := 7, cells := 0, slots := 0, locals := 176 }) (va_Pc [.ref b_o, .int p_1, .int p_2, .int p_3, .int p_4] (g5_P G [(b_o, (oc12 u_th u_sa b_rf b_ro b_im b_ke u_fd b_tp u_td u_fr u_to u_so u_wo u_fa u_bd u_nc b_nl u_co b_op b_ar u_le b_pi b_pa u_pd u_od b_ws b_hw u_la b_se b_re u_bk u_va u_su u_ce u_ho u_wy u_bt u_ps b_pt u_tg u_sn b_ip u_ic b_ah b_be b_me u_wd b_tr b_ld u_st b_wn u_id)), (b_ro, (arI G 5740 v_ro)), (b_se, (arJ G 13 v_se)), (b_re, (arJ G 400 v_re)), (b_pt, (arI G 200 v_pt))] sz)) (va_Qi (fun (r : Int32) (u : va_W) => (∃ (o_r : Int32) (o_th : Int32) (o_la : Int32) (o_bk : Int32) (o_va : Int64) (o_su : Int64) (o_ce : Int32) (o_ho : Int32) (o_wy : Int32) (o_bt : Int32) (o_ps : Int32) (o_tg : Int32) (o_sn : Int32) (o_se : Nat → Int64) (o_re : Nat → Int64) (o_pt : Nat → Int32), (0 ≤ o_la.toInt ∧ o_la.toInt ≤ 4840) ∧ (0 ≤ o_bk.toInt ∧ o_bk.toInt ≤ 1) ∧ (0 ≤ o_ce.toInt ∧ o_ce.toInt ≤ 63) ∧ (0 ≤ o_ho.toInt ∧ o_ho.toInt ≤ 23) ∧ (0 ≤ o_wy.toInt ∧ o_wy.toInt ≤ 3) ∧ (0 ≤ o_bt.toInt ∧ o_bt.toInt ≤ 1000000) ∧ (0 ≤ o_ps.toInt ∧ o_ps.toInt ≤ 200) ∧ (PTI o_pt) ∧ (r = o_r) ∧ (u = [(b_o, (oc12 o_th u_sa b_rf b_ro b_im b_ke u_fd b_tp u_td u_fr u_to u_so u_wo u_fa u_bd u_nc b_nl u_co b_op b_ar u_le b_pi b_pa u_pd u_od b_ws b_hw o_la b_se b_re o_bk o_va o_su o_ce o_ho o_wy o_bt o_ps b_pt o_tg o_sn b_ip u_ic b_ah b_be b_me u_wd b_tr b_ld u_st b_wn u_id)), (b_ro, (arI G 5740 v_ro)), (b_se, (arJ G 13 o_se)), (b_re, (arJ G 400 o_re)), (b_pt, (arI G 200 o_pt))]))) (g5_B G (va_A [(b_o, (oc12 u_th u_sa b_rf b_ro b_im b_ke u_fd b_tp u_td u_fr u_to u_so u_wo u_fa u_bd u_nc b_nl u_co b_op b_ar u_le b_pi b_pa u_pd u_od b_ws b_hw u_la b_se b_re u_bk u_va u_su u_ce u_ho u_wy u_bt u_ps b_pt u_tg u_sn b_ip u_ic b_ah b_be b_me u_wd b_tr b_ld u_st b_wn u_id)), (b_ro, (arI G 5740 v_ro)), (b_se, (arJ G 13 v_se)), (b_re, (arJ G 400 v_re)), (b_pt, (arI G 200 v_pt))] sz)) (va_A [(b_o, (oc12 u_th u_sa b_rf b_ro b_im b_ke u_fd b_tp u_td u_fr u_to u_so u_wo u_fa u_bd u_nc b_nl u_co b_op b_ar u_le b_pi b_pa u_pd u_od b_ws b_hw u_la b_se b_re u_bk u_va u_su u_ce u_ho u_wy u_bt u_ps b_pt u_tg u_sn b_ip u_ic b_ah b_be b_me u_wd b_tr b_ld u_st b_wn u_id)), (b_ro, (arI G 5740 v_ro)), (b_se, (arJ G 13 v_se)), (b_re, (arJ G 400 v_re)), (b_pt, (arI G 200 v_pt))] sz)) 0 0 (va_A [(b_o, (oc12 u_th u_sa b_rf b_ro b_im b_ke u_fd b_tp u_td u_fr u_to u_so u_wo u_fa u_bd u_nc b_nl u_co b_op b_ar u_le b_pi b_pa u_pd u_od b_ws b_hw u_la b_se b_re u_bk u_va u_su u_ce u_ho u_wy u_bt u_ps b_pt u_tg u_sn b_ip u_ic b_ah b_be b_me u_wd b_tr b_ld u_st b_wn u_id)), (b_ro, (arI G 5740 v_ro)), (b_se, (arJ G 13 v_se)), (b_re, (arJ G 400 v_re)), (b_pt, (arI G 200 v_pt))] sz) := by
  refine Met.ofW (cc := cX12_point) (maxL := 5) (ret := (some .int)) (by decide) rfl ?_
  intro p e s m args below meth c s₁ B hml hv
  obtain ⟨rfl, hsz, hP, hK, hD0, hN, hT⟩ := hv
  have hx := B.exec
  have hb := B.bytes
  have hr := B.returns
  have hts : ∀ w ∈ tblG, w.before _ s = true := fun w h => atoms_spec (ws := (wsG yX12_point cX12_point 5 (some .int))) B.pre w (List.mem_cons_of_mem _ h)
  have hown : s.vm.findClass RX12 = some m.cls := findClass_of_methodNamed B.named
  have hlocks := B.notSynchronized
  subst hsz
  have hD := hD0.self (sz := s.heap.size)
  generalize hAe : va_A [(b_o, (oc12 u_th u_sa b_rf b_ro b_im b_ke u_fd b_tp u_td u_fr u_to u_so u_wo u_fa u_bd u_nc b_nl u_co b_op b_ar u_le b_pi b_pa u_pd u_od b_ws b_hw u_la b_se b_re u_bk u_va u_su u_ce u_ho u_wy u_bt u_ps b_pt u_tg u_sn b_ip u_ic b_ah b_be b_me u_wd b_tr b_ld u_st b_wn u_id)), (b_ro, (arI G 5740 v_ro)), (b_se, (arJ G 13 v_se)), (b_re, (arJ G 400 v_re)), (b_pt, (arI G 200 v_pt))] s.heap.size = A at hD hT ⊢
  have hA : ∀ q : Nat, s.heap.size ≤ q → A q := fun q h => by rw [← hAe]; exact Or.inr h
  have hS : va_S A s.heap s.heap [] := va_S.rf
  have hP : va_P G.1 vwCl [(b_o, (oc12 u_th u_sa b_rf b_ro b_im b_ke u_fd b_tp u_td u_fr u_to u_so u_wo u_fa u_bd u_nc b_nl u_co b_op b_ar u_le b_pi b_pa u_pd u_od b_ws b_hw u_la b_se b_re u_bk u_va u_su u_ce u_ho u_wy u_bt u_ps b_pt u_tg u_sn b_ip u_ic b_ah b_be b_me u_wd b_tr b_ld u_st b_wn u_id)), (b_ro, (arI G 5740 v_ro)), (b_se, (arJ G 13 v_se)), (b_re, (arJ G 400 v_re)), (b_pt, (arI G 200 v_pt))] s.heap := hP
  have hl := lv_entry ([.ref b_o, .int p_1, .int p_2, .int p_3, .int p_4]) (n := 5) (Nat.le_of_ble_eq_true rfl)
  rw [lg_entry_eq]
  generalize (lg_sl ([.ref b_o, .int p_1, .int p_2, .int p_3, .int p_4]) ++ List.replicate (5 - (lg_sl ([.ref b_o, .int p_1, .int p_2, .int p_3, .int p_4])).length) Slot.unset).toArray = ls at hl ⊢
  have hl : lv_has ls 5 [(0, .ref b_o), (1, .int p_1), (2, .int p_2), (3, .int p_3), (4, .int p_4)] := hl
  refine lv_aload_n hx hb dX12_point_0 rfl (lv_at hl 0 rfl) ?_
  refine lv_iconst (v := 0) hx hb dX12_point_1 (by decide) ?_
  refine va_put (D := G.1) (ci := 12) (v := .int 0) (ty := .int) (C := RX12) (T := TX12) (N := 52) hx hb hts inG_X12 tyX12 tyX12_ok nmX12 hown hK hP hD hS 0 rfl rfl 0 (by decide) (hts _ fl_X12_107) (fun _ h9 => h9) rfl (by decide +kernel) rfl rfl (Nat.le_of_ble_eq_true rfl) dX12_point_2 (fun H locs hP hD hS => ?_)
  refine g5_rs [(b_o, (oc12 0 u_sa b_rf b_ro b_im b_ke u_fd b_tp u_td u_fr u_to u_so u_wo u_fa u_bd u_nc b_nl u_co b_op b_ar u_le b_pi b_pa u_pd u_od b_ws b_hw u_la b_se b_re u_bk u_va u_su u_ce u_ho u_wy u_bt u_ps b_pt u_tg u_sn b_ip u_ic b_ah b_be b_me u_wd b_tr b_ld u_st b_wn u_id)), (b_ro, (arI G 5740 v_ro)), (b_se, (arJ G 13 v_se)), (b_re, (arJ G 400 v_re)), (b_pt, (arI G 200 v_pt))] hP hD (fun hP hD => ?_)
  refine lv_iload_n hx hb dX12_point_5 rfl (lv_at hl 1 rfl) ?_
  refine lv_iload_n hx hb dX12_point_6 rfl (lv_at hl 2 rfl) ?_
  refine lv_iload_n hx hb dX12_point_7 rfl (lv_at hl 3 rfl) ?_
  obtain ⟨hPc, hDc, hFc⟩ := g5_sub3 (wc := []) hP hD hS hA [] (by decide) rfl
  refine va_calli (va_runS (As := [.int p_1, .int p_2, .int p_3]) (rest := []) ⟨hx, hb, hml, hown, hts⟩ (n_isLook l G H.size p_1 p_2 p_3) (va_cwS 3 hts gS_X12_397 rfl rfl rfl hs_X12_isLook ⟨Nat.le_of_ble_eq_true rfl, Nat.le_of_ble_eq_true rfl⟩) (g5_preS hPc hK hDc hN hT hS hFc) rfl rfl hl.1 rfl (lv_room (Nat.le_of_ble_eq_true rfl)) dX12_point_8 ⟨Nat.le_of_ble_eq_true rfl, Nat.le_of_ble_eq_true rfl⟩) hS (fun q _ h => hFc q h) hFc (fun r u t H1 locs ht hvm hw hB hz1 hk1 hS => ?_)
  obtain ⟨hP1, hD1⟩ := hB
  rw [ht] at hP1
  rcases hw with ⟨i_1, i_2, i_3, rfl, rfl⟩ | ⟨rfl, rfl⟩
  ·
    have i_1 : 0 ≤ p_1.toInt ∧ p_1.toInt ≤ 63 := i_1
    have i_2 : 0 ≤ p_2.toInt ∧ p_2.toInt ≤ 3 := i_2
    have i_3 : 0 ≤ p_3.toInt ∧ p_3.toInt ≤ 23 := i_3
    have hP := g5_same hP hk1
    generalize H1 = H at hP hS ⊢
    refine lv_if_ne (tgt := 16) hx hb dX12_point_11 (by decide) (fun c_4 => ?_) (fun c_4 => ?_)
    ·
      refine lv_aload_n hx hb dX12_point_16 rfl (lv_at hl 0 rfl) ?_
      refine lv_iload_n hx hb dX12_point_17 rfl (lv_at hl 1 rfl) ?_
      refine lv_iload_n hx hb dX12_point_18 rfl (lv_at hl 2 rfl) ?_
      refine lv_iload_n hx hb dX12_point_19 rfl (lv_at hl 3 rfl) ?_
      refine lv_iconst (v := 0) hx hb dX12_point_20 (by decide) ?_
      obtain ⟨hPc, hDc, hFc⟩ := g5_sub3 (wc := [(b_o, (oc12 0 u_sa b_rf b_ro b_im b_ke u_fd b_tp u_td u_fr u_to u_so u_wo u_fa u_bd u_nc b_nl u_co b_op b_ar u_le b_pi b_pa u_pd u_od b_ws b_hw u_la b_se b_re u_bk u_va u_su u_ce u_ho u_wy u_bt u_ps b_pt u_tg u_sn b_ip u_ic b_ah b_be b_me u_wd b_tr b_ld u_st b_wn u_id)), (b_ro, (arI G 5740 v_ro)), (b_se, (arJ G 13 v_se)), (b_re, (arJ G 400 v_re)), (b_pt, (arI G 200 v_pt))]) hP hD hS hA [0, 1, 2, 3, 4] (by decide) rfl
      refine va_callv (va_runV (As := [.int p_1, .int p_2, .int p_3, .int 0]) (rest := []) ⟨hx, hb, hml, hown, hts⟩ (n_go l G b_o b_ro b_se b_re b_pt b_rf b_im b_ke b_tp b_nl b_op b_ar b_pi b_pa b_ws b_hw b_ip b_ah b_be b_me b_tr b_ld b_wn H.size 0 u_sa u_fd u_td u_fr u_to u_so u_fa u_bd u_nc u_co u_le u_pd u_od u_la u_bk u_ce u_ho u_wy u_bt u_ps u_tg u_sn u_ic u_wd u_id p_1 p_2 p_3 0 u_wo u_va u_su u_st v_ro v_se v_re v_pt h_u_td h_u_fr h_u_to h_u_bd h_u_nc h_u_co h_u_pd h_u_la h_u_bk h_u_ce h_u_ho h_u_wy h_u_bt h_u_ps h_u_ic h_u_id i_1 i_2 i_3 (r_ro) (r_pt)) (cwV 4 hts gV_X12_401 rfl rfl rfl hv_X12_go ⟨Nat.le_of_ble_eq_true rfl, Nat.le_of_ble_eq_true rfl⟩) (g5_preV hPc hK hDc hN hT hS hFc (ci := 12) (q0 := 0) rfl rfl) rfl rfl hl.1 rfl (lv_room (Nat.le_of_ble_eq_true rfl)) dX12_point_21 ⟨Nat.le_of_ble_eq_true rfl, Nat.le_of_ble_eq_true rfl⟩) hS (fun q _ h => hFc q h) hFc (fun u t H1 locs ht hvm hw hB hz1 hk1 hS => ?_)
      obtain ⟨hP1, hD1⟩ := hB
      rw [ht] at hP1
      obtain ⟨z13, z14, z15, z16, z17, z18, z19, z20, z21, z22, z23, z24, z25, z26, i_5, i_6, i_7, i_8, i_9, i_10, i_11, i_12, rfl⟩ := hw
      have i_5 : 0 ≤ z13.toInt ∧ z13.toInt ≤ 4840 := i_5
      have i_6 : 0 ≤ z14.toInt ∧ z14.toInt ≤ 1 := i_6
      have i_7 : 0 ≤ z17.toInt ∧ z17.toInt ≤ 63 := i_7
      have i_8 : 0 ≤ z18.toInt ∧ z18.toInt ≤ 23 := i_8
      have i_9 : 0 ≤ z19.toInt ∧ z19.toInt ≤ 3 := i_9
      have i_10 : 0 ≤ z20.toInt ∧ z20.toInt ≤ 1000000 := i_10
      have i_11 : 0 ≤ z21.toInt ∧ z21.toInt ≤ 200 := i_11
      have i_12 : PTI z26 := i_12
      obtain ⟨hP, hD⟩ := va_join (wr := []) hP hD [0, 1, 2, 3, 4] [] rfl rfl (by decide) (by decide) hk1 hFc hP1 hD1
      generalize H1 = H at hP hS ⊢
      refine g5_rs [(b_o, (oc12 0 u_sa b_rf b_ro b_im b_ke u_fd b_tp u_td u_fr u_to u_so u_wo u_fa u_bd u_nc b_nl u_co b_op b_ar u_le b_pi b_pa u_pd u_od b_ws b_hw z13 b_se b_re z14 z15 z16 z17 z18 z19 z20 z21 b_pt z22 z23 b_ip u_ic b_ah b_be b_me u_wd b_tr b_ld u_st b_wn u_id)), (b_ro, (arI G 5740 v_ro)), (b_se, (arJ G 13 z24)), (b_re, (arJ G 400 z25)), (b_pt, (arI G 200 z26))] hP hD (fun hP hD => ?_)
      refine lv_iload hx hb dX12_point_24 (lv_at hl 4 rfl) ?_
      refine lv_i2l (v := p_4.toInt64) hx hb dX12_point_26 rfl ?_
      refine lv_lconst (v := 0) hx hb dX12_point_27 (by decide) ?_
      refine lv_aload_n hx hb dX12_point_28 rfl (lv_at hl 0 rfl) ?_
      refine va_get (D := G.1) (ci := 12) (v := .int z21) (C := RX12) (T := TX12) (N := 52) hx hb hts inG_X12 hown hK hP 0 rfl rfl 37 (by decide) (hts _ fl_X12_358) (fun _ h9 => h9) rfl dX12_point_29 ?_
      refine lv_i2l (v := z21.toInt64) hx hb dX12_point_32 rfl ?_
      refine lv_lconst (v := 1) hx hb dX12_point_33 (by decide) ?_
      refine lv_lsub hx hb dX12_point_34 ?_
      obtain ⟨hPc, hDc, hFc⟩ := g5_sub3 (wc := []) hP hD hS hA [] (by decide) rfl
      refine va_calli (va_runS (As := [.long p_4.toInt64, .long 0, .long (z21.toInt64 - 1)]) (rest := []) ⟨hx, hb, hml, hown, hts⟩ (n_in_n l G H.size p_4 z21 ⟨by omega, by omega⟩) (va_cwS 3 hts gS_X12_121 rfl rfl rfl hs_X12_in ⟨Nat.le_of_ble_eq_true rfl, Nat.le_of_ble_eq_true rfl⟩) (g5_preS hPc hK hDc hN hT hS hFc) rfl rfl hl.1 rfl (lv_room (Nat.le_of_ble_eq_true rfl)) dX12_point_35 ⟨Nat.le_of_ble_eq_true rfl, Nat.le_of_ble_eq_true rfl⟩) hS (fun q _ h => hFc q h) hFc (fun r u t H1 locs ht hvm hw hB hz1 hk1 hS => ?_)
      obtain ⟨hP1, hD1⟩ := hB
      rw [ht] at hP1
      rcases hw with ⟨i_27, rfl, rfl⟩ | ⟨i_28, rfl, rfl⟩
      ·
        have i_27 : p_4.toInt < 0 ∨ z21.toInt ≤ p_4.toInt := i_27
        have hP := g5_same hP hk1
        generalize H1 = H at hP hS ⊢
        refine lv_if_eq (tgt := 51) hx hb dX12_point_38 (by decide) (fun c_29 => ?_) (fun c_29 => ?_)
        ·
          refine lv_iconst (v := (-1)) hx hb dX12_point_51 (by decide) ?_
          exact W.iret (v := (-1)) hx hb hr (fun t ht hW => ⟨⟨(-1), [(b_o, (oc12 0 u_sa b_rf b_ro b_im b_ke u_fd b_tp u_td u_fr u_to u_so u_wo u_fa u_bd u_nc b_nl u_co b_op b_ar u_le b_pi b_pa u_pd u_od b_ws b_hw z13 b_se b_re z14 z15 z16 z17 z18 z19 z20 z21 b_pt z22 z23 b_ip u_ic b_ah b_be b_me u_wd b_tr b_ld u_st b_wn u_id)), (b_ro, (arI G 5740 v_ro)), (b_se, (arJ G 13 z24)), (b_re, (arJ G 400 z25)), (b_pt, (arI G 200 z26))], rfl, ⟨(-1), 0, z13, z14, z15, z16, z17, z18, z19, z20, z21, z22, z23, z24, z25, z26, i_5, i_6, i_7, i_8, i_9, i_10, i_11, i_12, rfl, rfl⟩, by rw [ht]; exact hP.sub [0, 1, 2, 3, 4] rfl, hD.sub [0, 1, 2, 3, 4] (by decide) rfl⟩, hS.F ht⟩) hS.2.2 dX12_point_52
        ·
          exact absurd c_29 (by decide)
      ·
        have i_28 : 0 ≤ p_4.toInt ∧ p_4.toInt < z21.toInt := i_28
        have hP := g5_same hP hk1
        generalize H1 = H at hP hS ⊢
        refine lv_if_eq (tgt := 51) hx hb dX12_point_38 (by decide) (fun c_30 => ?_) (fun c_30 => ?_)
        ·
          exact absurd c_30 (by decide)
        ·
          refine lv_aload_n hx hb dX12_point_41 rfl (lv_at hl 0 rfl) ?_
          refine va_get (D := G.1) (ci := 12) (v := .ref b_pt) (C := RX12) (T := TX12) (N := 52) hx hb hts inG_X12 hown hK hP 0 rfl rfl 38 (by decide) (hts _ fl_X12_82) (fun _ h9 => h9) rfl dX12_point_42 ?_
          refine lv_iload hx hb dX12_point_45 (lv_at hl 4 rfl) ?_
          refine va_iald hx hb hK hP 4 0 rfl rfl (i := p_4) (vp_in_iff.mpr ⟨by omega, by omega⟩) dX12_point_47 ?_
          have hr_31 : 0 ≤ (z26 p_4.toNatClampNeg).toInt ∧ (z26 p_4.toNatClampNeg).toInt ≤ 1535 := i_12 (p_4.toNatClampNeg)
          refine lv_goto (tgt := 52) hx hb dX12_point_48 (by decide) ?_
          exact W.iret (v := (z26 p_4.toNatClampNeg)) hx hb hr (fun t ht hW => ⟨⟨(z26 p_4.toNatClampNeg), [(b_o, (oc12 0 u_sa b_rf b_ro b_im b_ke u_fd b_tp u_td u_fr u_to u_so u_wo u_fa u_bd u_nc b_nl u_co b_op b_ar u_le b_pi b_pa u_pd u_od b_ws b_hw z13 b_se b_re z14 z15 z16 z17 z18 z19 z20 z21 b_pt z22 z23 b_ip u_ic b_ah b_be b_me u_wd b_tr b_ld u_st b_wn u_id)), (b_ro, (arI G 5740 v_ro)), (b_se, (arJ G 13 z24)), (b_re, (arJ G 400 z25)), (b_pt, (arI G 200 z26))], rfl, ⟨(z26 p_4.toNatClampNeg), 0, z13, z14, z15, z16, z17, z18, z19, z20, z21, z22, z23, z24, z25, z26, i_5, i_6, i_7, i_8, i_9, i_10, i_11, i_12, rfl, rfl⟩, by rw [ht]; exact hP.sub [0, 1, 2, 3, 4] rfl, hD.sub [0, 1, 2, 3, 4] (by decide) rfl⟩, hS.F ht⟩) hS.2.2 dX12_point_52
    ·
      exact absurd c_4 (by decide)
  ·
    have hP := g5_same hP hk1
    generalize H1 = H at hP hS ⊢
    refine lv_if_ne (tgt := 16) hx hb dX12_point_11 (by decide) (fun c_32 => ?_) (fun c_32 => ?_)
    ·
      exact absurd c_32 (by decide)
    ·
      refine lv_iconst (v := (-1)) hx hb dX12_point_14 (by decide) ?_
      exact W.iret (v := (-1)) hx hb hr (fun t ht hW => ⟨⟨(-1), [(b_o, (oc12 0 u_sa b_rf b_ro b_im b_ke u_fd b_tp u_td u_fr u_to u_so u_wo u_fa u_bd u_nc b_nl u_co b_op b_ar u_le b_pi b_pa u_pd u_od b_ws b_hw u_la b_se b_re u_bk u_va u_su u_ce u_ho u_wy u_bt u_ps b_pt u_tg u_sn b_ip u_ic b_ah b_be b_me u_wd b_tr b_ld u_st b_wn u_id)), (b_ro, (arI G 5740 v_ro)), (b_se, (arJ G 13 v_se)), (b_re, (arJ G 400 v_re)), (b_pt, (arI G 200 v_pt))], rfl, ⟨(-1), 0, u_la, u_bk, u_va, u_su, u_ce, u_ho, u_wy, u_bt, u_ps, u_tg, u_sn, v_se, v_re, v_pt, h_u_la, h_u_bk, h_u_ce, h_u_ho, h_u_wy, h_u_bt, h_u_ps, r_pt, rfl, rfl⟩, by rw [ht]; exact hP.sub [0, 1, 2, 3, 4] rfl, hD.sub [0, 1, 2, 3, 4] (by decide) rfl⟩, hS.F ht⟩) hS.2.2 dX12_point_15
theorem dgX12_seenFrom_0 : ∀ r ∈ ([(0, (.iconst 0, 1)), (1, (.istore_n 3, 1)), (2, (.iconst 0, 1)), (3, (.istore 4, 2)), (5, (.iload 4, 2)), (7, (.iconst 4, 1)), (8, (.if_icmp .ge 39, 3)), (11, (.aload_n 0, 1)), (12, (.iload_n 1, 1)), (13, (.iload 4, 2)), (15, (.iload_n 2, 1)), (16, (.iconst 0, 1)), (17, (.invokevirtual 401, 3)), (20, (.iload_n 3, 1)), (21, (.aload_n 0, 1)), (22, (.getfield 371, 3)), (25, (.iconst (-1), 1)), (26, (.if_icmp .ne 7, 3)), (29, (.iconst 0, 1)), (30, (.goto 9, 3)), (33, (.iconst 1, 1)), (34, (.aload_n 0, 1)), (35, (.getfield 371, 3)), (38, (.ishl, 1)), (39, (.ior, 1)), (40, (.istore_n 3, 1)), (41, (.iinc 4 1, 3)), (44, (.goto (-39), 3)), (47, (.iload_n 3, 1)), (48, (.ireturn, 1))] : List (Nat × (Instr × Nat))), decode cX12_seenFrom r.1 = .ok r.2 := by decide +kernel
theorem dX12_seenFrom_0 : decode cX12_seenFrom 0 = .ok (.iconst 0, 1) := dgX12_seenFrom_0 (0, (.iconst 0, 1)) (List.mem_of_getElem? (i := 0) rfl)
theorem dX12_seenFrom_1 : decode cX12_seenFrom 1 = .ok (.istore_n 3, 1) := dgX12_seenFrom_0 (1, (.istore_n 3, 1)) (List.mem_of_getElem? (i := 1) rfl)
theorem dX12_seenFrom_2 : decode cX12_seenFrom 2 = .ok (.iconst 0, 1) := dgX12_seenFrom_0 (2, (.iconst 0, 1)) (List.mem_of_getElem? (i := 2) rfl)
theorem dX12_seenFrom_3 : decode cX12_seenFrom 3 = .ok (.istore 4, 2) := dgX12_seenFrom_0 (3, (.istore 4, 2)) (List.mem_of_getElem? (i := 3) rfl)
theorem dX12_seenFrom_5 : decode cX12_seenFrom 5 = .ok (.iload 4, 2) := dgX12_seenFrom_0 (5, (.iload 4, 2)) (List.mem_of_getElem? (i := 4) rfl)
theorem dX12_seenFrom_7 : decode cX12_seenFrom 7 = .ok (.iconst 4, 1) := dgX12_seenFrom_0 (7, (.iconst 4, 1)) (List.mem_of_getElem? (i := 5) rfl)
theorem dX12_seenFrom_8 : decode cX12_seenFrom 8 = .ok (.if_icmp .ge 39, 3) := dgX12_seenFrom_0 (8, (.if_icmp .ge 39, 3)) (List.mem_of_getElem? (i := 6) rfl)
theorem dX12_seenFrom_11 : decode cX12_seenFrom 11 = .ok (.aload_n 0, 1) := dgX12_seenFrom_0 (11, (.aload_n 0, 1)) (List.mem_of_getElem? (i := 7) rfl)
theorem dX12_seenFrom_12 : decode cX12_seenFrom 12 = .ok (.iload_n 1, 1) := dgX12_seenFrom_0 (12, (.iload_n 1, 1)) (List.mem_of_getElem? (i := 8) rfl)
theorem dX12_seenFrom_13 : decode cX12_seenFrom 13 = .ok (.iload 4, 2) := dgX12_seenFrom_0 (13, (.iload 4, 2)) (List.mem_of_getElem? (i := 9) rfl)
theorem dX12_seenFrom_15 : decode cX12_seenFrom 15 = .ok (.iload_n 2, 1) := dgX12_seenFrom_0 (15, (.iload_n 2, 1)) (List.mem_of_getElem? (i := 10) rfl)
theorem dX12_seenFrom_16 : decode cX12_seenFrom 16 = .ok (.iconst 0, 1) := dgX12_seenFrom_0 (16, (.iconst 0, 1)) (List.mem_of_getElem? (i := 11) rfl)
theorem dX12_seenFrom_17 : decode cX12_seenFrom 17 = .ok (.invokevirtual 401, 3) := dgX12_seenFrom_0 (17, (.invokevirtual 401, 3)) (List.mem_of_getElem? (i := 12) rfl)
theorem dX12_seenFrom_20 : decode cX12_seenFrom 20 = .ok (.iload_n 3, 1) := dgX12_seenFrom_0 (20, (.iload_n 3, 1)) (List.mem_of_getElem? (i := 13) rfl)
theorem dX12_seenFrom_21 : decode cX12_seenFrom 21 = .ok (.aload_n 0, 1) := dgX12_seenFrom_0 (21, (.aload_n 0, 1)) (List.mem_of_getElem? (i := 14) rfl)
theorem dX12_seenFrom_22 : decode cX12_seenFrom 22 = .ok (.getfield 371, 3) := dgX12_seenFrom_0 (22, (.getfield 371, 3)) (List.mem_of_getElem? (i := 15) rfl)
theorem dX12_seenFrom_25 : decode cX12_seenFrom 25 = .ok (.iconst (-1), 1) := dgX12_seenFrom_0 (25, (.iconst (-1), 1)) (List.mem_of_getElem? (i := 16) rfl)
theorem dX12_seenFrom_26 : decode cX12_seenFrom 26 = .ok (.if_icmp .ne 7, 3) := dgX12_seenFrom_0 (26, (.if_icmp .ne 7, 3)) (List.mem_of_getElem? (i := 17) rfl)
theorem dX12_seenFrom_29 : decode cX12_seenFrom 29 = .ok (.iconst 0, 1) := dgX12_seenFrom_0 (29, (.iconst 0, 1)) (List.mem_of_getElem? (i := 18) rfl)
theorem dX12_seenFrom_30 : decode cX12_seenFrom 30 = .ok (.goto 9, 3) := dgX12_seenFrom_0 (30, (.goto 9, 3)) (List.mem_of_getElem? (i := 19) rfl)
theorem dX12_seenFrom_33 : decode cX12_seenFrom 33 = .ok (.iconst 1, 1) := dgX12_seenFrom_0 (33, (.iconst 1, 1)) (List.mem_of_getElem? (i := 20) rfl)
theorem dX12_seenFrom_34 : decode cX12_seenFrom 34 = .ok (.aload_n 0, 1) := dgX12_seenFrom_0 (34, (.aload_n 0, 1)) (List.mem_of_getElem? (i := 21) rfl)
theorem dX12_seenFrom_35 : decode cX12_seenFrom 35 = .ok (.getfield 371, 3) := dgX12_seenFrom_0 (35, (.getfield 371, 3)) (List.mem_of_getElem? (i := 22) rfl)
theorem dX12_seenFrom_38 : decode cX12_seenFrom 38 = .ok (.ishl, 1) := dgX12_seenFrom_0 (38, (.ishl, 1)) (List.mem_of_getElem? (i := 23) rfl)
theorem dX12_seenFrom_39 : decode cX12_seenFrom 39 = .ok (.ior, 1) := dgX12_seenFrom_0 (39, (.ior, 1)) (List.mem_of_getElem? (i := 24) rfl)
theorem dX12_seenFrom_40 : decode cX12_seenFrom 40 = .ok (.istore_n 3, 1) := dgX12_seenFrom_0 (40, (.istore_n 3, 1)) (List.mem_of_getElem? (i := 25) rfl)
theorem dX12_seenFrom_41 : decode cX12_seenFrom 41 = .ok (.iinc 4 1, 3) := dgX12_seenFrom_0 (41, (.iinc 4 1, 3)) (List.mem_of_getElem? (i := 26) rfl)
theorem dX12_seenFrom_44 : decode cX12_seenFrom 44 = .ok (.goto (-39), 3) := dgX12_seenFrom_0 (44, (.goto (-39), 3)) (List.mem_of_getElem? (i := 27) rfl)
theorem dX12_seenFrom_47 : decode cX12_seenFrom 47 = .ok (.iload_n 3, 1) := dgX12_seenFrom_0 (47, (.iload_n 3, 1)) (List.mem_of_getElem? (i := 28) rfl)
theorem dX12_seenFrom_48 : decode cX12_seenFrom 48 = .ok (.ireturn, 1) := dgX12_seenFrom_0 (48, (.ireturn, 1)) (List.mem_of_getElem? (i := 29) rfl)
set_option maxHeartbeats 4000000 in
set_option maxRecDepth 100000 in
theorem n_seenFrom (l : Launch) (G : g5_G) (b_o b_ro b_se b_re b_pt b_rf b_im b_ke b_tp b_nl b_op b_ar b_pi b_pa b_ws b_hw b_ip b_ah b_be b_me b_tr b_ld b_wn : Nat) (sz : Nat) (u_th : Int32) (u_sa : Int32) (u_fd : Int32) (u_td : Int32) (u_fr : Int32) (u_to : Int32) (u_so : Int32) (u_fa : Int32) (u_bd : Int32) (u_nc : Int32) (u_co : Int32) (u_le : Int32) (u_pd : Int32) (u_od : Int32) (u_la : Int32) (u_bk : Int32) (u_ce : Int32) (u_ho : Int32) (u_wy : Int32) (u_bt : Int32) (u_ps : Int32) (u_tg : Int32) (u_sn : Int32) (u_ic : Int32) (u_wd : Int32) (u_id : Int32) (p_1 : Int32) (p_2 : Int32) (u_wo : Int64) (u_va : Int64) (u_su : Int64) (u_st : Int64) (v_ro : Nat → Int32) (v_se : Nat → Int64) (v_re : Nat → Int64) (v_pt : Nat → Int32) (h_u_td : 0 ≤ u_td.toInt ∧ u_td.toInt ≤ 400) (h_u_fr : 0 ≤ u_fr.toInt ∧ u_fr.toInt ≤ 400) (h_u_to : 0 ≤ u_to.toInt ∧ u_to.toInt ≤ 400) (h_u_bd : 0 ≤ u_bd.toInt ∧ u_bd.toInt ≤ 1) (h_u_nc : 0 ≤ u_nc.toInt ∧ u_nc.toInt ≤ 12) (h_u_co : 0 ≤ u_co.toInt ∧ u_co.toInt ≤ 400) (h_u_pd : 0 ≤ u_pd.toInt ∧ u_pd.toInt ≤ 400) (h_u_la : 0 ≤ u_la.toInt ∧ u_la.toInt ≤ 4840) (h_u_bk : 0 ≤ u_bk.toInt ∧ u_bk.toInt ≤ 1) (h_u_ce : 0 ≤ u_ce.toInt ∧ u_ce.toInt ≤ 63) (h_u_ho : 0 ≤ u_ho.toInt ∧ u_ho.toInt ≤ 23) (h_u_wy : 0 ≤ u_wy.toInt ∧ u_wy.toInt ≤ 3) (h_u_bt : 0 ≤ u_bt.toInt ∧ u_bt.toInt ≤ 1000000) (h_u_ps : 0 ≤ u_ps.toInt ∧ u_ps.toInt ≤ 200) (h_u_ic : 0 ≤ u_ic.toInt ∧ u_ic.toInt ≤ 1) (h_u_id : 0 ≤ u_id.toInt ∧ u_id.toInt ≤ 1) (h_p_1 : 0 ≤ p_1.toInt ∧ p_1.toInt ≤ 63) (h_p_2 : 0 ≤ p_2.toInt ∧ p_2.toInt ≤ 23) (r_ro : MI v_ro) (r_pt : PTI v_pt) : Met l yX12_seenFrom (wsG yX12_seenFrom cX12_seenFrom 5 (some .int)) ({ frames := 7, cells := 0, slots := 0, locals := 176 }) (va_Pc [.ref b_o, .int p_1, .int p_2] (g5_P G [(b_o, (oc12 u_th u_sa b_rf b_ro b_im b_ke u_fd b_tp u_td u_fr u_to u_so u_wo u_fa u_bd u_nc b_nl u_co b_op b_ar u_le b_pi b_pa u_pd u_od b_ws b_hw u_la b_se b_re u_bk u_va u_su u_ce u_ho u_wy u_bt u_ps b_pt u_tg u_sn b_ip u_ic b_ah b_be b_me u_wd b_tr b_ld u_st b_wn u_id)), (b_ro, (arI G 5740 v_ro)), (b_se, (arJ G 13 v_se)), (b_re, (arJ G 400 v_re)), (b_pt, (arI G 200 v_pt))] sz)) (va_Qi (fun (r : Int32) (u : va_W) => (∃ (o_r : Int32) (o_la : Int32) (o_bk : Int32) (o_va : Int64) (o_su : Int64) (o_ce : Int32) (o_ho : Int32) (o_wy : Int32) (o_bt : Int32) (o_ps : Int32) (o_tg : Int32) (o_sn : Int32) (o_se : Nat → Int64) (o_re : Nat → Int64) (o_pt : Nat → Int32), (0 ≤ o_la.toInt ∧ o_la.toInt ≤ 4840) ∧ (0 ≤ o_bk.toInt ∧ o_bk.toInt ≤ 1) ∧ (0 ≤ o_ce.toInt ∧ o_ce.toInt ≤ 63) ∧ (0 ≤ o_ho.toInt ∧ o_ho.toInt ≤ 23) ∧ (0 ≤ o_wy.toInt ∧ o_wy.toInt ≤ 3) ∧ (0 ≤ o_bt.toInt ∧ o_bt.toInt ≤ 1000000) ∧ (0 ≤ o_ps.toInt ∧ o_ps.toInt ≤ 200) ∧ (PTI o_pt) ∧ (r = o_r) ∧ (u = [(b_o, (oc12 u_th u_sa b_rf b_ro b_im b_ke u_fd b_tp u_td u_fr u_to u_so u_wo u_fa u_bd u_nc b_nl u_co b_op b_ar u_le b_pi b_pa u_pd u_od b_ws b_hw o_la b_se b_re o_bk o_va o_su o_ce o_ho o_wy o_bt o_ps b_pt o_tg o_sn b_ip u_ic b_ah b_be b_me u_wd b_tr b_ld u_st b_wn u_id)), (b_ro, (arI G 5740 v_ro)), (b_se, (arJ G 13 o_se)), (b_re, (arJ G 400 o_re)), (b_pt, (arI G 200 o_pt))]))) (g5_B G (va_A [(b_o, (oc12 u_th u_sa b_rf b_ro b_im b_ke u_fd b_tp u_td u_fr u_to u_so u_wo u_fa u_bd u_nc b_nl u_co b_op b_ar u_le b_pi b_pa u_pd u_od b_ws b_hw u_la b_se b_re u_bk u_va u_su u_ce u_ho u_wy u_bt u_ps b_pt u_tg u_sn b_ip u_ic b_ah b_be b_me u_wd b_tr b_ld u_st b_wn u_id)), (b_ro, (arI G 5740 v_ro)), (b_se, (arJ G 13 v_se)), (b_re, (arJ G 400 v_re)), (b_pt, (arI G 200 v_pt))] sz)) (va_A [(b_o, (oc12 u_th u_sa b_rf b_ro b_im b_ke u_fd b_tp u_td u_fr u_to u_so u_wo u_fa u_bd u_nc b_nl u_co b_op b_ar u_le b_pi b_pa u_pd u_od b_ws b_hw u_la b_se b_re u_bk u_va u_su u_ce u_ho u_wy u_bt u_ps b_pt u_tg u_sn b_ip u_ic b_ah b_be b_me u_wd b_tr b_ld u_st b_wn u_id)), (b_ro, (arI G 5740 v_ro)), (b_se, (arJ G 13 v_se)), (b_re, (arJ G 400 v_re)), (b_pt, (arI G 200 v_pt))] sz)) 0 0 (va_A [(b_o, (oc12 u_th u_sa b_rf b_ro b_im b_ke u_fd b_tp u_td u_fr u_to u_so u_wo u_fa u_bd u_nc b_nl u_co b_op b_ar u_le b_pi b_pa u_pd u_od b_ws b_hw u_la b_se b_re u_bk u_va u_su u_ce u_ho u_wy u_bt u_ps b_pt u_tg u_sn b_ip u_ic b_ah b_be b_me u_wd b_tr b_ld u_st b_wn u_id)), (b_ro, (arI G 5740 v_ro)), (b_se, (arJ G 13 v_se)), (b_re, (arJ G 400 v_re)), (b_pt, (arI G 200 v_pt))] sz) := by
  refine Met.ofW (cc := cX12_seenFrom) (maxL := 5) (ret := (some .int)) (by decide) rfl ?_
  intro p e s m args below meth c s₁ B hml hv
  obtain ⟨rfl, hsz, hP, hK, hD0, hN, hT⟩ := hv
  have hx := B.exec
  have hb := B.bytes
  have hr := B.returns
  have hts : ∀ w ∈ tblG, w.before _ s = true := fun w h => atoms_spec (ws := (wsG yX12_seenFrom cX12_seenFrom 5 (some .int))) B.pre w (List.mem_cons_of_mem _ h)
  have hown : s.vm.findClass RX12 = some m.cls := findClass_of_methodNamed B.named
  have hlocks := B.notSynchronized
  subst hsz
  have hD := hD0.self (sz := s.heap.size)
  generalize hAe : va_A [(b_o, (oc12 u_th u_sa b_rf b_ro b_im b_ke u_fd b_tp u_td u_fr u_to u_so u_wo u_fa u_bd u_nc b_nl u_co b_op b_ar u_le b_pi b_pa u_pd u_od b_ws b_hw u_la b_se b_re u_bk u_va u_su u_ce u_ho u_wy u_bt u_ps b_pt u_tg u_sn b_ip u_ic b_ah b_be b_me u_wd b_tr b_ld u_st b_wn u_id)), (b_ro, (arI G 5740 v_ro)), (b_se, (arJ G 13 v_se)), (b_re, (arJ G 400 v_re)), (b_pt, (arI G 200 v_pt))] s.heap.size = A at hD hT ⊢
  have hA : ∀ q : Nat, s.heap.size ≤ q → A q := fun q h => by rw [← hAe]; exact Or.inr h
  have hS : va_S A s.heap s.heap [] := va_S.rf
  have hP : va_P G.1 vwCl [(b_o, (oc12 u_th u_sa b_rf b_ro b_im b_ke u_fd b_tp u_td u_fr u_to u_so u_wo u_fa u_bd u_nc b_nl u_co b_op b_ar u_le b_pi b_pa u_pd u_od b_ws b_hw u_la b_se b_re u_bk u_va u_su u_ce u_ho u_wy u_bt u_ps b_pt u_tg u_sn b_ip u_ic b_ah b_be b_me u_wd b_tr b_ld u_st b_wn u_id)), (b_ro, (arI G 5740 v_ro)), (b_se, (arJ G 13 v_se)), (b_re, (arJ G 400 v_re)), (b_pt, (arI G 200 v_pt))] s.heap := hP
  have hl := lv_entry ([.ref b_o, .int p_1, .int p_2]) (n := 5) (Nat.le_of_ble_eq_true rfl)
  rw [lg_entry_eq]
  generalize (lg_sl ([.ref b_o, .int p_1, .int p_2]) ++ List.replicate (5 - (lg_sl ([.ref b_o, .int p_1, .int p_2])).length) Slot.unset).toArray = ls at hl ⊢
  have hl : lv_has ls 5 [(0, .ref b_o), (1, .int p_1), (2, .int p_2)] := hl
  refine lv_iconst (v := 0) hx hb dX12_seenFrom_0 (by decide) ?_
  refine lv_istore_n (lv' := [(3, .int 0), (0, .ref b_o), (1, .int p_1), (2, .int p_2)]) hx hb dX12_seenFrom_1 rfl hl (by decide) rfl (fun ls hl => ?_)
  refine lv_iconst (v := 0) hx hb dX12_seenFrom_2 (by decide) ?_
  refine lv_istore (lv' := [(4, .int 0), (3, .int 0), (0, .ref b_o), (1, .int p_1), (2, .int p_2)]) hx hb dX12_seenFrom_3 hl (by decide) rfl (fun ls hl => ?_)
  refine g5_loop (α := (Int32) × (Int32) × (Int32) × (Int32) × (Int64) × (Int64) × (Int32) × (Int32) × (Int32) × (Int32) × (Int32) × (Int32) × (Int32) × (Nat → Int64) × (Nat → Int64) × (Nat → Int32)) (fun (q : (Int32) × (Int32) × (Int32) × (Int32) × (Int64) × (Int64) × (Int32) × (Int32) × (Int32) × (Int32) × (Int32) × (Int32) × (Int32) × (Nat → Int64) × (Nat → Int64) × (Nat → Int32)) (ls : Array Slot) (H : Heap) (locs : List Loc) => match q with | (k5_4, k5_3, k5_la, k5_bk, k5_va, k5_su, k5_ce, k5_ho, k5_wy, k5_bt, k5_ps, k5_tg, k5_sn, k5_se, k5_re, k5_pt) => lv_has ls 5 [(3, .int k5_3), (4, .int k5_4), (0, .ref b_o), (1, .int p_1), (2, .int p_2)] ∧ va_P G.1 vwCl [(b_o, (oc12 u_th u_sa b_rf b_ro b_im b_ke u_fd b_tp u_td u_fr u_to u_so u_wo u_fa u_bd u_nc b_nl u_co b_op b_ar u_le b_pi b_pa u_pd u_od b_ws b_hw k5_la b_se b_re k5_bk k5_va k5_su k5_ce k5_ho k5_wy k5_bt k5_ps b_pt k5_tg k5_sn b_ip u_ic b_ah b_be b_me u_wd b_tr b_ld u_st b_wn u_id)), (b_ro, (arI G 5740 v_ro)), (b_se, (arJ G 13 k5_se)), (b_re, (arJ G 400 k5_re)), (b_pt, (arI G 200 k5_pt))] H ∧ va_D A [(b_o, (oc12 u_th u_sa b_rf b_ro b_im b_ke u_fd b_tp u_td u_fr u_to u_so u_wo u_fa u_bd u_nc b_nl u_co b_op b_ar u_le b_pi b_pa u_pd u_od b_ws b_hw k5_la b_se b_re k5_bk k5_va k5_su k5_ce k5_ho k5_wy k5_bt k5_ps b_pt k5_tg k5_sn b_ip u_ic b_ah b_be b_me u_wd b_tr b_ld u_st b_wn u_id)), (b_ro, (arI G 5740 v_ro)), (b_se, (arJ G 13 k5_se)), (b_re, (arJ G 400 k5_re)), (b_pt, (arI G 200 k5_pt))] ∧ va_S A s.heap H locs ∧ (0 ≤ k5_4.toInt ∧ k5_4.toInt ≤ 4) ∧ (0 ≤ k5_la.toInt ∧ k5_la.toInt ≤ 4840) ∧ (0 ≤ k5_bk.toInt ∧ k5_bk.toInt ≤ 1) ∧ (0 ≤ k5_ce.toInt ∧ k5_ce.toInt ≤ 63) ∧ (0 ≤ k5_ho.toInt ∧ k5_ho.toInt ≤ 23) ∧ (0 ≤ k5_wy.toInt ∧ k5_wy.toInt ≤ 3) ∧ (0 ≤ k5_bt.toInt ∧ k5_bt.toInt ≤ 1000000) ∧ (0 ≤ k5_ps.toInt ∧ k5_ps.toInt ≤ 200) ∧ (PTI k5_pt)) (fun (q : (Int32) × (Int32) × (Int32) × (Int32) × (Int64) × (Int64) × (Int32) × (Int32) × (Int32) × (Int32) × (Int32) × (Int32) × (Int32) × (Nat → Int64) × (Nat → Int64) × (Nat → Int32)) => match q with | (k5_4, k5_3, k5_la, k5_bk, k5_va, k5_su, k5_ce, k5_ho, k5_wy, k5_bt, k5_ps, k5_tg, k5_sn, k5_se, k5_re, k5_pt) => Int.toNat (4 - k5_4.toInt)) (0, 0, u_la, u_bk, u_va, u_su, u_ce, u_ho, u_wy, u_bt, u_ps, u_tg, u_sn, v_se, v_re, v_pt) ⟨lv_sub hl [1, 0, 2, 3, 4] rfl, hP, hD, hS, ⟨by decide, by decide⟩, h_u_la, h_u_bk, h_u_ce, h_u_ho, h_u_wy, h_u_bt, h_u_ps, r_pt⟩ ?_
  rintro ⟨k5_4, k5_3, k5_la, k5_bk, k5_va, k5_su, k5_ce, k5_ho, k5_wy, k5_bt, k5_ps, k5_tg, k5_sn, k5_se, k5_re, k5_pt⟩ ls H locs ⟨hl, hP, hD, hS, i_1, i_2, i_3, i_4, i_5, i_6, i_7, i_8, i_9⟩ ih_5_10
  have hl : lv_has ls 5 [(3, .int k5_3), (4, .int k5_4), (0, .ref b_o), (1, .int p_1), (2, .int p_2)] := hl
  have i_1 : 0 ≤ k5_4.toInt ∧ k5_4.toInt ≤ 4 := i_1
  have i_2 : 0 ≤ k5_la.toInt ∧ k5_la.toInt ≤ 4840 := i_2
  have i_3 : 0 ≤ k5_bk.toInt ∧ k5_bk.toInt ≤ 1 := i_3
  have i_4 : 0 ≤ k5_ce.toInt ∧ k5_ce.toInt ≤ 63 := i_4
  have i_5 : 0 ≤ k5_ho.toInt ∧ k5_ho.toInt ≤ 23 := i_5
  have i_6 : 0 ≤ k5_wy.toInt ∧ k5_wy.toInt ≤ 3 := i_6
  have i_7 : 0 ≤ k5_bt.toInt ∧ k5_bt.toInt ≤ 1000000 := i_7
  have i_8 : 0 ≤ k5_ps.toInt ∧ k5_ps.toInt ≤ 200 := i_8
  have i_9 : PTI k5_pt := i_9
  refine g5_rs [(b_o, (oc12 u_th u_sa b_rf b_ro b_im b_ke u_fd b_tp u_td u_fr u_to u_so u_wo u_fa u_bd u_nc b_nl u_co b_op b_ar u_le b_pi b_pa u_pd u_od b_ws b_hw k5_la b_se b_re k5_bk k5_va k5_su k5_ce k5_ho k5_wy k5_bt k5_ps b_pt k5_tg k5_sn b_ip u_ic b_ah b_be b_me u_wd b_tr b_ld u_st b_wn u_id)), (b_ro, (arI G 5740 v_ro)), (b_se, (arJ G 13 k5_se)), (b_re, (arJ G 400 k5_re)), (b_pt, (arI G 200 k5_pt))] hP hD (fun hP hD => ?_)
  refine lv_iload hx hb dX12_seenFrom_5 (lv_at hl 1 rfl) ?_
  refine lv_iconst (v := 4) hx hb dX12_seenFrom_7 (by decide) ?_
  refine lv_icmp_ge (tgt := 47) hx hb dX12_seenFrom_8 (by decide) (fun c_11 => ?_) (fun c_11 => ?_)
  ·
    have i_11 : k5_4.toInt ≥ 4 := by have z := g5_ge (a := k5_4.toInt) (b := 4) (by rfl) (by decide) c_11; omega
    refine lv_iload_n hx hb dX12_seenFrom_47 rfl (lv_at hl 0 rfl) ?_
    exact W.iret (v := k5_3) hx hb hr (fun t ht hW => ⟨⟨k5_3, [(b_o, (oc12 u_th u_sa b_rf b_ro b_im b_ke u_fd b_tp u_td u_fr u_to u_so u_wo u_fa u_bd u_nc b_nl u_co b_op b_ar u_le b_pi b_pa u_pd u_od b_ws b_hw k5_la b_se b_re k5_bk k5_va k5_su k5_ce k5_ho k5_wy k5_bt k5_ps b_pt k5_tg k5_sn b_ip u_ic b_ah b_be b_me u_wd b_tr b_ld u_st b_wn u_id)), (b_ro, (arI G 5740 v_ro)), (b_se, (arJ G 13 k5_se)), (b_re, (arJ G 400 k5_re)), (b_pt, (arI G 200 k5_pt))], rfl, ⟨k5_3, k5_la, k5_bk, k5_va, k5_su, k5_ce, k5_ho, k5_wy, k5_bt, k5_ps, k5_tg, k5_sn, k5_se, k5_re, k5_pt, i_2, i_3, i_4, i_5, i_6, i_7, i_8, i_9, rfl, rfl⟩, by rw [ht]; exact hP.sub [0, 1, 2, 3, 4] rfl, hD.sub [0, 1, 2, 3, 4] (by decide) rfl⟩, hS.F ht⟩) hS.2.2 dX12_seenFrom_48
  ·
    have i_11 : k5_4.toInt < 4 := by have z := g5_geN (a := k5_4.toInt) (b := 4) (by rfl) (by decide) c_11; omega
    refine lv_aload_n hx hb dX12_seenFrom_11 rfl (lv_at hl 2 rfl) ?_
    refine lv_iload_n hx hb dX12_seenFrom_12 rfl (lv_at hl 3 rfl) ?_
    refine lv_iload hx hb dX12_seenFrom_13 (lv_at hl 1 rfl) ?_
    refine lv_iload_n hx hb dX12_seenFrom_15 rfl (lv_at hl 4 rfl) ?_
    refine lv_iconst (v := 0) hx hb dX12_seenFrom_16 (by decide) ?_
    obtain ⟨hPc, hDc, hFc⟩ := g5_sub3 (wc := [(b_o, (oc12 u_th u_sa b_rf b_ro b_im b_ke u_fd b_tp u_td u_fr u_to u_so u_wo u_fa u_bd u_nc b_nl u_co b_op b_ar u_le b_pi b_pa u_pd u_od b_ws b_hw k5_la b_se b_re k5_bk k5_va k5_su k5_ce k5_ho k5_wy k5_bt k5_ps b_pt k5_tg k5_sn b_ip u_ic b_ah b_be b_me u_wd b_tr b_ld u_st b_wn u_id)), (b_ro, (arI G 5740 v_ro)), (b_se, (arJ G 13 k5_se)), (b_re, (arJ G 400 k5_re)), (b_pt, (arI G 200 k5_pt))]) hP hD hS hA [0, 1, 2, 3, 4] (by decide) rfl
    refine va_callv (va_runV (As := [.int p_1, .int k5_4, .int p_2, .int 0]) (rest := []) ⟨hx, hb, hml, hown, hts⟩ (n_go l G b_o b_ro b_se b_re b_pt b_rf b_im b_ke b_tp b_nl b_op b_ar b_pi b_pa b_ws b_hw b_ip b_ah b_be b_me b_tr b_ld b_wn H.size u_th u_sa u_fd u_td u_fr u_to u_so u_fa u_bd u_nc u_co u_le u_pd u_od k5_la k5_bk k5_ce k5_ho k5_wy k5_bt k5_ps k5_tg k5_sn u_ic u_wd u_id p_1 k5_4 p_2 0 u_wo k5_va k5_su u_st v_ro k5_se k5_re k5_pt h_u_td h_u_fr h_u_to h_u_bd h_u_nc h_u_co h_u_pd i_2 i_3 i_4 i_5 i_6 i_7 i_8 h_u_ic h_u_id h_p_1 ⟨by omega, by omega⟩ h_p_2 (r_ro) (i_9)) (cwV 4 hts gV_X12_401 rfl rfl rfl hv_X12_go ⟨Nat.le_of_ble_eq_true rfl, Nat.le_of_ble_eq_true rfl⟩) (g5_preV hPc hK hDc hN hT hS hFc (ci := 12) (q0 := 0) rfl rfl) rfl rfl hl.1 rfl (lv_room (Nat.le_of_ble_eq_true rfl)) dX12_seenFrom_17 ⟨Nat.le_of_ble_eq_true rfl, Nat.le_of_ble_eq_true rfl⟩) hS (fun q _ h => hFc q h) hFc (fun u t H1 locs ht hvm hw hB hz1 hk1 hS => ?_)
    obtain ⟨hP1, hD1⟩ := hB
    rw [ht] at hP1
    obtain ⟨z20, z21, z22, z23, z24, z25, z26, z27, z28, z29, z30, z31, z32, z33, i_12, i_13, i_14, i_15, i_16, i_17, i_18, i_19, rfl⟩ := hw
    have i_12 : 0 ≤ z20.toInt ∧ z20.toInt ≤ 4840 := i_12
    have i_13 : 0 ≤ z21.toInt ∧ z21.toInt ≤ 1 := i_13
    have i_14 : 0 ≤ z24.toInt ∧ z24.toInt ≤ 63 := i_14
    have i_15 : 0 ≤ z25.toInt ∧ z25.toInt ≤ 23 := i_15
    have i_16 : 0 ≤ z26.toInt ∧ z26.toInt ≤ 3 := i_16
    have i_17 : 0 ≤ z27.toInt ∧ z27.toInt ≤ 1000000 := i_17
    have i_18 : 0 ≤ z28.toInt ∧ z28.toInt ≤ 200 := i_18
    have i_19 : PTI z33 := i_19
    obtain ⟨hP, hD⟩ := va_join (wr := []) hP hD [0, 1, 2, 3, 4] [] rfl rfl (by decide) (by decide) hk1 hFc hP1 hD1
    generalize H1 = H at hP hS ⊢
    refine g5_rs [(b_o, (oc12 u_th u_sa b_rf b_ro b_im b_ke u_fd b_tp u_td u_fr u_to u_so u_wo u_fa u_bd u_nc b_nl u_co b_op b_ar u_le b_pi b_pa u_pd u_od b_ws b_hw z20 b_se b_re z21 z22 z23 z24 z25 z26 z27 z28 b_pt z29 z30 b_ip u_ic b_ah b_be b_me u_wd b_tr b_ld u_st b_wn u_id)), (b_ro, (arI G 5740 v_ro)), (b_se, (arJ G 13 z31)), (b_re, (arJ G 400 z32)), (b_pt, (arI G 200 z33))] hP hD (fun hP hD => ?_)
    refine lv_iload_n hx hb dX12_seenFrom_20 rfl (lv_at hl 0 rfl) ?_
    refine lv_aload_n hx hb dX12_seenFrom_21 rfl (lv_at hl 2 rfl) ?_
    refine va_get (D := G.1) (ci := 12) (v := .int z30) (C := RX12) (T := TX12) (N := 52) hx hb hts inG_X12 hown hK hP 0 rfl rfl 40 (by decide) (hts _ fl_X12_371) (fun _ h9 => h9) rfl dX12_seenFrom_22 ?_
    refine lv_iconst (v := (-1)) hx hb dX12_seenFrom_25 (by decide) ?_
    refine lv_icmp_ne (tgt := 33) hx hb dX12_seenFrom_26 (by decide) (fun c_34 => ?_) (fun c_34 => ?_)
    ·
      have n_34 : gNe (z30.toInt) ((-1)) := by have z := g5_ne (a := z30.toInt) (b := (-1)) (by rfl) (by decide) c_34; unfold gNe; omega
      refine lv_iconst (v := 1) hx hb dX12_seenFrom_33 (by decide) ?_
      refine lv_aload_n hx hb dX12_seenFrom_34 rfl (lv_at hl 2 rfl) ?_
      refine va_get (D := G.1) (ci := 12) (v := .int z30) (C := RX12) (T := TX12) (N := 52) hx hb hts inG_X12 hown hK hP 0 rfl rfl 40 (by decide) (hts _ fl_X12_371) (fun _ h9 => h9) rfl dX12_seenFrom_35 ?_
      refine lv_ishl hx hb dX12_seenFrom_38 ?_
      refine lv_ior hx hb dX12_seenFrom_39 ?_
      refine lv_istore_n (lv' := [(3, .int (k5_3 ||| (1 <<< (z30 &&& 31)))), (4, .int k5_4), (0, .ref b_o), (1, .int p_1), (2, .int p_2)]) hx hb dX12_seenFrom_40 rfl hl (by decide) rfl (fun ls hl => ?_)
      refine lv_iinc (v := (k5_4 + 1)) (lv' := [(4, .int (k5_4 + 1)), (3, .int (k5_3 ||| (1 <<< (z30 &&& 31)))), (0, .ref b_o), (1, .int p_1), (2, .int p_2)]) hx hb dX12_seenFrom_41 hl (k := 1) rfl rfl (by decide) rfl (fun ls hl => ?_)
      have t_35 : (k5_4 + 1).toInt = k5_4.toInt + 1 := g5_iadd (a := k5_4.toInt) (b := 1) rfl (by decide) (by omega) (by omega)
      refine lv_goto (tgt := 5) hx hb dX12_seenFrom_44 (by decide) ?_
      exact ih_5_10 ((k5_4 + 1), (k5_3 ||| (1 <<< (z30 &&& 31))), z20, z21, z22, z23, z24, z25, z26, z27, z28, z29, z30, z31, z32, z33) ls H locs (show Int.toNat (4 - (k5_4 + 1).toInt) < Int.toNat (4 - k5_4.toInt) from g_up (show k5_4.toInt < (k5_4 + 1).toInt by omega) (show k5_4.toInt < 4 by omega)) ⟨lv_sub hl [1, 0, 2, 3, 4] rfl, hP, hD, hS, ⟨by omega, by omega⟩, i_12, i_13, i_14, i_15, i_16, i_17, i_18, i_19⟩
    ·
      have i_34 : z30.toInt = (-1) := by have z := g5_neN (a := z30.toInt) (b := (-1)) (by rfl) (by decide) c_34; omega
      refine lv_iconst (v := 0) hx hb dX12_seenFrom_29 (by decide) ?_
      refine lv_goto (tgt := 39) hx hb dX12_seenFrom_30 (by decide) ?_
      refine lv_ior hx hb dX12_seenFrom_39 ?_
      refine g5_ti (v := k5_3) (by simp) ?_
      refine lv_istore_n (lv' := [(3, .int k5_3), (4, .int k5_4), (0, .ref b_o), (1, .int p_1), (2, .int p_2)]) hx hb dX12_seenFrom_40 rfl hl (by decide) rfl (fun ls hl => ?_)
      refine lv_iinc (v := (k5_4 + 1)) (lv' := [(4, .int (k5_4 + 1)), (3, .int k5_3), (0, .ref b_o), (1, .int p_1), (2, .int p_2)]) hx hb dX12_seenFrom_41 hl (k := 1) rfl rfl (by decide) rfl (fun ls hl => ?_)
      have t_36 : (k5_4 + 1).toInt = k5_4.toInt + 1 := g5_iadd (a := k5_4.toInt) (b := 1) rfl (by decide) (by omega) (by omega)
      refine lv_goto (tgt := 5) hx hb dX12_seenFrom_44 (by decide) ?_
      exact ih_5_10 ((k5_4 + 1), k5_3, z20, z21, z22, z23, z24, z25, z26, z27, z28, z29, z30, z31, z32, z33) ls H locs (show Int.toNat (4 - (k5_4 + 1).toInt) < Int.toNat (4 - k5_4.toInt) from g_up (show k5_4.toInt < (k5_4 + 1).toInt by omega) (show k5_4.toInt < 4 by omega)) ⟨lv_sub hl [1, 0, 2, 3, 4] rfl, hP, hD, hS, ⟨by omega, by omega⟩, i_12, i_13, i_14, i_15, i_16, i_17, i_18, i_19⟩
theorem dgX12_sees_0 : ∀ r ∈ ([(0, (.aload_n 0, 1)), (1, (.iconst 0, 1)), (2, (.putfield 107, 3)), (5, (.iload_n 1, 1)), (6, (.invokestatic 138, 3)), (9, (.ifCond .eq 19, 3)), (12, (.iload_n 2, 1)), (13, (.invokestatic 175, 3)), (16, (.ifCond .eq 12, 3)), (19, (.aload_n 0, 1)), (20, (.iload_n 1, 1)), (21, (.iload_n 2, 1)), (22, (.invokevirtual 404, 3)), (25, (.goto 4, 3)), (28, (.iconst (-1), 1)), (29, (.ireturn, 1))] : List (Nat × (Instr × Nat))), decode cX12_sees r.1 = .ok r.2 := by decide +kernel
theorem dX12_sees_0 : decode cX12_sees 0 = .ok (.aload_n 0, 1) := dgX12_sees_0 (0, (.aload_n 0, 1)) (List.mem_of_getElem? (i := 0) rfl)
theorem dX12_sees_1 : decode cX12_sees 1 = .ok (.iconst 0, 1) := dgX12_sees_0 (1, (.iconst 0, 1)) (List.mem_of_getElem? (i := 1) rfl)
theorem dX12_sees_2 : decode cX12_sees 2 = .ok (.putfield 107, 3) := dgX12_sees_0 (2, (.putfield 107, 3)) (List.mem_of_getElem? (i := 2) rfl)
theorem dX12_sees_5 : decode cX12_sees 5 = .ok (.iload_n 1, 1) := dgX12_sees_0 (5, (.iload_n 1, 1)) (List.mem_of_getElem? (i := 3) rfl)
theorem dX12_sees_6 : decode cX12_sees 6 = .ok (.invokestatic 138, 3) := dgX12_sees_0 (6, (.invokestatic 138, 3)) (List.mem_of_getElem? (i := 4) rfl)
theorem dX12_sees_9 : decode cX12_sees 9 = .ok (.ifCond .eq 19, 3) := dgX12_sees_0 (9, (.ifCond .eq 19, 3)) (List.mem_of_getElem? (i := 5) rfl)
theorem dX12_sees_12 : decode cX12_sees 12 = .ok (.iload_n 2, 1) := dgX12_sees_0 (12, (.iload_n 2, 1)) (List.mem_of_getElem? (i := 6) rfl)
theorem dX12_sees_13 : decode cX12_sees 13 = .ok (.invokestatic 175, 3) := dgX12_sees_0 (13, (.invokestatic 175, 3)) (List.mem_of_getElem? (i := 7) rfl)
theorem dX12_sees_16 : decode cX12_sees 16 = .ok (.ifCond .eq 12, 3) := dgX12_sees_0 (16, (.ifCond .eq 12, 3)) (List.mem_of_getElem? (i := 8) rfl)
theorem dX12_sees_19 : decode cX12_sees 19 = .ok (.aload_n 0, 1) := dgX12_sees_0 (19, (.aload_n 0, 1)) (List.mem_of_getElem? (i := 9) rfl)
theorem dX12_sees_20 : decode cX12_sees 20 = .ok (.iload_n 1, 1) := dgX12_sees_0 (20, (.iload_n 1, 1)) (List.mem_of_getElem? (i := 10) rfl)
theorem dX12_sees_21 : decode cX12_sees 21 = .ok (.iload_n 2, 1) := dgX12_sees_0 (21, (.iload_n 2, 1)) (List.mem_of_getElem? (i := 11) rfl)
theorem dX12_sees_22 : decode cX12_sees 22 = .ok (.invokevirtual 404, 3) := dgX12_sees_0 (22, (.invokevirtual 404, 3)) (List.mem_of_getElem? (i := 12) rfl)
theorem dX12_sees_25 : decode cX12_sees 25 = .ok (.goto 4, 3) := dgX12_sees_0 (25, (.goto 4, 3)) (List.mem_of_getElem? (i := 13) rfl)
theorem dX12_sees_28 : decode cX12_sees 28 = .ok (.iconst (-1), 1) := dgX12_sees_0 (28, (.iconst (-1), 1)) (List.mem_of_getElem? (i := 14) rfl)
theorem dX12_sees_29 : decode cX12_sees 29 = .ok (.ireturn, 1) := dgX12_sees_0 (29, (.ireturn, 1)) (List.mem_of_getElem? (i := 15) rfl)
theorem ml_X12_404 : Cond.methodLink RX12 404 yX12_seenFrom ∈ tblG := tg 1659 (by decide +kernel) (by decide +kernel)
theorem im_X12_seenFrom : Cond.instanceMethod yX12_seenFrom ∈ tblG := tg 1661 (by decide +kernel) (by decide +kernel)
theorem se_X12_seenFrom : Cond.selects RX12 yX12_seenFrom yX12_seenFrom ∈ tblG := tg 70 (by decide +kernel) (by decide +kernel)
theorem cd_X12_seenFrom : Cond.code yX12_seenFrom cX12_seenFrom 5 (some .int) ∈ tblG := tg 1662 (by decide +kernel) (by decide +kernel)
theorem gW_X12_seenFrom : GoodIn tblG (wsG yX12_seenFrom cX12_seenFrom 5 (some .int)) := tgi cd_X12_seenFrom
theorem gV_X12_404 : GoodIn tblG (wsV RX12 404 RX12 yX12_seenFrom (wsG yX12_seenFrom cX12_seenFrom 5 (some .int))) := tgV ml_X12_404 im_X12_seenFrom se_X12_seenFrom ini_X12 gW_X12_seenFrom
theorem hv_X12_seenFrom : yX12_seenFrom.cls = RX12 ∧ yX12_seenFrom.cls ≠ "java/lang/invoke/MethodHandle" ∧ yX12_seenFrom.cls ≠ "java/lang/invoke/VarHandle" ∧ (parseMethodDescriptor yX12_seenFrom.desc).map (fun d => d.parameters.length) = some 2 := by decide +kernel
set_option maxHeartbeats 4000000 in
set_option maxRecDepth 100000 in
theorem n_sees (l : Launch) (G : g5_G) (b_o b_ro b_se b_re b_pt b_rf b_im b_ke b_tp b_nl b_op b_ar b_pi b_pa b_ws b_hw b_ip b_ah b_be b_me b_tr b_ld b_wn : Nat) (sz : Nat) (u_th : Int32) (u_sa : Int32) (u_fd : Int32) (u_td : Int32) (u_fr : Int32) (u_to : Int32) (u_so : Int32) (u_fa : Int32) (u_bd : Int32) (u_nc : Int32) (u_co : Int32) (u_le : Int32) (u_pd : Int32) (u_od : Int32) (u_la : Int32) (u_bk : Int32) (u_ce : Int32) (u_ho : Int32) (u_wy : Int32) (u_bt : Int32) (u_ps : Int32) (u_tg : Int32) (u_sn : Int32) (u_ic : Int32) (u_wd : Int32) (u_id : Int32) (p_1 : Int32) (p_2 : Int32) (u_wo : Int64) (u_va : Int64) (u_su : Int64) (u_st : Int64) (v_ro : Nat → Int32) (v_se : Nat → Int64) (v_re : Nat → Int64) (v_pt : Nat → Int32) (h_u_td : 0 ≤ u_td.toInt ∧ u_td.toInt ≤ 400) (h_u_fr : 0 ≤ u_fr.toInt ∧ u_fr.toInt ≤ 400) (h_u_to : 0 ≤ u_to.toInt ∧ u_to.toInt ≤ 400) (h_u_bd : 0 ≤ u_bd.toInt ∧ u_bd.toInt ≤ 1) (h_u_nc : 0 ≤ u_nc.toInt ∧ u_nc.toInt ≤ 12) (h_u_co : 0 ≤ u_co.toInt ∧ u_co.toInt ≤ 400) (h_u_pd : 0 ≤ u_pd.toInt ∧ u_pd.toInt ≤ 400) (h_u_la : 0 ≤ u_la.toInt ∧ u_la.toInt ≤ 4840) (h_u_bk : 0 ≤ u_bk.toInt ∧ u_bk.toInt ≤ 1) (h_u_ce : 0 ≤ u_ce.toInt ∧ u_ce.toInt ≤ 63) (h_u_ho : 0 ≤ u_ho.toInt ∧ u_ho.toInt ≤ 23) (h_u_wy : 0 ≤ u_wy.toInt ∧ u_wy.toInt ≤ 3) (h_u_bt : 0 ≤ u_bt.toInt ∧ u_bt.toInt ≤ 1000000) (h_u_ps : 0 ≤ u_ps.toInt ∧ u_ps.toInt ≤ 200) (h_u_ic : 0 ≤ u_ic.toInt ∧ u_ic.toInt ≤ 1) (h_u_id : 0 ≤ u_id.toInt ∧ u_id.toInt ≤ 1) (r_ro : MI v_ro) (r_pt : PTI v_pt) : Met l yX12_sees (wsG yX12_sees cX12_sees 3 (some .int)) ({ frames := 8, cells := 0, slots := 0, locals := 200 }) (va_Pc [.ref b_o, .int p_1, .int p_2] (g5_P G [(b_o, (oc12 u_th u_sa b_rf b_ro b_im b_ke u_fd b_tp u_td u_fr u_to u_so u_wo u_fa u_bd u_nc b_nl u_co b_op b_ar u_le b_pi b_pa u_pd u_od b_ws b_hw u_la b_se b_re u_bk u_va u_su u_ce u_ho u_wy u_bt u_ps b_pt u_tg u_sn b_ip u_ic b_ah b_be b_me u_wd b_tr b_ld u_st b_wn u_id)), (b_ro, (arI G 5740 v_ro)), (b_se, (arJ G 13 v_se)), (b_re, (arJ G 400 v_re)), (b_pt, (arI G 200 v_pt))] sz)) (va_Qi (fun (r : Int32) (u : va_W) => (∃ (o_r : Int32) (o_th : Int32) (o_la : Int32) (o_bk : Int32) (o_va : Int64) (o_su : Int64) (o_ce : Int32) (o_ho : Int32) (o_wy : Int32) (o_bt : Int32) (o_ps : Int32) (o_tg : Int32) (o_sn : Int32) (o_se : Nat → Int64) (o_re : Nat → Int64) (o_pt : Nat → Int32), (0 ≤ o_la.toInt ∧ o_la.toInt ≤ 4840) ∧ (0 ≤ o_bk.toInt ∧ o_bk.toInt ≤ 1) ∧ (0 ≤ o_ce.toInt ∧ o_ce.toInt ≤ 63) ∧ (0 ≤ o_ho.toInt ∧ o_ho.toInt ≤ 23) ∧ (0 ≤ o_wy.toInt ∧ o_wy.toInt ≤ 3) ∧ (0 ≤ o_bt.toInt ∧ o_bt.toInt ≤ 1000000) ∧ (0 ≤ o_ps.toInt ∧ o_ps.toInt ≤ 200) ∧ (PTI o_pt) ∧ (r = o_r) ∧ (u = [(b_o, (oc12 o_th u_sa b_rf b_ro b_im b_ke u_fd b_tp u_td u_fr u_to u_so u_wo u_fa u_bd u_nc b_nl u_co b_op b_ar u_le b_pi b_pa u_pd u_od b_ws b_hw o_la b_se b_re o_bk o_va o_su o_ce o_ho o_wy o_bt o_ps b_pt o_tg o_sn b_ip u_ic b_ah b_be b_me u_wd b_tr b_ld u_st b_wn u_id)), (b_ro, (arI G 5740 v_ro)), (b_se, (arJ G 13 o_se)), (b_re, (arJ G 400 o_re)), (b_pt, (arI G 200 o_pt))]))) (g5_B G (va_A [(b_o, (oc12 u_th u_sa b_rf b_ro b_im b_ke u_fd b_tp u_td u_fr u_to u_so u_wo u_fa u_bd u_nc b_nl u_co b_op b_ar u_le b_pi b_pa u_pd u_od b_ws b_hw u_la b_se b_re u_bk u_va u_su u_ce u_ho u_wy u_bt u_ps b_pt u_tg u_sn b_ip u_ic b_ah b_be b_me u_wd b_tr b_ld u_st b_wn u_id)), (b_ro, (arI G 5740 v_ro)), (b_se, (arJ G 13 v_se)), (b_re, (arJ G 400 v_re)), (b_pt, (arI G 200 v_pt))] sz)) (va_A [(b_o, (oc12 u_th u_sa b_rf b_ro b_im b_ke u_fd b_tp u_td u_fr u_to u_so u_wo u_fa u_bd u_nc b_nl u_co b_op b_ar u_le b_pi b_pa u_pd u_od b_ws b_hw u_la b_se b_re u_bk u_va u_su u_ce u_ho u_wy u_bt u_ps b_pt u_tg u_sn b_ip u_ic b_ah b_be b_me u_wd b_tr b_ld u_st b_wn u_id)), (b_ro, (arI G 5740 v_ro)), (b_se, (arJ G 13 v_se)), (b_re, (arJ G 400 v_re)), (b_pt, (arI G 200 v_pt))] sz)) 0 0 (va_A [(b_o, (oc12 u_th u_sa b_rf b_ro b_im b_ke u_fd b_tp u_td u_fr u_to u_so u_wo u_fa u_bd u_nc b_nl u_co b_op b_ar u_le b_pi b_pa u_pd u_od b_ws b_hw u_la b_se b_re u_bk u_va u_su u_ce u_ho u_wy u_bt u_ps b_pt u_tg u_sn b_ip u_ic b_ah b_be b_me u_wd b_tr b_ld u_st b_wn u_id)), (b_ro, (arI G 5740 v_ro)), (b_se, (arJ G 13 v_se)), (b_re, (arJ G 400 v_re)), (b_pt, (arI G 200 v_pt))] sz) := by
  refine Met.ofW (cc := cX12_sees) (maxL := 3) (ret := (some .int)) (by decide) rfl ?_
  intro p e s m args below meth c s₁ B hml hv
  obtain ⟨rfl, hsz, hP, hK, hD0, hN, hT⟩ := hv
  have hx := B.exec
  have hb := B.bytes
  have hr := B.returns
  have hts : ∀ w ∈ tblG, w.before _ s = true := fun w h => atoms_spec (ws := (wsG yX12_sees cX12_sees 3 (some .int))) B.pre w (List.mem_cons_of_mem _ h)
  have hown : s.vm.findClass RX12 = some m.cls := findClass_of_methodNamed B.named
  have hlocks := B.notSynchronized
  subst hsz
  have hD := hD0.self (sz := s.heap.size)
  generalize hAe : va_A [(b_o, (oc12 u_th u_sa b_rf b_ro b_im b_ke u_fd b_tp u_td u_fr u_to u_so u_wo u_fa u_bd u_nc b_nl u_co b_op b_ar u_le b_pi b_pa u_pd u_od b_ws b_hw u_la b_se b_re u_bk u_va u_su u_ce u_ho u_wy u_bt u_ps b_pt u_tg u_sn b_ip u_ic b_ah b_be b_me u_wd b_tr b_ld u_st b_wn u_id)), (b_ro, (arI G 5740 v_ro)), (b_se, (arJ G 13 v_se)), (b_re, (arJ G 400 v_re)), (b_pt, (arI G 200 v_pt))] s.heap.size = A at hD hT ⊢
  have hA : ∀ q : Nat, s.heap.size ≤ q → A q := fun q h => by rw [← hAe]; exact Or.inr h
  have hS : va_S A s.heap s.heap [] := va_S.rf
  have hP : va_P G.1 vwCl [(b_o, (oc12 u_th u_sa b_rf b_ro b_im b_ke u_fd b_tp u_td u_fr u_to u_so u_wo u_fa u_bd u_nc b_nl u_co b_op b_ar u_le b_pi b_pa u_pd u_od b_ws b_hw u_la b_se b_re u_bk u_va u_su u_ce u_ho u_wy u_bt u_ps b_pt u_tg u_sn b_ip u_ic b_ah b_be b_me u_wd b_tr b_ld u_st b_wn u_id)), (b_ro, (arI G 5740 v_ro)), (b_se, (arJ G 13 v_se)), (b_re, (arJ G 400 v_re)), (b_pt, (arI G 200 v_pt))] s.heap := hP
  have hl := lv_entry ([.ref b_o, .int p_1, .int p_2]) (n := 3) (Nat.le_of_ble_eq_true rfl)
  rw [lg_entry_eq]
  generalize (lg_sl ([.ref b_o, .int p_1, .int p_2]) ++ List.replicate (3 - (lg_sl ([.ref b_o, .int p_1, .int p_2])).length) Slot.unset).toArray = ls at hl ⊢
  have hl : lv_has ls 3 [(0, .ref b_o), (1, .int p_1), (2, .int p_2)] := hl
  refine lv_aload_n hx hb dX12_sees_0 rfl (lv_at hl 0 rfl) ?_
  refine lv_iconst (v := 0) hx hb dX12_sees_1 (by decide) ?_
  refine va_put (D := G.1) (ci := 12) (v := .int 0) (ty := .int) (C := RX12) (T := TX12) (N := 52) hx hb hts inG_X12 tyX12 tyX12_ok nmX12 hown hK hP hD hS 0 rfl rfl 0 (by decide) (hts _ fl_X12_107) (fun _ h9 => h9) rfl (by decide +kernel) rfl rfl (Nat.le_of_ble_eq_true rfl) dX12_sees_2 (fun H locs hP hD hS => ?_)
  refine g5_rs [(b_o, (oc12 0 u_sa b_rf b_ro b_im b_ke u_fd b_tp u_td u_fr u_to u_so u_wo u_fa u_bd u_nc b_nl u_co b_op b_ar u_le b_pi b_pa u_pd u_od b_ws b_hw u_la b_se b_re u_bk u_va u_su u_ce u_ho u_wy u_bt u_ps b_pt u_tg u_sn b_ip u_ic b_ah b_be b_me u_wd b_tr b_ld u_st b_wn u_id)), (b_ro, (arI G 5740 v_ro)), (b_se, (arJ G 13 v_se)), (b_re, (arJ G 400 v_re)), (b_pt, (arI G 200 v_pt))] hP hD (fun hP hD => ?_)
  refine lv_iload_n hx hb dX12_sees_5 rfl (lv_at hl 1 rfl) ?_
  obtain ⟨hPc, hDc, hFc⟩ := g5_sub3 (wc := []) hP hD hS hA [] (by decide) rfl
  refine va_calli (va_runS (As := [.int p_1]) (rest := []) ⟨hx, hb, hml, hown, hts⟩ (n_isCell l G H.size p_1) (va_cwS 1 hts gS_X12_138 rfl rfl rfl hs_X12_isCell ⟨Nat.le_of_ble_eq_true rfl, Nat.le_of_ble_eq_true rfl⟩) (g5_preS hPc hK hDc hN hT hS hFc) rfl rfl hl.1 rfl (lv_room (Nat.le_of_ble_eq_true rfl)) dX12_sees_6 ⟨Nat.le_of_ble_eq_true rfl, Nat.le_of_ble_eq_true rfl⟩) hS (fun q _ h => hFc q h) hFc (fun r u t H1 locs ht hvm hw hB hz1 hk1 hS => ?_)
  obtain ⟨hP1, hD1⟩ := hB
  rw [ht] at hP1
  rcases hw with ⟨i_1, rfl, rfl⟩ | ⟨rfl, rfl⟩
  ·
    have i_1 : 0 ≤ p_1.toInt ∧ p_1.toInt ≤ 63 := i_1
    have hP := g5_same hP hk1
    generalize H1 = H at hP hS ⊢
    refine lv_if_eq (tgt := 28) hx hb dX12_sees_9 (by decide) (fun c_2 => ?_) (fun c_2 => ?_)
    ·
      exact absurd c_2 (by decide)
    ·
      refine lv_iload_n hx hb dX12_sees_12 rfl (lv_at hl 2 rfl) ?_
      obtain ⟨hPc, hDc, hFc⟩ := g5_sub3 (wc := []) hP hD hS hA [] (by decide) rfl
      refine va_calli (va_runS (As := [.int p_2]) (rest := []) ⟨hx, hb, hml, hown, hts⟩ (n_isHour l G H.size p_2) (va_cwS 1 hts gS_X12_175 rfl rfl rfl hs_X12_isHour ⟨Nat.le_of_ble_eq_true rfl, Nat.le_of_ble_eq_true rfl⟩) (g5_preS hPc hK hDc hN hT hS hFc) rfl rfl hl.1 rfl (lv_room (Nat.le_of_ble_eq_true rfl)) dX12_sees_13 ⟨Nat.le_of_ble_eq_true rfl, Nat.le_of_ble_eq_true rfl⟩) hS (fun q _ h => hFc q h) hFc (fun r u t H1 locs ht hvm hw hB hz1 hk1 hS => ?_)
      obtain ⟨hP1, hD1⟩ := hB
      rw [ht] at hP1
      rcases hw with ⟨i_3, rfl, rfl⟩ | ⟨rfl, rfl⟩
      ·
        have i_3 : 0 ≤ p_2.toInt ∧ p_2.toInt ≤ 23 := i_3
        have hP := g5_same hP hk1
        generalize H1 = H at hP hS ⊢
        refine lv_if_eq (tgt := 28) hx hb dX12_sees_16 (by decide) (fun c_4 => ?_) (fun c_4 => ?_)
        ·
          exact absurd c_4 (by decide)
        ·
          refine lv_aload_n hx hb dX12_sees_19 rfl (lv_at hl 0 rfl) ?_
          refine lv_iload_n hx hb dX12_sees_20 rfl (lv_at hl 1 rfl) ?_
          refine lv_iload_n hx hb dX12_sees_21 rfl (lv_at hl 2 rfl) ?_
          obtain ⟨hPc, hDc, hFc⟩ := g5_sub3 (wc := [(b_o, (oc12 0 u_sa b_rf b_ro b_im b_ke u_fd b_tp u_td u_fr u_to u_so u_wo u_fa u_bd u_nc b_nl u_co b_op b_ar u_le b_pi b_pa u_pd u_od b_ws b_hw u_la b_se b_re u_bk u_va u_su u_ce u_ho u_wy u_bt u_ps b_pt u_tg u_sn b_ip u_ic b_ah b_be b_me u_wd b_tr b_ld u_st b_wn u_id)), (b_ro, (arI G 5740 v_ro)), (b_se, (arJ G 13 v_se)), (b_re, (arJ G 400 v_re)), (b_pt, (arI G 200 v_pt))]) hP hD hS hA [0, 1, 2, 3, 4] (by decide) rfl
          refine va_calli (va_runV (As := [.int p_1, .int p_2]) (rest := []) ⟨hx, hb, hml, hown, hts⟩ (n_seenFrom l G b_o b_ro b_se b_re b_pt b_rf b_im b_ke b_tp b_nl b_op b_ar b_pi b_pa b_ws b_hw b_ip b_ah b_be b_me b_tr b_ld b_wn H.size 0 u_sa u_fd u_td u_fr u_to u_so u_fa u_bd u_nc u_co u_le u_pd u_od u_la u_bk u_ce u_ho u_wy u_bt u_ps u_tg u_sn u_ic u_wd u_id p_1 p_2 u_wo u_va u_su u_st v_ro v_se v_re v_pt h_u_td h_u_fr h_u_to h_u_bd h_u_nc h_u_co h_u_pd h_u_la h_u_bk h_u_ce h_u_ho h_u_wy h_u_bt h_u_ps h_u_ic h_u_id i_1 i_3 (r_ro) (r_pt)) (cwV 2 hts gV_X12_404 rfl rfl rfl hv_X12_seenFrom ⟨Nat.le_of_ble_eq_true rfl, Nat.le_of_ble_eq_true rfl⟩) (g5_preV hPc hK hDc hN hT hS hFc (ci := 12) (q0 := 0) rfl rfl) rfl rfl hl.1 rfl (lv_room (Nat.le_of_ble_eq_true rfl)) dX12_sees_22 ⟨Nat.le_of_ble_eq_true rfl, Nat.le_of_ble_eq_true rfl⟩) hS (fun q _ h => hFc q h) hFc (fun r u t H1 locs ht hvm hw hB hz1 hk1 hS => ?_)
          obtain ⟨hP1, hD1⟩ := hB
          rw [ht] at hP1
          obtain ⟨z13, z14, z15, z16, z17, z18, z19, z20, z21, z22, z23, z24, z25, z26, z27, i_5, i_6, i_7, i_8, i_9, i_10, i_11, i_12, y28, rfl⟩ := hw
          have i_5 : 0 ≤ z14.toInt ∧ z14.toInt ≤ 4840 := i_5
          have i_6 : 0 ≤ z15.toInt ∧ z15.toInt ≤ 1 := i_6
          have i_7 : 0 ≤ z18.toInt ∧ z18.toInt ≤ 63 := i_7
          have i_8 : 0 ≤ z19.toInt ∧ z19.toInt ≤ 23 := i_8
          have i_9 : 0 ≤ z20.toInt ∧ z20.toInt ≤ 3 := i_9
          have i_10 : 0 ≤ z21.toInt ∧ z21.toInt ≤ 1000000 := i_10
          have i_11 : 0 ≤ z22.toInt ∧ z22.toInt ≤ 200 := i_11
          have i_12 : PTI z27 := i_12
          obtain ⟨hP, hD⟩ := va_join (wr := []) hP hD [0, 1, 2, 3, 4] [] rfl rfl (by decide) (by decide) hk1 hFc hP1 hD1
          generalize H1 = H at hP hS ⊢
          refine g5_rs [(b_o, (oc12 0 u_sa b_rf b_ro b_im b_ke u_fd b_tp u_td u_fr u_to u_so u_wo u_fa u_bd u_nc b_nl u_co b_op b_ar u_le b_pi b_pa u_pd u_od b_ws b_hw z14 b_se b_re z15 z16 z17 z18 z19 z20 z21 z22 b_pt z23 z24 b_ip u_ic b_ah b_be b_me u_wd b_tr b_ld u_st b_wn u_id)), (b_ro, (arI G 5740 v_ro)), (b_se, (arJ G 13 z25)), (b_re, (arJ G 400 z26)), (b_pt, (arI G 200 z27))] hP hD (fun hP hD => ?_)
          refine g5_ti (v := z13) y28 ?_
          refine lv_goto (tgt := 29) hx hb dX12_sees_25 (by decide) ?_
          exact W.iret (v := z13) hx hb hr (fun t ht hW => ⟨⟨z13, [(b_o, (oc12 0 u_sa b_rf b_ro b_im b_ke u_fd b_tp u_td u_fr u_to u_so u_wo u_fa u_bd u_nc b_nl u_co b_op b_ar u_le b_pi b_pa u_pd u_od b_ws b_hw z14 b_se b_re z15 z16 z17 z18 z19 z20 z21 z22 b_pt z23 z24 b_ip u_ic b_ah b_be b_me u_wd b_tr b_ld u_st b_wn u_id)), (b_ro, (arI G 5740 v_ro)), (b_se, (arJ G 13 z25)), (b_re, (arJ G 400 z26)), (b_pt, (arI G 200 z27))], rfl, ⟨z13, 0, z14, z15, z16, z17, z18, z19, z20, z21, z22, z23, z24, z25, z26, z27, i_5, i_6, i_7, i_8, i_9, i_10, i_11, i_12, rfl, rfl⟩, by rw [ht]; exact hP.sub [0, 1, 2, 3, 4] rfl, hD.sub [0, 1, 2, 3, 4] (by decide) rfl⟩, hS.F ht⟩) hS.2.2 dX12_sees_29
      ·
        have hP := g5_same hP hk1
        generalize H1 = H at hP hS ⊢
        refine lv_if_eq (tgt := 28) hx hb dX12_sees_16 (by decide) (fun c_29 => ?_) (fun c_29 => ?_)
        ·
          refine lv_iconst (v := (-1)) hx hb dX12_sees_28 (by decide) ?_
          exact W.iret (v := (-1)) hx hb hr (fun t ht hW => ⟨⟨(-1), [(b_o, (oc12 0 u_sa b_rf b_ro b_im b_ke u_fd b_tp u_td u_fr u_to u_so u_wo u_fa u_bd u_nc b_nl u_co b_op b_ar u_le b_pi b_pa u_pd u_od b_ws b_hw u_la b_se b_re u_bk u_va u_su u_ce u_ho u_wy u_bt u_ps b_pt u_tg u_sn b_ip u_ic b_ah b_be b_me u_wd b_tr b_ld u_st b_wn u_id)), (b_ro, (arI G 5740 v_ro)), (b_se, (arJ G 13 v_se)), (b_re, (arJ G 400 v_re)), (b_pt, (arI G 200 v_pt))], rfl, ⟨(-1), 0, u_la, u_bk, u_va, u_su, u_ce, u_ho, u_wy, u_bt, u_ps, u_tg, u_sn, v_se, v_re, v_pt, h_u_la, h_u_bk, h_u_ce, h_u_ho, h_u_wy, h_u_bt, h_u_ps, r_pt, rfl, rfl⟩, by rw [ht]; exact hP.sub [0, 1, 2, 3, 4] rfl, hD.sub [0, 1, 2, 3, 4] (by decide) rfl⟩, hS.F ht⟩) hS.2.2 dX12_sees_29
        ·
          exact absurd c_29 (by decide)
  ·
    have hP := g5_same hP hk1
    generalize H1 = H at hP hS ⊢
    refine lv_if_eq (tgt := 28) hx hb dX12_sees_9 (by decide) (fun c_30 => ?_) (fun c_30 => ?_)
    ·
      refine lv_iconst (v := (-1)) hx hb dX12_sees_28 (by decide) ?_
      exact W.iret (v := (-1)) hx hb hr (fun t ht hW => ⟨⟨(-1), [(b_o, (oc12 0 u_sa b_rf b_ro b_im b_ke u_fd b_tp u_td u_fr u_to u_so u_wo u_fa u_bd u_nc b_nl u_co b_op b_ar u_le b_pi b_pa u_pd u_od b_ws b_hw u_la b_se b_re u_bk u_va u_su u_ce u_ho u_wy u_bt u_ps b_pt u_tg u_sn b_ip u_ic b_ah b_be b_me u_wd b_tr b_ld u_st b_wn u_id)), (b_ro, (arI G 5740 v_ro)), (b_se, (arJ G 13 v_se)), (b_re, (arJ G 400 v_re)), (b_pt, (arI G 200 v_pt))], rfl, ⟨(-1), 0, u_la, u_bk, u_va, u_su, u_ce, u_ho, u_wy, u_bt, u_ps, u_tg, u_sn, v_se, v_re, v_pt, h_u_la, h_u_bk, h_u_ce, h_u_ho, h_u_wy, h_u_bt, h_u_ps, r_pt, rfl, rfl⟩, by rw [ht]; exact hP.sub [0, 1, 2, 3, 4] rfl, hD.sub [0, 1, 2, 3, 4] (by decide) rfl⟩, hS.F ht⟩) hS.2.2 dX12_sees_29
    ·
      exact absurd c_30 (by decide)
