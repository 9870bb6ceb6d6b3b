set_option maxHeartbeats 4000000 in
set_option maxRecDepth 100000 in
theorem n_ofGlass0 (l : Launch) (G : g5_G) (b_o b_ro b_rf b_im b_ke b_tp b_nl b_op b_ar b_pi b_pa b_ws b_hw b_se b_re b_pt b_ip b_ah b_be b_me b_tr b_ld b_wn : Nat) (sz : Nat) (u_th : Int32) (u_sa : Int32) (u_fd : Int32) (u_td : Int32) (u_fr : Int32) (u_to : Int32) (u_so : Int32) (u_fa : Int32) (u_bd : Int32) (u_nc : Int32) (u_co : Int32) (u_le : Int32) (u_pd : Int32) (u_od : Int32) (u_la : Int32) (u_bk : Int32) (u_ce : Int32) (u_ho : Int32) (u_wy : Int32) (u_bt : Int32) (u_ps : Int32) (u_tg : Int32) (u_sn : Int32) (u_ic : Int32) (u_wd : Int32) (u_id : Int32) (p_1 : Int32) (u_wo : Int64) (u_va : Int64) (u_su : Int64) (u_st : Int64) (v_ro : Nat → Int32) (h_u_td : 0 ≤ u_td.toInt ∧ u_td.toInt ≤ 400) (h_u_fr : 0 ≤ u_fr.toInt ∧ u_fr.toInt ≤ 400) (h_u_to : 0 ≤ u_to.toInt ∧ u_to.toInt ≤ 400) (h_u_bd : 0 ≤ u_bd.toInt ∧ u_bd.toInt ≤ 1) (h_u_nc : 0 ≤ u_nc.toInt ∧ u_nc.toInt ≤ 12) (h_u_co : 0 ≤ u_co.toInt ∧ u_co.toInt ≤ 400) (h_u_pd : 0 ≤ u_pd.toInt ∧ u_pd.toInt ≤ 400) (h_u_la : 0 ≤ u_la.toInt ∧ u_la.toInt ≤ 4840) (h_u_bk : 0 ≤ u_bk.toInt ∧ u_bk.toInt ≤ 1) (h_u_ce : 0 ≤ u_ce.toInt ∧ u_ce.toInt ≤ 63) (h_u_ho : 0 ≤ u_ho.toInt ∧ u_ho.toInt ≤ 23) (h_u_wy : 0 ≤ u_wy.toInt ∧ u_wy.toInt ≤ 3) (h_u_bt : 0 ≤ u_bt.toInt ∧ u_bt.toInt ≤ 1000000) (h_u_ps : 0 ≤ u_ps.toInt ∧ u_ps.toInt ≤ 200) (h_u_ic : 0 ≤ u_ic.toInt ∧ u_ic.toInt ≤ 1) (h_u_id : 0 ≤ u_id.toInt ∧ u_id.toInt ≤ 1) (h_p_1 : 0 ≤ p_1.toInt ∧ p_1.toInt ≤ 5) (r_ro : MI v_ro) : Met l yX12_ofGlass (wsG yX12_ofGlass cX12_ofGlass 3 (some .int)) ({ frames := 0, cells := 0, slots := 0, locals := 0 }) (va_Pc [.ref b_o, .int p_1, .int 0] (g5_P G [(b_o, (oc12 u_th u_sa b_rf b_ro b_im b_ke u_fd b_tp u_td u_fr u_to u_so u_wo u_fa u_bd u_nc b_nl u_co b_op b_ar u_le b_pi b_pa u_pd u_od b_ws b_hw u_la b_se b_re u_bk u_va u_su u_ce u_ho u_wy u_bt u_ps b_pt u_tg u_sn b_ip u_ic b_ah b_be b_me u_wd b_tr b_ld u_st b_wn u_id)), (b_ro, (arI G 5740 v_ro))] sz)) (va_Qi (fun (r : Int32) (u : va_W) => (∃ (o_r : Int32), (0 ≤ o_r.toInt ∧ o_r.toInt ≤ 63) ∧ (r = o_r) ∧ (u = [(b_o, (oc12 u_th u_sa b_rf b_ro b_im b_ke u_fd b_tp u_td u_fr u_to u_so u_wo u_fa u_bd u_nc b_nl u_co b_op b_ar u_le b_pi b_pa u_pd u_od b_ws b_hw u_la b_se b_re u_bk u_va u_su u_ce u_ho u_wy u_bt u_ps b_pt u_tg u_sn b_ip u_ic b_ah b_be b_me u_wd b_tr b_ld u_st b_wn u_id)), (b_ro, (arI G 5740 v_ro))]))) (g5_B G (va_A [(b_o, (oc12 u_th u_sa b_rf b_ro b_im b_ke u_fd b_tp u_td u_fr u_to u_so u_wo u_fa u_bd u_nc b_nl u_co b_op b_ar u_le b_pi b_pa u_pd u_od b_ws b_hw u_la b_se b_re u_bk u_va u_su u_ce u_ho u_wy u_bt u_ps b_pt u_tg u_sn b_ip u_ic b_ah b_be b_me u_wd b_tr b_ld u_st b_wn u_id)), (b_ro, (arI G 5740 v_ro))] sz)) (va_A [(b_o, (oc12 u_th u_sa b_rf b_ro b_im b_ke u_fd b_tp u_td u_fr u_to u_so u_wo u_fa u_bd u_nc b_nl u_co b_op b_ar u_le b_pi b_pa u_pd u_od b_ws b_hw u_la b_se b_re u_bk u_va u_su u_ce u_ho u_wy u_bt u_ps b_pt u_tg u_sn b_ip u_ic b_ah b_be b_me u_wd b_tr b_ld u_st b_wn u_id)), (b_ro, (arI G 5740 v_ro))] sz)) 0 0 (va_A [(b_o, (oc12 u_th u_sa b_rf b_ro b_im b_ke u_fd b_tp u_td u_fr u_to u_so u_wo u_fa u_bd u_nc b_nl u_co b_op b_ar u_le b_pi b_pa u_pd u_od b_ws b_hw u_la b_se b_re u_bk u_va u_su u_ce u_ho u_wy u_bt u_ps b_pt u_tg u_sn b_ip u_ic b_ah b_be b_me u_wd b_tr b_ld u_st b_wn u_id)), (b_ro, (arI G 5740 v_ro))] sz) := by
  refine Met.ofW (cc := cX12_ofGlass) (maxL := 3) (ret := (some .int)) (by decide) rfl ?_
  intro p e s m args below meth c s₁ B hml hv
  obtain ⟨rfl, hsz, hP, hK, hD0, hN, hT⟩ := hv
  have hx := B.exec
  have hb := B.bytes
  have hr := B.returns
  have hts : ∀ w ∈ tblG, w.before _ s = true := fun w h => atoms_spec (ws := (wsG yX12_ofGlass cX12_ofGlass 3 (some .int))) B.pre w (List.mem_cons_of_mem _ h)
  have hown : s.vm.findClass RX12 = some m.cls := findClass_of_methodNamed B.named
  have hlocks := B.notSynchronized
  subst hsz
  have hD := hD0.self (sz := s.heap.size)
  generalize hAe : va_A [(b_o, (oc12 u_th u_sa b_rf b_ro b_im b_ke u_fd b_tp u_td u_fr u_to u_so u_wo u_fa u_bd u_nc b_nl u_co b_op b_ar u_le b_pi b_pa u_pd u_od b_ws b_hw u_la b_se b_re u_bk u_va u_su u_ce u_ho u_wy u_bt u_ps b_pt u_tg u_sn b_ip u_ic b_ah b_be b_me u_wd b_tr b_ld u_st b_wn u_id)), (b_ro, (arI G 5740 v_ro))] s.heap.size = A at hD hT ⊢
  have hA : ∀ q : Nat, s.heap.size ≤ q → A q := fun q h => by rw [← hAe]; exact Or.inr h
  have hS : va_S A s.heap s.heap [] := va_S.rf
  have hP : va_P G.1 vwCl [(b_o, (oc12 u_th u_sa b_rf b_ro b_im b_ke u_fd b_tp u_td u_fr u_to u_so u_wo u_fa u_bd u_nc b_nl u_co b_op b_ar u_le b_pi b_pa u_pd u_od b_ws b_hw u_la b_se b_re u_bk u_va u_su u_ce u_ho u_wy u_bt u_ps b_pt u_tg u_sn b_ip u_ic b_ah b_be b_me u_wd b_tr b_ld u_st b_wn u_id)), (b_ro, (arI G 5740 v_ro))] s.heap := hP
  have hl := lv_entry ([.ref b_o, .int p_1, .int 0]) (n := 3) (Nat.le_of_ble_eq_true rfl)
  rw [lg_entry_eq]
  generalize (lg_sl ([.ref b_o, .int p_1, .int 0]) ++ List.replicate (3 - (lg_sl ([.ref b_o, .int p_1, .int 0])).length) Slot.unset).toArray = ls at hl ⊢
  have hl : lv_has ls 3 [(0, .ref b_o), (1, .int p_1), (2, .int 0)] := hl
  refine lv_aload_n hx hb dX12_ofGlass_0 rfl (lv_at hl 0 rfl) ?_
  refine va_get (D := G.1) (ci := 12) (v := .ref b_ro) (C := RX12) (T := TX12) (N := 52) hx hb hts inG_X12 hown hK hP 0 rfl rfl 3 (by decide) (hts _ fl_X12_13) (fun _ h9 => h9) rfl dX12_ofGlass_1 ?_
  refine lv_bipush (v := 80) hx hb dX12_ofGlass_4 (by decide) ?_
  refine lv_iconst (v := 5) hx hb dX12_ofGlass_6 (by decide) ?_
  refine lv_iload_n hx hb dX12_ofGlass_7 rfl (lv_at hl 1 rfl) ?_
  refine lv_imul hx hb dX12_ofGlass_8 ?_
  have t_1 : (5 * p_1).toInt = 5 * p_1.toInt := g5_imul (a := 5) (b := p_1.toInt) (by decide) (by rfl) (by omega) (by omega)
  refine lv_iadd hx hb dX12_ofGlass_9 ?_
  have t_2 : (80 + (5 * p_1)).toInt = 80 + (5 * p_1).toInt := g5_iadd (a := 80) (b := (5 * p_1).toInt) (by decide) (by rfl) (by omega) (by omega)
  refine lv_iload_n hx hb dX12_ofGlass_10 rfl (lv_at hl 2 rfl) ?_
  refine lv_iadd hx hb dX12_ofGlass_11 ?_
  refine g5_ti (v := (80 + (5 * p_1))) (by simp) ?_
  refine va_iald hx hb hK hP 1 0 rfl rfl (i := (80 + (5 * p_1))) (vp_in_iff.mpr ⟨by omega, by omega⟩) dX12_ofGlass_12 ?_
  have hv9 : 0 ≤ (v_ro (80 + (5 * p_1)).toNatClampNeg).toInt ∧ (v_ro (80 + (5 * p_1)).toNatClampNeg).toInt ≤ 63 := mi_80_0 r_ro (by have zz := g5_clamp (80 + (5 * p_1)); omega) (by have zz := g5_clamp (80 + (5 * p_1)); omega) (by have zz := g5_clamp (80 + (5 * p_1)); omega)
  exact W.iret (v := (v_ro (80 + (5 * p_1)).toNatClampNeg)) hx hb hr (fun t ht hW => ⟨⟨(v_ro (80 + (5 * p_1)).toNatClampNeg), [(b_o, (oc12 u_th u_sa b_rf b_ro b_im b_ke u_fd b_tp u_td u_fr u_to u_so u_wo u_fa u_bd u_nc b_nl u_co b_op b_ar u_le b_pi b_pa u_pd u_od b_ws b_hw u_la b_se b_re u_bk u_va u_su u_ce u_ho u_wy u_bt u_ps b_pt u_tg u_sn b_ip u_ic b_ah b_be b_me u_wd b_tr b_ld u_st b_wn u_id)), (b_ro, (arI G 5740 v_ro))], rfl, ⟨(v_ro (80 + (5 * p_1)).toNatClampNeg), by omega, rfl, rfl⟩, by rw [ht]; exact hP.sub [0, 1] rfl, hD.sub [0, 1] (by decide) rfl⟩, hS.F ht⟩) hS.2.2 dX12_ofGlass_13
set_option maxHeartbeats 4000000 in
set_option maxRecDepth 100000 in
theorem n_ofGlass1 (l : Launch) (G : g5_G) (b_o b_ro b_rf b_im b_ke b_tp b_nl b_op b_ar b_pi b_pa b_ws b_hw b_se b_re b_pt b_ip b_ah b_be b_me b_tr b_ld b_wn : Nat) (sz : Nat) (u_th : Int32) (u_sa : Int32) (u_fd : Int32) (u_td : Int32) (u_fr : Int32) (u_to : Int32) (u_so : Int32) (u_fa : Int32) (u_bd : Int32) (u_nc : Int32) (u_co : Int32) (u_le : Int32) (u_pd : Int32) (u_od : Int32) (u_la : Int32) (u_bk : Int32) (u_ce : Int32) (u_ho : Int32) (u_wy : Int32) (u_bt : Int32) (u_ps : Int32) (u_tg : Int32) (u_sn : Int32) (u_ic : Int32) (u_wd : Int32) (u_id : Int32) (p_1 : Int32) (u_wo : Int64) (u_va : Int64) (u_su : Int64) (u_st : Int64) (v_ro : Nat → Int32) (h_u_td : 0 ≤ u_td.toInt ∧ u_td.toInt ≤ 400) (h_u_fr : 0 ≤ u_fr.toInt ∧ u_fr.toInt ≤ 400) (h_u_to : 0 ≤ u_to.toInt ∧ u_to.toInt ≤ 400) (h_u_bd : 0 ≤ u_bd.toInt ∧ u_bd.toInt ≤ 1) (h_u_nc : 0 ≤ u_nc.toInt ∧ u_nc.toInt ≤ 12) (h_u_co : 0 ≤ u_co.toInt ∧ u_co.toInt ≤ 400) (h_u_pd : 0 ≤ u_pd.toInt ∧ u_pd.toInt ≤ 400) (h_u_la : 0 ≤ u_la.toInt ∧ u_la.toInt ≤ 4840) (h_u_bk : 0 ≤ u_bk.toInt ∧ u_bk.toInt ≤ 1) (h_u_ce : 0 ≤ u_ce.toInt ∧ u_ce.toInt ≤ 63) (h_u_ho : 0 ≤ u_ho.toInt ∧ u_ho.toInt ≤ 23) (h_u_wy : 0 ≤ u_wy.toInt ∧ u_wy.toInt ≤ 3) (h_u_bt : 0 ≤ u_bt.toInt ∧ u_bt.toInt ≤ 1000000) (h_u_ps : 0 ≤ u_ps.toInt ∧ u_ps.toInt ≤ 200) (h_u_ic : 0 ≤ u_ic.toInt ∧ u_ic.toInt ≤ 1) (h_u_id : 0 ≤ u_id.toInt ∧ u_id.toInt ≤ 1) (h_p_1 : 0 ≤ p_1.toInt ∧ p_1.toInt ≤ 5) (r_ro : MI v_ro) : Met l yX12_ofGlass (wsG yX12_ofGlass cX12_ofGlass 3 (some .int)) ({ frames := 0, cells := 0, slots := 0, locals := 0 }) (va_Pc [.ref b_o, .int p_1, .int 1] (g5_P G [(b_o, (oc12 u_th u_sa b_rf b_ro b_im b_ke u_fd b_tp u_td u_fr u_to u_so u_wo u_fa u_bd u_nc b_nl u_co b_op b_ar u_le b_pi b_pa u_pd u_od b_ws b_hw u_la b_se b_re u_bk u_va u_su u_ce u_ho u_wy u_bt u_ps b_pt u_tg u_sn b_ip u_ic b_ah b_be b_me u_wd b_tr b_ld u_st b_wn u_id)), (b_ro, (arI G 5740 v_ro))] sz)) (va_Qi (fun (r : Int32) (u : va_W) => (∃ (o_r : Int32), (0 ≤ o_r.toInt ∧ o_r.toInt ≤ 5) ∧ (r = o_r) ∧ (u = [(b_o, (oc12 u_th u_sa b_rf b_ro b_im b_ke u_fd b_tp u_td u_fr u_to u_so u_wo u_fa u_bd u_nc b_nl u_co b_op b_ar u_le b_pi b_pa u_pd u_od b_ws b_hw u_la b_se b_re u_bk u_va u_su u_ce u_ho u_wy u_bt u_ps b_pt u_tg u_sn b_ip u_ic b_ah b_be b_me u_wd b_tr b_ld u_st b_wn u_id)), (b_ro, (arI G 5740 v_ro))]))) (g5_B G (va_A [(b_o, (oc12 u_th u_sa b_rf b_ro b_im b_ke u_fd b_tp u_td u_fr u_to u_so u_wo u_fa u_bd u_nc b_nl u_co b_op b_ar u_le b_pi b_pa u_pd u_od b_ws b_hw u_la b_se b_re u_bk u_va u_su u_ce u_ho u_wy u_bt u_ps b_pt u_tg u_sn b_ip u_ic b_ah b_be b_me u_wd b_tr b_ld u_st b_wn u_id)), (b_ro, (arI G 5740 v_ro))] sz)) (va_A [(b_o, (oc12 u_th u_sa b_rf b_ro b_im b_ke u_fd b_tp u_td u_fr u_to u_so u_wo u_fa u_bd u_nc b_nl u_co b_op b_ar u_le b_pi b_pa u_pd u_od b_ws b_hw u_la b_se b_re u_bk u_va u_su u_ce u_ho u_wy u_bt u_ps b_pt u_tg u_sn b_ip u_ic b_ah b_be b_me u_wd b_tr b_ld u_st b_wn u_id)), (b_ro, (arI G 5740 v_ro))] sz)) 0 0 (va_A [(b_o, (oc12 u_th u_sa b_rf b_ro b_im b_ke u_fd b_tp u_td u_fr u_to u_so u_wo u_fa u_bd u_nc b_nl u_co b_op b_ar u_le b_pi b_pa u_pd u_od b_ws b_hw u_la b_se b_re u_bk u_va u_su u_ce u_ho u_wy u_bt u_ps b_pt u_tg u_sn b_ip u_ic b_ah b_be b_me u_wd b_tr b_ld u_st b_wn u_id)), (b_ro, (arI G 5740 v_ro))] sz) := by
  refine Met.ofW (cc := cX12_ofGlass) (maxL := 3) (ret := (some .int)) (by decide) rfl ?_
  intro p e s m args below meth c s₁ B hml hv
  obtain ⟨rfl, hsz, hP, hK, hD0, hN, hT⟩ := hv
  have hx := B.exec
  have hb := B.bytes
  have hr := B.returns
  have hts : ∀ w ∈ tblG, w.before _ s = true := fun w h => atoms_spec (ws := (wsG yX12_ofGlass cX12_ofGlass 3 (some .int))) B.pre w (List.mem_cons_of_mem _ h)
  have hown : s.vm.findClass RX12 = some m.cls := findClass_of_methodNamed B.named
  have hlocks := B.notSynchronized
  subst hsz
  have hD := hD0.self (sz := s.heap.size)
  generalize hAe : va_A [(b_o, (oc12 u_th u_sa b_rf b_ro b_im b_ke u_fd b_tp u_td u_fr u_to u_so u_wo u_fa u_bd u_nc b_nl u_co b_op b_ar u_le b_pi b_pa u_pd u_od b_ws b_hw u_la b_se b_re u_bk u_va u_su u_ce u_ho u_wy u_bt u_ps b_pt u_tg u_sn b_ip u_ic b_ah b_be b_me u_wd b_tr b_ld u_st b_wn u_id)), (b_ro, (arI G 5740 v_ro))] s.heap.size = A at hD hT ⊢
  have hA : ∀ q : Nat, s.heap.size ≤ q → A q := fun q h => by rw [← hAe]; exact Or.inr h
  have hS : va_S A s.heap s.heap [] := va_S.rf
  have hP : va_P G.1 vwCl [(b_o, (oc12 u_th u_sa b_rf b_ro b_im b_ke u_fd b_tp u_td u_fr u_to u_so u_wo u_fa u_bd u_nc b_nl u_co b_op b_ar u_le b_pi b_pa u_pd u_od b_ws b_hw u_la b_se b_re u_bk u_va u_su u_ce u_ho u_wy u_bt u_ps b_pt u_tg u_sn b_ip u_ic b_ah b_be b_me u_wd b_tr b_ld u_st b_wn u_id)), (b_ro, (arI G 5740 v_ro))] s.heap := hP
  have hl := lv_entry ([.ref b_o, .int p_1, .int 1]) (n := 3) (Nat.le_of_ble_eq_true rfl)
  rw [lg_entry_eq]
  generalize (lg_sl ([.ref b_o, .int p_1, .int 1]) ++ List.replicate (3 - (lg_sl ([.ref b_o, .int p_1, .int 1])).length) Slot.unset).toArray = ls at hl ⊢
  have hl : lv_has ls 3 [(0, .ref b_o), (1, .int p_1), (2, .int 1)] := hl
  refine lv_aload_n hx hb dX12_ofGlass_0 rfl (lv_at hl 0 rfl) ?_
  refine va_get (D := G.1) (ci := 12) (v := .ref b_ro) (C := RX12) (T := TX12) (N := 52) hx hb hts inG_X12 hown hK hP 0 rfl rfl 3 (by decide) (hts _ fl_X12_13) (fun _ h9 => h9) rfl dX12_ofGlass_1 ?_
  refine lv_bipush (v := 80) hx hb dX12_ofGlass_4 (by decide) ?_
  refine lv_iconst (v := 5) hx hb dX12_ofGlass_6 (by decide) ?_
  refine lv_iload_n hx hb dX12_ofGlass_7 rfl (lv_at hl 1 rfl) ?_
  refine lv_imul hx hb dX12_ofGlass_8 ?_
  have t_1 : (5 * p_1).toInt = 5 * p_1.toInt := g5_imul (a := 5) (b := p_1.toInt) (by decide) (by rfl) (by omega) (by omega)
  refine lv_iadd hx hb dX12_ofGlass_9 ?_
  have t_2 : (80 + (5 * p_1)).toInt = 80 + (5 * p_1).toInt := g5_iadd (a := 80) (b := (5 * p_1).toInt) (by decide) (by rfl) (by omega) (by omega)
  refine lv_iload_n hx hb dX12_ofGlass_10 rfl (lv_at hl 2 rfl) ?_
  refine lv_iadd hx hb dX12_ofGlass_11 ?_
  have t_3 : ((80 + (5 * p_1)) + 1).toInt = (80 + (5 * p_1)).toInt + 1 := g5_iadd (a := (80 + (5 * p_1)).toInt) (b := 1) (by rfl) (by decide) (by omega) (by omega)
  refine va_iald hx hb hK hP 1 0 rfl rfl (i := ((80 + (5 * p_1)) + 1)) (vp_in_iff.mpr ⟨by omega, by omega⟩) dX12_ofGlass_12 ?_
  have hv9 : 0 ≤ (v_ro ((80 + (5 * p_1)) + 1).toNatClampNeg).toInt ∧ (v_ro ((80 + (5 * p_1)) + 1).toNatClampNeg).toInt ≤ 5 := mi_80_1 r_ro (by have zz := g5_clamp ((80 + (5 * p_1)) + 1); omega) (by have zz := g5_clamp ((80 + (5 * p_1)) + 1); omega) (by have zz := g5_clamp ((80 + (5 * p_1)) + 1); omega)
  exact W.iret (v := (v_ro ((80 + (5 * p_1)) + 1).toNatClampNeg)) hx hb hr (fun t ht hW => ⟨⟨(v_ro ((80 + (5 * p_1)) + 1).toNatClampNeg), [(b_o, (oc12 u_th u_sa b_rf b_ro b_im b_ke u_fd b_tp u_td u_fr u_to u_so u_wo u_fa u_bd u_nc b_nl u_co b_op b_ar u_le b_pi b_pa u_pd u_od b_ws b_hw u_la b_se b_re u_bk u_va u_su u_ce u_ho u_wy u_bt u_ps b_pt u_tg u_sn b_ip u_ic b_ah b_be b_me u_wd b_tr b_ld u_st b_wn u_id)), (b_ro, (arI G 5740 v_ro))], rfl, ⟨(v_ro ((80 + (5 * p_1)) + 1).toNatClampNeg), by omega, rfl, rfl⟩, by rw [ht]; exact hP.sub [0, 1] rfl, hD.sub [0, 1] (by decide) rfl⟩, hS.F ht⟩) hS.2.2 dX12_ofGlass_13
set_option maxHeartbeats 4000000 in
set_option maxRecDepth 100000 in
theorem n_ofGlass2 (l : Launch) (G : g5_G) (b_o b_ro b_rf b_im b_ke b_tp b_nl b_op b_ar b_pi b_pa b_ws b_hw b_se b_re b_pt b_ip b_ah b_be b_me b_tr b_ld b_wn : Nat) (sz : Nat) (u_th : Int32) (u_sa : Int32) (u_fd : Int32) (u_td : Int32) (u_fr : Int32) (u_to : Int32) (u_so : Int32) (u_fa : Int32) (u_bd : Int32) (u_nc : Int32) (u_co : Int32) (u_le : Int32) (u_pd : Int32) (u_od : Int32) (u_la : Int32) (u_bk : Int32) (u_ce : Int32) (u_ho : Int32) (u_wy : Int32) (u_bt : Int32) (u_ps : Int32) (u_tg : Int32) (u_sn : Int32) (u_ic : Int32) (u_wd : Int32) (u_id : Int32) (p_1 : Int32) (u_wo : Int64) (u_va : Int64) (u_su : Int64) (u_st : Int64) (v_ro : Nat → Int32) (h_u_td : 0 ≤ u_td.toInt ∧ u_td.toInt ≤ 400) (h_u_fr : 0 ≤ u_fr.toInt ∧ u_fr.toInt ≤ 400) (h_u_to : 0 ≤ u_to.toInt ∧ u_to.toInt ≤ 400) (h_u_bd : 0 ≤ u_bd.toInt ∧ u_bd.toInt ≤ 1) (h_u_nc : 0 ≤ u_nc.toInt ∧ u_nc.toInt ≤ 12) (h_u_co : 0 ≤ u_co.toInt ∧ u_co.toInt ≤ 400) (h_u_pd : 0 ≤ u_pd.toInt ∧ u_pd.toInt ≤ 400) (h_u_la : 0 ≤ u_la.toInt ∧ u_la.toInt ≤ 4840) (h_u_bk : 0 ≤ u_bk.toInt ∧ u_bk.toInt ≤ 1) (h_u_ce : 0 ≤ u_ce.toInt ∧ u_ce.toInt ≤ 63) (h_u_ho : 0 ≤ u_ho.toInt ∧ u_ho.toInt ≤ 23) (h_u_wy : 0 ≤ u_wy.toInt ∧ u_wy.toInt ≤ 3) (h_u_bt : 0 ≤ u_bt.toInt ∧ u_bt.toInt ≤ 1000000) (h_u_ps : 0 ≤ u_ps.toInt ∧ u_ps.toInt ≤ 200) (h_u_ic : 0 ≤ u_ic.toInt ∧ u_ic.toInt ≤ 1) (h_u_id : 0 ≤ u_id.toInt ∧ u_id.toInt ≤ 1) (h_p_1 : 0 ≤ p_1.toInt ∧ p_1.toInt ≤ 5) (r_ro : MI v_ro) : Met l yX12_ofGlass (wsG yX12_ofGlass cX12_ofGlass 3 (some .int)) ({ frames := 0, cells := 0, slots := 0, locals := 0 }) (va_Pc [.ref b_o, .int p_1, .int 2] (g5_P G [(b_o, (oc12 u_th u_sa b_rf b_ro b_im b_ke u_fd b_tp u_td u_fr u_to u_so u_wo u_fa u_bd u_nc b_nl u_co b_op b_ar u_le b_pi b_pa u_pd u_od b_ws b_hw u_la b_se b_re u_bk u_va u_su u_ce u_ho u_wy u_bt u_ps b_pt u_tg u_sn b_ip u_ic b_ah b_be b_me u_wd b_tr b_ld u_st b_wn u_id)), (b_ro, (arI G 5740 v_ro))] sz)) (va_Qi (fun (r : Int32) (u : va_W) => (∃ (o_r : Int32), (0 ≤ o_r.toInt ∧ o_r.toInt ≤ 23) ∧ (r = o_r) ∧ (u = [(b_o, (oc12 u_th u_sa b_rf b_ro b_im b_ke u_fd b_tp u_td u_fr u_to u_so u_wo u_fa u_bd u_nc b_nl u_co b_op b_ar u_le b_pi b_pa u_pd u_od b_ws b_hw u_la b_se b_re u_bk u_va u_su u_ce u_ho u_wy u_bt u_ps b_pt u_tg u_sn b_ip u_ic b_ah b_be b_me u_wd b_tr b_ld u_st b_wn u_id)), (b_ro, (arI G 5740 v_ro))]))) (g5_B G (va_A [(b_o, (oc12 u_th u_sa b_rf b_ro b_im b_ke u_fd b_tp u_td u_fr u_to u_so u_wo u_fa u_bd u_nc b_nl u_co b_op b_ar u_le b_pi b_pa u_pd u_od b_ws b_hw u_la b_se b_re u_bk u_va u_su u_ce u_ho u_wy u_bt u_ps b_pt u_tg u_sn b_ip u_ic b_ah b_be b_me u_wd b_tr b_ld u_st b_wn u_id)), (b_ro, (arI G 5740 v_ro))] sz)) (va_A [(b_o, (oc12 u_th u_sa b_rf b_ro b_im b_ke u_fd b_tp u_td u_fr u_to u_so u_wo u_fa u_bd u_nc b_nl u_co b_op b_ar u_le b_pi b_pa u_pd u_od b_ws b_hw u_la b_se b_re u_bk u_va u_su u_ce u_ho u_wy u_bt u_ps b_pt u_tg u_sn b_ip u_ic b_ah b_be b_me u_wd b_tr b_ld u_st b_wn u_id)), (b_ro, (arI G 5740 v_ro))] sz)) 0 0 (va_A [(b_o, (oc12 u_th u_sa b_rf b_ro b_im b_ke u_fd b_tp u_td u_fr u_to u_so u_wo u_fa u_bd u_nc b_nl u_co b_op b_ar u_le b_pi b_pa u_pd u_od b_ws b_hw u_la b_se b_re u_bk u_va u_su u_ce u_ho u_wy u_bt u_ps b_pt u_tg u_sn b_ip u_ic b_ah b_be b_me u_wd b_tr b_ld u_st b_wn u_id)), (b_ro, (arI G 5740 v_ro))] sz) := by
  refine Met.ofW (cc := cX12_ofGlass) (maxL := 3) (ret := (some .int)) (by decide) rfl ?_
  intro p e s m args below meth c s₁ B hml hv
  obtain ⟨rfl, hsz, hP, hK, hD0, hN, hT⟩ := hv
  have hx := B.exec
  have hb := B.bytes
  have hr := B.returns
  have hts : ∀ w ∈ tblG, w.before _ s = true := fun w h => atoms_spec (ws := (wsG yX12_ofGlass cX12_ofGlass 3 (some .int))) B.pre w (List.mem_cons_of_mem _ h)
  have hown : s.vm.findClass RX12 = some m.cls := findClass_of_methodNamed B.named
  have hlocks := B.notSynchronized
  subst hsz
  have hD := hD0.self (sz := s.heap.size)
  generalize hAe : va_A [(b_o, (oc12 u_th u_sa b_rf b_ro b_im b_ke u_fd b_tp u_td u_fr u_to u_so u_wo u_fa u_bd u_nc b_nl u_co b_op b_ar u_le b_pi b_pa u_pd u_od b_ws b_hw u_la b_se b_re u_bk u_va u_su u_ce u_ho u_wy u_bt u_ps b_pt u_tg u_sn b_ip u_ic b_ah b_be b_me u_wd b_tr b_ld u_st b_wn u_id)), (b_ro, (arI G 5740 v_ro))] s.heap.size = A at hD hT ⊢
  have hA : ∀ q : Nat, s.heap.size ≤ q → A q := fun q h => by rw [← hAe]; exact Or.inr h
  have hS : va_S A s.heap s.heap [] := va_S.rf
  have hP : va_P G.1 vwCl [(b_o, (oc12 u_th u_sa b_rf b_ro b_im b_ke u_fd b_tp u_td u_fr u_to u_so u_wo u_fa u_bd u_nc b_nl u_co b_op b_ar u_le b_pi b_pa u_pd u_od b_ws b_hw u_la b_se b_re u_bk u_va u_su u_ce u_ho u_wy u_bt u_ps b_pt u_tg u_sn b_ip u_ic b_ah b_be b_me u_wd b_tr b_ld u_st b_wn u_id)), (b_ro, (arI G 5740 v_ro))] s.heap := hP
  have hl := lv_entry ([.ref b_o, .int p_1, .int 2]) (n := 3) (Nat.le_of_ble_eq_true rfl)
  rw [lg_entry_eq]
  generalize (lg_sl ([.ref b_o, .int p_1, .int 2]) ++ List.replicate (3 - (lg_sl ([.ref b_o, .int p_1, .int 2])).length) Slot.unset).toArray = ls at hl ⊢
  have hl : lv_has ls 3 [(0, .ref b_o), (1, .int p_1), (2, .int 2)] := hl
  refine lv_aload_n hx hb dX12_ofGlass_0 rfl (lv_at hl 0 rfl) ?_
  refine va_get (D := G.1) (ci := 12) (v := .ref b_ro) (C := RX12) (T := TX12) (N := 52) hx hb hts inG_X12 hown hK hP 0 rfl rfl 3 (by decide) (hts _ fl_X12_13) (fun _ h9 => h9) rfl dX12_ofGlass_1 ?_
  refine lv_bipush (v := 80) hx hb dX12_ofGlass_4 (by decide) ?_
  refine lv_iconst (v := 5) hx hb dX12_ofGlass_6 (by decide) ?_
  refine lv_iload_n hx hb dX12_ofGlass_7 rfl (lv_at hl 1 rfl) ?_
  refine lv_imul hx hb dX12_ofGlass_8 ?_
  have t_1 : (5 * p_1).toInt = 5 * p_1.toInt := g5_imul (a := 5) (b := p_1.toInt) (by decide) (by rfl) (by omega) (by omega)
  refine lv_iadd hx hb dX12_ofGlass_9 ?_
  have t_2 : (80 + (5 * p_1)).toInt = 80 + (5 * p_1).toInt := g5_iadd (a := 80) (b := (5 * p_1).toInt) (by decide) (by rfl) (by omega) (by omega)
  refine lv_iload_n hx hb dX12_ofGlass_10 rfl (lv_at hl 2 rfl) ?_
  refine lv_iadd hx hb dX12_ofGlass_11 ?_
  have t_3 : ((80 + (5 * p_1)) + 2).toInt = (80 + (5 * p_1)).toInt + 2 := g5_iadd (a := (80 + (5 * p_1)).toInt) (b := 2) (by rfl) (by decide) (by omega) (by omega)
  refine va_iald hx hb hK hP 1 0 rfl rfl (i := ((80 + (5 * p_1)) + 2)) (vp_in_iff.mpr ⟨by omega, by omega⟩) dX12_ofGlass_12 ?_
  have hv9 : 0 ≤ (v_ro ((80 + (5 * p_1)) + 2).toNatClampNeg).toInt ∧ (v_ro ((80 + (5 * p_1)) + 2).toNatClampNeg).toInt ≤ 23 := mi_80_2 r_ro (by have zz := g5_clamp ((80 + (5 * p_1)) + 2); omega) (by have zz := g5_clamp ((80 + (5 * p_1)) + 2); omega) (by have zz := g5_clamp ((80 + (5 * p_1)) + 2); omega)
  exact W.iret (v := (v_ro ((80 + (5 * p_1)) + 2).toNatClampNeg)) hx hb hr (fun t ht hW => ⟨⟨(v_ro ((80 + (5 * p_1)) + 2).toNatClampNeg), [(b_o, (oc12 u_th u_sa b_rf b_ro b_im b_ke u_fd b_tp u_td u_fr u_to u_so u_wo u_fa u_bd u_nc b_nl u_co b_op b_ar u_le b_pi b_pa u_pd u_od b_ws b_hw u_la b_se b_re u_bk u_va u_su u_ce u_ho u_wy u_bt u_ps b_pt u_tg u_sn b_ip u_ic b_ah b_be b_me u_wd b_tr b_ld u_st b_wn u_id)), (b_ro, (arI G 5740 v_ro))], rfl, ⟨(v_ro ((80 + (5 * p_1)) + 2).toNatClampNeg), by omega, rfl, rfl⟩, by rw [ht]; exact hP.sub [0, 1] rfl, hD.sub [0, 1] (by decide) rfl⟩, hS.F ht⟩) hS.2.2 dX12_ofGlass_13
set_option maxHeartbeats 4000000 in
set_option maxRecDepth 100000 in
theorem n_ofGlass3 (l : Launch) (G : g5_G) (b_o b_ro b_rf b_im b_ke b_tp b_nl b_op b_ar b_pi b_pa b_ws b_hw b_se b_re b_pt b_ip b_ah b_be b_me b_tr b_ld b_wn : Nat) (sz : Nat) (u_th : Int32) (u_sa : Int32) (u_fd : Int32) (u_td : Int32) (u_fr : Int32) (u_to : Int32) (u_so : Int32) (u_fa : Int32) (u_bd : Int32) (u_nc : Int32) (u_co : Int32) (u_le : Int32) (u_pd : Int32) (u_od : Int32) (u_la : Int32) (u_bk : Int32) (u_ce : Int32) (u_ho : Int32) (u_wy : Int32) (u_bt : Int32) (u_ps : Int32) (u_tg : Int32) (u_sn : Int32) (u_ic : Int32) (u_wd : Int32) (u_id : Int32) (p_1 : Int32) (u_wo : Int64) (u_va : Int64) (u_su : Int64) (u_st : Int64) (v_ro : Nat → Int32) (h_u_td : 0 ≤ u_td.toInt ∧ u_td.toInt ≤ 400) (h_u_fr : 0 ≤ u_fr.toInt ∧ u_fr.toInt ≤ 400) (h_u_to : 0 ≤ u_to.toInt ∧ u_to.toInt ≤ 400) (h_u_bd : 0 ≤ u_bd.toInt ∧ u_bd.toInt ≤ 1) (h_u_nc : 0 ≤ u_nc.toInt ∧ u_nc.toInt ≤ 12) (h_u_co : 0 ≤ u_co.toInt ∧ u_co.toInt ≤ 400) (h_u_pd : 0 ≤ u_pd.toInt ∧ u_pd.toInt ≤ 400) (h_u_la : 0 ≤ u_la.toInt ∧ u_la.toInt ≤ 4840) (h_u_bk : 0 ≤ u_bk.toInt ∧ u_bk.toInt ≤ 1) (h_u_ce : 0 ≤ u_ce.toInt ∧ u_ce.toInt ≤ 63) (h_u_ho : 0 ≤ u_ho.toInt ∧ u_ho.toInt ≤ 23) (h_u_wy : 0 ≤ u_wy.toInt ∧ u_wy.toInt ≤ 3) (h_u_bt : 0 ≤ u_bt.toInt ∧ u_bt.toInt ≤ 1000000) (h_u_ps : 0 ≤ u_ps.toInt ∧ u_ps.toInt ≤ 200) (h_u_ic : 0 ≤ u_ic.toInt ∧ u_ic.toInt ≤ 1) (h_u_id : 0 ≤ u_id.toInt ∧ u_id.toInt ≤ 1) (h_p_1 : 0 ≤ p_1.toInt ∧ p_1.toInt ≤ 5) (r_ro : MI v_ro) : Met l yX12_ofGlass (wsG yX12_ofGlass cX12_ofGlass 3 (some .int)) ({ frames := 0, cells := 0, slots := 0, locals := 0 }) (va_Pc [.ref b_o, .int p_1, .int 3] (g5_P G [(b_o, (oc12 u_th u_sa b_rf b_ro b_im b_ke u_fd b_tp u_td u_fr u_to u_so u_wo u_fa u_bd u_nc b_nl u_co b_op b_ar u_le b_pi b_pa u_pd u_od b_ws b_hw u_la b_se b_re u_bk u_va u_su u_ce u_ho u_wy u_bt u_ps b_pt u_tg u_sn b_ip u_ic b_ah b_be b_me u_wd b_tr b_ld u_st b_wn u_id)), (b_ro, (arI G 5740 v_ro))] sz)) (va_Qi (fun (r : Int32) (u : va_W) => (∃ (o_r : Int32), (0 ≤ o_r.toInt ∧ o_r.toInt ≤ 10) ∧ (r = o_r) ∧ (u = [(b_o, (oc12 u_th u_sa b_rf b_ro b_im b_ke u_fd b_tp u_td u_fr u_to u_so u_wo u_fa u_bd u_nc b_nl u_co b_op b_ar u_le b_pi b_pa u_pd u_od b_ws b_hw u_la b_se b_re u_bk u_va u_su u_ce u_ho u_wy u_bt u_ps b_pt u_tg u_sn b_ip u_ic b_ah b_be b_me u_wd b_tr b_ld u_st b_wn u_id)), (b_ro, (arI G 5740 v_ro))]))) (g5_B G (va_A [(b_o, (oc12 u_th u_sa b_rf b_ro b_im b_ke u_fd b_tp u_td u_fr u_to u_so u_wo u_fa u_bd u_nc b_nl u_co b_op b_ar u_le b_pi b_pa u_pd u_od b_ws b_hw u_la b_se b_re u_bk u_va u_su u_ce u_ho u_wy u_bt u_ps b_pt u_tg u_sn b_ip u_ic b_ah b_be b_me u_wd b_tr b_ld u_st b_wn u_id)), (b_ro, (arI G 5740 v_ro))] sz)) (va_A [(b_o, (oc12 u_th u_sa b_rf b_ro b_im b_ke u_fd b_tp u_td u_fr u_to u_so u_wo u_fa u_bd u_nc b_nl u_co b_op b_ar u_le b_pi b_pa u_pd u_od b_ws b_hw u_la b_se b_re u_bk u_va u_su u_ce u_ho u_wy u_bt u_ps b_pt u_tg u_sn b_ip u_ic b_ah b_be b_me u_wd b_tr b_ld u_st b_wn u_id)), (b_ro, (arI G 5740 v_ro))] sz)) 0 0 (va_A [(b_o, (oc12 u_th u_sa b_rf b_ro b_im b_ke u_fd b_tp u_td u_fr u_to u_so u_wo u_fa u_bd u_nc b_nl u_co b_op b_ar u_le b_pi b_pa u_pd u_od b_ws b_hw u_la b_se b_re u_bk u_va u_su u_ce u_ho u_wy u_bt u_ps b_pt u_tg u_sn b_ip u_ic b_ah b_be b_me u_wd b_tr b_ld u_st b_wn u_id)), (b_ro, (arI G 5740 v_ro))] sz) := by
  refine Met.ofW (cc := cX12_ofGlass) (maxL := 3) (ret := (some .int)) (by decide) rfl ?_
  intro p e s m args below meth c s₁ B hml hv
  obtain ⟨rfl, hsz, hP, hK, hD0, hN, hT⟩ := hv
  have hx := B.exec
  have hb := B.bytes
  have hr := B.returns
  have hts : ∀ w ∈ tblG, w.before _ s = true := fun w h => atoms_spec (ws := (wsG yX12_ofGlass cX12_ofGlass 3 (some .int))) B.pre w (List.mem_cons_of_mem _ h)
  have hown : s.vm.findClass RX12 = some m.cls := findClass_of_methodNamed B.named
  have hlocks := B.notSynchronized
  subst hsz
  have hD := hD0.self (sz := s.heap.size)
  generalize hAe : va_A [(b_o, (oc12 u_th u_sa b_rf b_ro b_im b_ke u_fd b_tp u_td u_fr u_to u_so u_wo u_fa u_bd u_nc b_nl u_co b_op b_ar u_le b_pi b_pa u_pd u_od b_ws b_hw u_la b_se b_re u_bk u_va u_su u_ce u_ho u_wy u_bt u_ps b_pt u_tg u_sn b_ip u_ic b_ah b_be b_me u_wd b_tr b_ld u_st b_wn u_id)), (b_ro, (arI G 5740 v_ro))] s.heap.size = A at hD hT ⊢
  have hA : ∀ q : Nat, s.heap.size ≤ q → A q := fun q h => by rw [← hAe]; exact Or.inr h
  have hS : va_S A s.heap s.heap [] := va_S.rf
  have hP : va_P G.1 vwCl [(b_o, (oc12 u_th u_sa b_rf b_ro b_im b_ke u_fd b_tp u_td u_fr u_to u_so u_wo u_fa u_bd u_nc b_nl u_co b_op b_ar u_le b_pi b_pa u_pd u_od b_ws b_hw u_la b_se b_re u_bk u_va u_su u_ce u_ho u_wy u_bt u_ps b_pt u_tg u_sn b_ip u_ic b_ah b_be b_me u_wd b_tr b_ld u_st b_wn u_id)), (b_ro, (arI G 5740 v_ro))] s.heap := hP
  have hl := lv_entry ([.ref b_o, .int p_1, .int 3]) (n := 3) (Nat.le_of_ble_eq_true rfl)
  rw [lg_entry_eq]
  generalize (lg_sl ([.ref b_o, .int p_1, .int 3]) ++ List.replicate (3 - (lg_sl ([.ref b_o, .int p_1, .int 3])).length) Slot.unset).toArray = ls at hl ⊢
  have hl : lv_has ls 3 [(0, .ref b_o), (1, .int p_1), (2, .int 3)] := hl
  refine lv_aload_n hx hb dX12_ofGlass_0 rfl (lv_at hl 0 rfl) ?_
  refine va_get (D := G.1) (ci := 12) (v := .ref b_ro) (C := RX12) (T := TX12) (N := 52) hx hb hts inG_X12 hown hK hP 0 rfl rfl 3 (by decide) (hts _ fl_X12_13) (fun _ h9 => h9) rfl dX12_ofGlass_1 ?_
  refine lv_bipush (v := 80) hx hb dX12_ofGlass_4 (by decide) ?_
  refine lv_iconst (v := 5) hx hb dX12_ofGlass_6 (by decide) ?_
  refine lv_iload_n hx hb dX12_ofGlass_7 rfl (lv_at hl 1 rfl) ?_
  refine lv_imul hx hb dX12_ofGlass_8 ?_
  have t_1 : (5 * p_1).toInt = 5 * p_1.toInt := g5_imul (a := 5) (b := p_1.toInt) (by decide) (by rfl) (by omega) (by omega)
  refine lv_iadd hx hb dX12_ofGlass_9 ?_
  have t_2 : (80 + (5 * p_1)).toInt = 80 + (5 * p_1).toInt := g5_iadd (a := 80) (b := (5 * p_1).toInt) (by decide) (by rfl) (by omega) (by omega)
  refine lv_iload_n hx hb dX12_ofGlass_10 rfl (lv_at hl 2 rfl) ?_
  refine lv_iadd hx hb dX12_ofGlass_11 ?_
  have t_3 : ((80 + (5 * p_1)) + 3).toInt = (80 + (5 * p_1)).toInt + 3 := g5_iadd (a := (80 + (5 * p_1)).toInt) (b := 3) (by rfl) (by decide) (by omega) (by omega)
  refine va_iald hx hb hK hP 1 0 rfl rfl (i := ((80 + (5 * p_1)) + 3)) (vp_in_iff.mpr ⟨by omega, by omega⟩) dX12_ofGlass_12 ?_
  have hv9 : 0 ≤ (v_ro ((80 + (5 * p_1)) + 3).toNatClampNeg).toInt ∧ (v_ro ((80 + (5 * p_1)) + 3).toNatClampNeg).toInt ≤ 10 := mi_80_3 r_ro (by have zz := g5_clamp ((80 + (5 * p_1)) + 3); omega) (by have zz := g5_clamp ((80 + (5 * p_1)) + 3); omega) (by have zz := g5_clamp ((80 + (5 * p_1)) + 3); omega)
  exact W.iret (v := (v_ro ((80 + (5 * p_1)) + 3).toNatClampNeg)) hx hb hr (fun t ht hW => ⟨⟨(v_ro ((80 + (5 * p_1)) + 3).toNatClampNeg), [(b_o, (oc12 u_th u_sa b_rf b_ro b_im b_ke u_fd b_tp u_td u_fr u_to u_so u_wo u_fa u_bd u_nc b_nl u_co b_op b_ar u_le b_pi b_pa u_pd u_od b_ws b_hw u_la b_se b_re u_bk u_va u_su u_ce u_ho u_wy u_bt u_ps b_pt u_tg u_sn b_ip u_ic b_ah b_be b_me u_wd b_tr b_ld u_st b_wn u_id)), (b_ro, (arI G 5740 v_ro))], rfl, ⟨(v_ro ((80 + (5 * p_1)) + 3).toNatClampNeg), by omega, rfl, rfl⟩, by rw [ht]; exact hP.sub [0, 1] rfl, hD.sub [0, 1] (by decide) rfl⟩, hS.F ht⟩) hS.2.2 dX12_ofGlass_13
theorem dgX12_asks_0 : ∀ r ∈ ([(0, (.aload_n 0, 1)), (1, (.getfield 13, 3)), (4, (.iconst 3, 1)), (5, (.iaload, 1)), (6, (.iconst (-1), 1)), (7, (.if_icmp .ne 6, 3)), (10, (.iload 4, 2)), (12, (.ireturn, 1)), (13, (.aload_n 0, 1)), (14, (.sipush 340, 3)), (17, (.sipush 900, 3)), (20, (.aload_n 0, 1)), (21, (.getfield 13, 3)), (24, (.iconst 3, 1)), (25, (.iaload, 1)), (26, (.imul, 1)), (27, (.iadd, 1)), (28, (.putfield 329, 3)), (31, (.aload_n 0, 1)), (32, (.getfield 76, 3)), (35, (.iconst 1, 1)), (36, (.iload_n 2, 1)), (37, (.i2l, 1)), (38, (.lastore, 1)), (39, (.aload_n 0, 1)), (40, (.getfield 76, 3)), (43, (.iconst 2, 1)), (44, (.aload_n 0, 1)), (45, (.getfield 349, 3)), (48, (.bipush 8, 2)), (50, (.irem, 1)), (51, (.i2l, 1)), (52, (.lastore, 1)), (53, (.aload_n 0, 1)), (54, (.getfield 76, 3)), (57, (.iconst 3, 1)), (58, (.aload_n 0, 1)), (59, (.getfield 349, 3)), (62, (.bipush 8, 2)), (64, (.idiv, 1))] : List (Nat × (Instr × Nat))), decode cX12_asks r.1 = .ok r.2 := by decide +kernel
theorem dX12_asks_0 : decode cX12_asks 0 = .ok (.aload_n 0, 1) := dgX12_asks_0 (0, (.aload_n 0, 1)) (List.mem_of_getElem? (i := 0) rfl)
theorem dX12_asks_1 : decode cX12_asks 1 = .ok (.getfield 13, 3) := dgX12_asks_0 (1, (.getfield 13, 3)) (List.mem_of_getElem? (i := 1) rfl)
theorem dX12_asks_4 : decode cX12_asks 4 = .ok (.iconst 3, 1) := dgX12_asks_0 (4, (.iconst 3, 1)) (List.mem_of_getElem? (i := 2) rfl)
theorem dX12_asks_5 : decode cX12_asks 5 = .ok (.iaload, 1) := dgX12_asks_0 (5, (.iaload, 1)) (List.mem_of_getElem? (i := 3) rfl)
theorem dX12_asks_6 : decode cX12_asks 6 = .ok (.iconst (-1), 1) := dgX12_asks_0 (6, (.iconst (-1), 1)) (List.mem_of_getElem? (i := 4) rfl)
theorem dX12_asks_7 : decode cX12_asks 7 = .ok (.if_icmp .ne 6, 3) := dgX12_asks_0 (7, (.if_icmp .ne 6, 3)) (List.mem_of_getElem? (i := 5) rfl)
theorem dX12_asks_10 : decode cX12_asks 10 = .ok (.iload 4, 2) := dgX12_asks_0 (10, (.iload 4, 2)) (List.mem_of_getElem? (i := 6) rfl)
theorem dX12_asks_12 : decode cX12_asks 12 = .ok (.ireturn, 1) := dgX12_asks_0 (12, (.ireturn, 1)) (List.mem_of_getElem? (i := 7) rfl)
theorem dX12_asks_13 : decode cX12_asks 13 = .ok (.aload_n 0, 1) := dgX12_asks_0 (13, (.aload_n 0, 1)) (List.mem_of_getElem? (i := 8) rfl)
theorem dX12_asks_14 : decode cX12_asks 14 = .ok (.sipush 340, 3) := dgX12_asks_0 (14, (.sipush 340, 3)) (List.mem_of_getElem? (i := 9) rfl)
theorem dX12_asks_17 : decode cX12_asks 17 = .ok (.sipush 900, 3) := dgX12_asks_0 (17, (.sipush 900, 3)) (List.mem_of_getElem? (i := 10) rfl)
theorem dX12_asks_20 : decode cX12_asks 20 = .ok (.aload_n 0, 1) := dgX12_asks_0 (20, (.aload_n 0, 1)) (List.mem_of_getElem? (i := 11) rfl)
theorem dX12_asks_21 : decode cX12_asks 21 = .ok (.getfield 13, 3) := dgX12_asks_0 (21, (.getfield 13, 3)) (List.mem_of_getElem? (i := 12) rfl)
theorem dX12_asks_24 : decode cX12_asks 24 = .ok (.iconst 3, 1) := dgX12_asks_0 (24, (.iconst 3, 1)) (List.mem_of_getElem? (i := 13) rfl)
theorem dX12_asks_25 : decode cX12_asks 25 = .ok (.iaload, 1) := dgX12_asks_0 (25, (.iaload, 1)) (List.mem_of_getElem? (i := 14) rfl)
theorem dX12_asks_26 : decode cX12_asks 26 = .ok (.imul, 1) := dgX12_asks_0 (26, (.imul, 1)) (List.mem_of_getElem? (i := 15) rfl)
theorem dX12_asks_27 : decode cX12_asks 27 = .ok (.iadd, 1) := dgX12_asks_0 (27, (.iadd, 1)) (List.mem_of_getElem? (i := 16) rfl)
theorem dX12_asks_28 : decode cX12_asks 28 = .ok (.putfield 329, 3) := dgX12_asks_0 (28, (.putfield 329, 3)) (List.mem_of_getElem? (i := 17) rfl)
theorem dX12_asks_31 : decode cX12_asks 31 = .ok (.aload_n 0, 1) := dgX12_asks_0 (31, (.aload_n 0, 1)) (List.mem_of_getElem? (i := 18) rfl)
theorem dX12_asks_32 : decode cX12_asks 32 = .ok (.getfield 76, 3) := dgX12_asks_0 (32, (.getfield 76, 3)) (List.mem_of_getElem? (i := 19) rfl)
theorem dX12_asks_35 : decode cX12_asks 35 = .ok (.iconst 1, 1) := dgX12_asks_0 (35, (.iconst 1, 1)) (List.mem_of_getElem? (i := 20) rfl)
theorem dX12_asks_36 : decode cX12_asks 36 = .ok (.iload_n 2, 1) := dgX12_asks_0 (36, (.iload_n 2, 1)) (List.mem_of_getElem? (i := 21) rfl)
theorem dX12_asks_37 : decode cX12_asks 37 = .ok (.i2l, 1) := dgX12_asks_0 (37, (.i2l, 1)) (List.mem_of_getElem? (i := 22) rfl)
theorem dX12_asks_38 : decode cX12_asks 38 = .ok (.lastore, 1) := dgX12_asks_0 (38, (.lastore, 1)) (List.mem_of_getElem? (i := 23) rfl)
theorem dX12_asks_39 : decode cX12_asks 39 = .ok (.aload_n 0, 1) := dgX12_asks_0 (39, (.aload_n 0, 1)) (List.mem_of_getElem? (i := 24) rfl)
theorem dX12_asks_40 : decode cX12_asks 40 = .ok (.getfield 76, 3) := dgX12_asks_0 (40, (.getfield 76, 3)) (List.mem_of_getElem? (i := 25) rfl)
theorem dX12_asks_43 : decode cX12_asks 43 = .ok (.iconst 2, 1) := dgX12_asks_0 (43, (.iconst 2, 1)) (List.mem_of_getElem? (i := 26) rfl)
theorem dX12_asks_44 : decode cX12_asks 44 = .ok (.aload_n 0, 1) := dgX12_asks_0 (44, (.aload_n 0, 1)) (List.mem_of_getElem? (i := 27) rfl)
theorem dX12_asks_45 : decode cX12_asks 45 = .ok (.getfield 349, 3) := dgX12_asks_0 (45, (.getfield 349, 3)) (List.mem_of_getElem? (i := 28) rfl)
theorem dX12_asks_48 : decode cX12_asks 48 = .ok (.bipush 8, 2) := dgX12_asks_0 (48, (.bipush 8, 2)) (List.mem_of_getElem? (i := 29) rfl)
theorem dX12_asks_50 : decode cX12_asks 50 = .ok (.irem, 1) := dgX12_asks_0 (50, (.irem, 1)) (List.mem_of_getElem? (i := 30) rfl)
theorem dX12_asks_51 : decode cX12_asks 51 = .ok (.i2l, 1) := dgX12_asks_0 (51, (.i2l, 1)) (List.mem_of_getElem? (i := 31) rfl)
theorem dX12_asks_52 : decode cX12_asks 52 = .ok (.lastore, 1) := dgX12_asks_0 (52, (.lastore, 1)) (List.mem_of_getElem? (i := 32) rfl)
theorem dX12_asks_53 : decode cX12_asks 53 = .ok (.aload_n 0, 1) := dgX12_asks_0 (53, (.aload_n 0, 1)) (List.mem_of_getElem? (i := 33) rfl)
theorem dX12_asks_54 : decode cX12_asks 54 = .ok (.getfield 76, 3) := dgX12_asks_0 (54, (.getfield 76, 3)) (List.mem_of_getElem? (i := 34) rfl)
theorem dX12_asks_57 : decode cX12_asks 57 = .ok (.iconst 3, 1) := dgX12_asks_0 (57, (.iconst 3, 1)) (List.mem_of_getElem? (i := 35) rfl)
theorem dX12_asks_58 : decode cX12_asks 58 = .ok (.aload_n 0, 1) := dgX12_asks_0 (58, (.aload_n 0, 1)) (List.mem_of_getElem? (i := 36) rfl)
theorem dX12_asks_59 : decode cX12_asks 59 = .ok (.getfield 349, 3) := dgX12_asks_0 (59, (.getfield 349, 3)) (List.mem_of_getElem? (i := 37) rfl)
theorem dX12_asks_62 : decode cX12_asks 62 = .ok (.bipush 8, 2) := dgX12_asks_0 (62, (.bipush 8, 2)) (List.mem_of_getElem? (i := 38) rfl)
theorem dX12_asks_64 : decode cX12_asks 64 = .ok (.idiv, 1) := dgX12_asks_0 (64, (.idiv, 1)) (List.mem_of_getElem? (i := 39) rfl)
theorem dgX12_asks_1 : ∀ r ∈ ([(65, (.i2l, 1)), (66, (.lastore, 1)), (67, (.aload_n 0, 1)), (68, (.getfield 76, 3)), (71, (.iconst 4, 1)), (72, (.aload_n 0, 1)), (73, (.getfield 352, 3)), (76, (.i2l, 1)), (77, (.lastore, 1)), (78, (.aload_n 0, 1)), (79, (.getfield 76, 3)), (82, (.iconst 5, 1)), (83, (.aload_n 0, 1)), (84, (.getfield 355, 3)), (87, (.i2l, 1)), (88, (.lastore, 1)), (89, (.aload_n 0, 1)), (90, (.getfield 76, 3)), (93, (.bipush 6, 2)), (95, (.iload_n 3, 1)), (96, (.i2l, 1)), (97, (.lastore, 1)), (98, (.aload_n 0, 1)), (99, (.getfield 76, 3)), (102, (.bipush 7, 2)), (104, (.aload_n 0, 1)), (105, (.getfield 358, 3)), (108, (.i2l, 1)), (109, (.lastore, 1)), (110, (.aload_n 0, 1)), (111, (.getfield 76, 3)), (114, (.bipush 8, 2)), (116, (.aload_n 0, 1)), (117, (.getfield 361, 3)), (120, (.sipush 1000, 3)), (123, (.idiv, 1)), (124, (.i2l, 1)), (125, (.lastore, 1)), (126, (.iload 4, 2)), (128, (.i2l, 1))] : List (Nat × (Instr × Nat))), decode cX12_asks r.1 = .ok r.2 := by decide +kernel
theorem dX12_asks_65 : decode cX12_asks 65 = .ok (.i2l, 1) := dgX12_asks_1 (65, (.i2l, 1)) (List.mem_of_getElem? (i := 0) rfl)
theorem dX12_asks_66 : decode cX12_asks 66 = .ok (.lastore, 1) := dgX12_asks_1 (66, (.lastore, 1)) (List.mem_of_getElem? (i := 1) rfl)
theorem dX12_asks_67 : decode cX12_asks 67 = .ok (.aload_n 0, 1) := dgX12_asks_1 (67, (.aload_n 0, 1)) (List.mem_of_getElem? (i := 2) rfl)
theorem dX12_asks_68 : decode cX12_asks 68 = .ok (.getfield 76, 3) := dgX12_asks_1 (68, (.getfield 76, 3)) (List.mem_of_getElem? (i := 3) rfl)
theorem dX12_asks_71 : decode cX12_asks 71 = .ok (.iconst 4, 1) := dgX12_asks_1 (71, (.iconst 4, 1)) (List.mem_of_getElem? (i := 4) rfl)
theorem dX12_asks_72 : decode cX12_asks 72 = .ok (.aload_n 0, 1) := dgX12_asks_1 (72, (.aload_n 0, 1)) (List.mem_of_getElem? (i := 5) rfl)
theorem dX12_asks_73 : decode cX12_asks 73 = .ok (.getfield 352, 3) := dgX12_asks_1 (73, (.getfield 352, 3)) (List.mem_of_getElem? (i := 6) rfl)
theorem dX12_asks_76 : decode cX12_asks 76 = .ok (.i2l, 1) := dgX12_asks_1 (76, (.i2l, 1)) (List.mem_of_getElem? (i := 7) rfl)
theorem dX12_asks_77 : decode cX12_asks 77 = .ok (.lastore, 1) := dgX12_asks_1 (77, (.lastore, 1)) (List.mem_of_getElem? (i := 8) rfl)
theorem dX12_asks_78 : decode cX12_asks 78 = .ok (.aload_n 0, 1) := dgX12_asks_1 (78, (.aload_n 0, 1)) (List.mem_of_getElem? (i := 9) rfl)
theorem dX12_asks_79 : decode cX12_asks 79 = .ok (.getfield 76, 3) := dgX12_asks_1 (79, (.getfield 76, 3)) (List.mem_of_getElem? (i := 10) rfl)
theorem dX12_asks_82 : decode cX12_asks 82 = .ok (.iconst 5, 1) := dgX12_asks_1 (82, (.iconst 5, 1)) (List.mem_of_getElem? (i := 11) rfl)
theorem dX12_asks_83 : decode cX12_asks 83 = .ok (.aload_n 0, 1) := dgX12_asks_1 (83, (.aload_n 0, 1)) (List.mem_of_getElem? (i := 12) rfl)
theorem dX12_asks_84 : decode cX12_asks 84 = .ok (.getfield 355, 3) := dgX12_asks_1 (84, (.getfield 355, 3)) (List.mem_of_getElem? (i := 13) rfl)
theorem dX12_asks_87 : decode cX12_asks 87 = .ok (.i2l, 1) := dgX12_asks_1 (87, (.i2l, 1)) (List.mem_of_getElem? (i := 14) rfl)
theorem dX12_asks_88 : decode cX12_asks 88 = .ok (.lastore, 1) := dgX12_asks_1 (88, (.lastore, 1)) (List.mem_of_getElem? (i := 15) rfl)
theorem dX12_asks_89 : decode cX12_asks 89 = .ok (.aload_n 0, 1) := dgX12_asks_1 (89, (.aload_n 0, 1)) (List.mem_of_getElem? (i := 16) rfl)
theorem dX12_asks_90 : decode cX12_asks 90 = .ok (.getfield 76, 3) := dgX12_asks_1 (90, (.getfield 76, 3)) (List.mem_of_getElem? (i := 17) rfl)
theorem dX12_asks_93 : decode cX12_asks 93 = .ok (.bipush 6, 2) := dgX12_asks_1 (93, (.bipush 6, 2)) (List.mem_of_getElem? (i := 18) rfl)
theorem dX12_asks_95 : decode cX12_asks 95 = .ok (.iload_n 3, 1) := dgX12_asks_1 (95, (.iload_n 3, 1)) (List.mem_of_getElem? (i := 19) rfl)
theorem dX12_asks_96 : decode cX12_asks 96 = .ok (.i2l, 1) := dgX12_asks_1 (96, (.i2l, 1)) (List.mem_of_getElem? (i := 20) rfl)
theorem dX12_asks_97 : decode cX12_asks 97 = .ok (.lastore, 1) := dgX12_asks_1 (97, (.lastore, 1)) (List.mem_of_getElem? (i := 21) rfl)
theorem dX12_asks_98 : decode cX12_asks 98 = .ok (.aload_n 0, 1) := dgX12_asks_1 (98, (.aload_n 0, 1)) (List.mem_of_getElem? (i := 22) rfl)
theorem dX12_asks_99 : decode cX12_asks 99 = .ok (.getfield 76, 3) := dgX12_asks_1 (99, (.getfield 76, 3)) (List.mem_of_getElem? (i := 23) rfl)
theorem dX12_asks_102 : decode cX12_asks 102 = .ok (.bipush 7, 2) := dgX12_asks_1 (102, (.bipush 7, 2)) (List.mem_of_getElem? (i := 24) rfl)
theorem dX12_asks_104 : decode cX12_asks 104 = .ok (.aload_n 0, 1) := dgX12_asks_1 (104, (.aload_n 0, 1)) (List.mem_of_getElem? (i := 25) rfl)
theorem dX12_asks_105 : decode cX12_asks 105 = .ok (.getfield 358, 3) := dgX12_asks_1 (105, (.getfield 358, 3)) (List.mem_of_getElem? (i := 26) rfl)
theorem dX12_asks_108 : decode cX12_asks 108 = .ok (.i2l, 1) := dgX12_asks_1 (108, (.i2l, 1)) (List.mem_of_getElem? (i := 27) rfl)
theorem dX12_asks_109 : decode cX12_asks 109 = .ok (.lastore, 1) := dgX12_asks_1 (109, (.lastore, 1)) (List.mem_of_getElem? (i := 28) rfl)
theorem dX12_asks_110 : decode cX12_asks 110 = .ok (.aload_n 0, 1) := dgX12_asks_1 (110, (.aload_n 0, 1)) (List.mem_of_getElem? (i := 29) rfl)
theorem dX12_asks_111 : decode cX12_asks 111 = .ok (.getfield 76, 3) := dgX12_asks_1 (111, (.getfield 76, 3)) (List.mem_of_getElem? (i := 30) rfl)
theorem dX12_asks_114 : decode cX12_asks 114 = .ok (.bipush 8, 2) := dgX12_asks_1 (114, (.bipush 8, 2)) (List.mem_of_getElem? (i := 31) rfl)
theorem dX12_asks_116 : decode cX12_asks 116 = .ok (.aload_n 0, 1) := dgX12_asks_1 (116, (.aload_n 0, 1)) (List.mem_of_getElem? (i := 32) rfl)
theorem dX12_asks_117 : decode cX12_asks 117 = .ok (.getfield 361, 3) := dgX12_asks_1 (117, (.getfield 361, 3)) (List.mem_of_getElem? (i := 33) rfl)
theorem dX12_asks_120 : decode cX12_asks 120 = .ok (.sipush 1000, 3) := dgX12_asks_1 (120, (.sipush 1000, 3)) (List.mem_of_getElem? (i := 34) rfl)
theorem dX12_asks_123 : decode cX12_asks 123 = .ok (.idiv, 1) := dgX12_asks_1 (123, (.idiv, 1)) (List.mem_of_getElem? (i := 35) rfl)
theorem dX12_asks_124 : decode cX12_asks 124 = .ok (.i2l, 1) := dgX12_asks_1 (124, (.i2l, 1)) (List.mem_of_getElem? (i := 36) rfl)
theorem dX12_asks_125 : decode cX12_asks 125 = .ok (.lastore, 1) := dgX12_asks_1 (125, (.lastore, 1)) (List.mem_of_getElem? (i := 37) rfl)
theorem dX12_asks_126 : decode cX12_asks 126 = .ok (.iload 4, 2) := dgX12_asks_1 (126, (.iload 4, 2)) (List.mem_of_getElem? (i := 38) rfl)
theorem dX12_asks_128 : decode cX12_asks 128 = .ok (.i2l, 1) := dgX12_asks_1 (128, (.i2l, 1)) (List.mem_of_getElem? (i := 39) rfl)
theorem dgX12_asks_2 : ∀ r ∈ ([(129, (.lstore 6, 2)), (131, (.iconst 0, 1)), (132, (.istore 8, 2)), (134, (.iload 8, 2)), (136, (.aload_n 0, 1)), (137, (.getfield 13, 3)), (140, (.aload_n 0, 1)), (141, (.getfield 329, 3)), (144, (.iconst 1, 1)), (145, (.iadd, 1)), (146, (.iaload, 1)), (147, (.if_icmp .ge 58, 3)), (150, (.aload_n 0, 1)), (151, (.getfield 329, 3)), (154, (.iconst 2, 1)), (155, (.iadd, 1)), (156, (.bipush 8, 2)), (158, (.iload 8, 2)), (160, (.imul, 1)), (161, (.iadd, 1)), (162, (.istore 9, 2)), (164, (.aload_n 0, 1)), (165, (.getfield 13, 3)), (168, (.iload 9, 2)), (170, (.iaload, 1)), (171, (.iload_n 1, 1)), (172, (.if_icmp .ne 27, 3)), (175, (.aload_n 0, 1)), (176, (.iload 9, 2)), (178, (.invokevirtual 364, 3)), (181, (.ifCond .eq 18, 3)), (184, (.iload_n 1, 1)), (185, (.iconst 2, 1)), (186, (.if_icmp .ge 10, 3)), (189, (.aload_n 0, 1)), (190, (.getfield 346, 3)), (193, (.goto 4, 3)), (196, (.lconst 1, 1)), (197, (.lstore 6, 2)), (199, (.iinc 8 1, 3))] : List (Nat × (Instr × Nat))), decode cX12_asks r.1 = .ok r.2 := by decide +kernel
theorem dX12_asks_129 : decode cX12_asks 129 = .ok (.lstore 6, 2) := dgX12_asks_2 (129, (.lstore 6, 2)) (List.mem_of_getElem? (i := 0) rfl)
theorem dX12_asks_131 : decode cX12_asks 131 = .ok (.iconst 0, 1) := dgX12_asks_2 (131, (.iconst 0, 1)) (List.mem_of_getElem? (i := 1) rfl)
theorem dX12_asks_132 : decode cX12_asks 132 = .ok (.istore 8, 2) := dgX12_asks_2 (132, (.istore 8, 2)) (List.mem_of_getElem? (i := 2) rfl)
theorem dX12_asks_134 : decode cX12_asks 134 = .ok (.iload 8, 2) := dgX12_asks_2 (134, (.iload 8, 2)) (List.mem_of_getElem? (i := 3) rfl)
theorem dX12_asks_136 : decode cX12_asks 136 = .ok (.aload_n 0, 1) := dgX12_asks_2 (136, (.aload_n 0, 1)) (List.mem_of_getElem? (i := 4) rfl)
theorem dX12_asks_137 : decode cX12_asks 137 = .ok (.getfield 13, 3) := dgX12_asks_2 (137, (.getfield 13, 3)) (List.mem_of_getElem? (i := 5) rfl)
theorem dX12_asks_140 : decode cX12_asks 140 = .ok (.aload_n 0, 1) := dgX12_asks_2 (140, (.aload_n 0, 1)) (List.mem_of_getElem? (i := 6) rfl)
theorem dX12_asks_141 : decode cX12_asks 141 = .ok (.getfield 329, 3) := dgX12_asks_2 (141, (.getfield 329, 3)) (List.mem_of_getElem? (i := 7) rfl)
theorem dX12_asks_144 : decode cX12_asks 144 = .ok (.iconst 1, 1) := dgX12_asks_2 (144, (.iconst 1, 1)) (List.mem_of_getElem? (i := 8) rfl)
theorem dX12_asks_145 : decode cX12_asks 145 = .ok (.iadd, 1) := dgX12_asks_2 (145, (.iadd, 1)) (List.mem_of_getElem? (i := 9) rfl)
theorem dX12_asks_146 : decode cX12_asks 146 = .ok (.iaload, 1) := dgX12_asks_2 (146, (.iaload, 1)) (List.mem_of_getElem? (i := 10) rfl)
theorem dX12_asks_147 : decode cX12_asks 147 = .ok (.if_icmp .ge 58, 3) := dgX12_asks_2 (147, (.if_icmp .ge 58, 3)) (List.mem_of_getElem? (i := 11) rfl)
theorem dX12_asks_150 : decode cX12_asks 150 = .ok (.aload_n 0, 1) := dgX12_asks_2 (150, (.aload_n 0, 1)) (List.mem_of_getElem? (i := 12) rfl)
theorem dX12_asks_151 : decode cX12_asks 151 = .ok (.getfield 329, 3) := dgX12_asks_2 (151, (.getfield 329, 3)) (List.mem_of_getElem? (i := 13) rfl)
theorem dX12_asks_154 : decode cX12_asks 154 = .ok (.iconst 2, 1) := dgX12_asks_2 (154, (.iconst 2, 1)) (List.mem_of_getElem? (i := 14) rfl)
theorem dX12_asks_155 : decode cX12_asks 155 = .ok (.iadd, 1) := dgX12_asks_2 (155, (.iadd, 1)) (List.mem_of_getElem? (i := 15) rfl)
theorem dX12_asks_156 : decode cX12_asks 156 = .ok (.bipush 8, 2) := dgX12_asks_2 (156, (.bipush 8, 2)) (List.mem_of_getElem? (i := 16) rfl)
theorem dX12_asks_158 : decode cX12_asks 158 = .ok (.iload 8, 2) := dgX12_asks_2 (158, (.iload 8, 2)) (List.mem_of_getElem? (i := 17) rfl)
theorem dX12_asks_160 : decode cX12_asks 160 = .ok (.imul, 1) := dgX12_asks_2 (160, (.imul, 1)) (List.mem_of_getElem? (i := 18) rfl)
theorem dX12_asks_161 : decode cX12_asks 161 = .ok (.iadd, 1) := dgX12_asks_2 (161, (.iadd, 1)) (List.mem_of_getElem? (i := 19) rfl)
theorem dX12_asks_162 : decode cX12_asks 162 = .ok (.istore 9, 2) := dgX12_asks_2 (162, (.istore 9, 2)) (List.mem_of_getElem? (i := 20) rfl)
theorem dX12_asks_164 : decode cX12_asks 164 = .ok (.aload_n 0, 1) := dgX12_asks_2 (164, (.aload_n 0, 1)) (List.mem_of_getElem? (i := 21) rfl)
theorem dX12_asks_165 : decode cX12_asks 165 = .ok (.getfield 13, 3) := dgX12_asks_2 (165, (.getfield 13, 3)) (List.mem_of_getElem? (i := 22) rfl)
theorem dX12_asks_168 : decode cX12_asks 168 = .ok (.iload 9, 2) := dgX12_asks_2 (168, (.iload 9, 2)) (List.mem_of_getElem? (i := 23) rfl)
theorem dX12_asks_170 : decode cX12_asks 170 = .ok (.iaload, 1) := dgX12_asks_2 (170, (.iaload, 1)) (List.mem_of_getElem? (i := 24) rfl)
theorem dX12_asks_171 : decode cX12_asks 171 = .ok (.iload_n 1, 1) := dgX12_asks_2 (171, (.iload_n 1, 1)) (List.mem_of_getElem? (i := 25) rfl)
theorem dX12_asks_172 : decode cX12_asks 172 = .ok (.if_icmp .ne 27, 3) := dgX12_asks_2 (172, (.if_icmp .ne 27, 3)) (List.mem_of_getElem? (i := 26) rfl)
theorem dX12_asks_175 : decode cX12_asks 175 = .ok (.aload_n 0, 1) := dgX12_asks_2 (175, (.aload_n 0, 1)) (List.mem_of_getElem? (i := 27) rfl)
theorem dX12_asks_176 : decode cX12_asks 176 = .ok (.iload 9, 2) := dgX12_asks_2 (176, (.iload 9, 2)) (List.mem_of_getElem? (i := 28) rfl)
theorem dX12_asks_178 : decode cX12_asks 178 = .ok (.invokevirtual 364, 3) := dgX12_asks_2 (178, (.invokevirtual 364, 3)) (List.mem_of_getElem? (i := 29) rfl)
theorem dX12_asks_181 : decode cX12_asks 181 = .ok (.ifCond .eq 18, 3) := dgX12_asks_2 (181, (.ifCond .eq 18, 3)) (List.mem_of_getElem? (i := 30) rfl)
theorem dX12_asks_184 : decode cX12_asks 184 = .ok (.iload_n 1, 1) := dgX12_asks_2 (184, (.iload_n 1, 1)) (List.mem_of_getElem? (i := 31) rfl)
theorem dX12_asks_185 : decode cX12_asks 185 = .ok (.iconst 2, 1) := dgX12_asks_2 (185, (.iconst 2, 1)) (List.mem_of_getElem? (i := 32) rfl)
theorem dX12_asks_186 : decode cX12_asks 186 = .ok (.if_icmp .ge 10, 3) := dgX12_asks_2 (186, (.if_icmp .ge 10, 3)) (List.mem_of_getElem? (i := 33) rfl)
theorem dX12_asks_189 : decode cX12_asks 189 = .ok (.aload_n 0, 1) := dgX12_asks_2 (189, (.aload_n 0, 1)) (List.mem_of_getElem? (i := 34) rfl)
theorem dX12_asks_190 : decode cX12_asks 190 = .ok (.getfield 346, 3) := dgX12_asks_2 (190, (.getfield 346, 3)) (List.mem_of_getElem? (i := 35) rfl)
theorem dX12_asks_193 : decode cX12_asks 193 = .ok (.goto 4, 3) := dgX12_asks_2 (193, (.goto 4, 3)) (List.mem_of_getElem? (i := 36) rfl)
theorem dX12_asks_196 : decode cX12_asks 196 = .ok (.lconst 1, 1) := dgX12_asks_2 (196, (.lconst 1, 1)) (List.mem_of_getElem? (i := 37) rfl)
theorem dX12_asks_197 : decode cX12_asks 197 = .ok (.lstore 6, 2) := dgX12_asks_2 (197, (.lstore 6, 2)) (List.mem_of_getElem? (i := 38) rfl)
theorem dX12_asks_199 : decode cX12_asks 199 = .ok (.iinc 8 1, 3) := dgX12_asks_2 (199, (.iinc 8 1, 3)) (List.mem_of_getElem? (i := 39) rfl)
theorem dgX12_asks_3 : ∀ r ∈ ([(202, (.goto (-68), 3)), (205, (.lload 6, 2)), (207, (.lconst 0, 1)), (208, (.lcmp, 1)), (209, (.ifCond .ge 7, 3)), (212, (.iconst 0, 1)), (213, (.goto 20, 3)), (216, (.lload 6, 2)), (218, (.iload 5, 2)), (220, (.i2l, 1)), (221, (.lcmp, 1)), (222, (.ifCond .le 8, 3)), (225, (.iload 5, 2)), (227, (.goto 6, 3)), (230, (.lload 6, 2)), (232, (.l2i, 1)), (233, (.ireturn, 1))] : List (Nat × (Instr × Nat))), decode cX12_asks r.1 = .ok r.2 := by decide +kernel
theorem dX12_asks_202 : decode cX12_asks 202 = .ok (.goto (-68), 3) := dgX12_asks_3 (202, (.goto (-68), 3)) (List.mem_of_getElem? (i := 0) rfl)
theorem dX12_asks_205 : decode cX12_asks 205 = .ok (.lload 6, 2) := dgX12_asks_3 (205, (.lload 6, 2)) (List.mem_of_getElem? (i := 1) rfl)
theorem dX12_asks_207 : decode cX12_asks 207 = .ok (.lconst 0, 1) := dgX12_asks_3 (207, (.lconst 0, 1)) (List.mem_of_getElem? (i := 2) rfl)
theorem dX12_asks_208 : decode cX12_asks 208 = .ok (.lcmp, 1) := dgX12_asks_3 (208, (.lcmp, 1)) (List.mem_of_getElem? (i := 3) rfl)
theorem dX12_asks_209 : decode cX12_asks 209 = .ok (.ifCond .ge 7, 3) := dgX12_asks_3 (209, (.ifCond .ge 7, 3)) (List.mem_of_getElem? (i := 4) rfl)
theorem dX12_asks_212 : decode cX12_asks 212 = .ok (.iconst 0, 1) := dgX12_asks_3 (212, (.iconst 0, 1)) (List.mem_of_getElem? (i := 5) rfl)
theorem dX12_asks_213 : decode cX12_asks 213 = .ok (.goto 20, 3) := dgX12_asks_3 (213, (.goto 20, 3)) (List.mem_of_getElem? (i := 6) rfl)
theorem dX12_asks_216 : decode cX12_asks 216 = .ok (.lload 6, 2) := dgX12_asks_3 (216, (.lload 6, 2)) (List.mem_of_getElem? (i := 7) rfl)
theorem dX12_asks_218 : decode cX12_asks 218 = .ok (.iload 5, 2) := dgX12_asks_3 (218, (.iload 5, 2)) (List.mem_of_getElem? (i := 8) rfl)
theorem dX12_asks_220 : decode cX12_asks 220 = .ok (.i2l, 1) := dgX12_asks_3 (220, (.i2l, 1)) (List.mem_of_getElem? (i := 9) rfl)
theorem dX12_asks_221 : decode cX12_asks 221 = .ok (.lcmp, 1) := dgX12_asks_3 (221, (.lcmp, 1)) (List.mem_of_getElem? (i := 10) rfl)
theorem dX12_asks_222 : decode cX12_asks 222 = .ok (.ifCond .le 8, 3) := dgX12_asks_3 (222, (.ifCond .le 8, 3)) (List.mem_of_getElem? (i := 11) rfl)
theorem dX12_asks_225 : decode cX12_asks 225 = .ok (.iload 5, 2) := dgX12_asks_3 (225, (.iload 5, 2)) (List.mem_of_getElem? (i := 12) rfl)
theorem dX12_asks_227 : decode cX12_asks 227 = .ok (.goto 6, 3) := dgX12_asks_3 (227, (.goto 6, 3)) (List.mem_of_getElem? (i := 13) rfl)
theorem dX12_asks_230 : decode cX12_asks 230 = .ok (.lload 6, 2) := dgX12_asks_3 (230, (.lload 6, 2)) (List.mem_of_getElem? (i := 14) rfl)
theorem dX12_asks_232 : decode cX12_asks 232 = .ok (.l2i, 1) := dgX12_asks_3 (232, (.l2i, 1)) (List.mem_of_getElem? (i := 15) rfl)
theorem dX12_asks_233 : decode cX12_asks 233 = .ok (.ireturn, 1) := dgX12_asks_3 (233, (.ireturn, 1)) (List.mem_of_getElem? (i := 16) rfl)
theorem fl_X12_349 : Cond.fieldLink RX12 349 "LateGlassModel" "cell" "I" ∈ tblG := tg 1236 (by decide +kernel) (by decide +kernel)
theorem fl_X12_352 : Cond.fieldLink RX12 352 "LateGlassModel" "hour" "I" ∈ tblG := tg 1237 (by decide +kernel) (by decide +kernel)
theorem fl_X12_355 : Cond.fieldLink RX12 355 "LateGlassModel" "way" "I" ∈ tblG := tg 1238 (by decide +kernel) (by decide +kernel)
theorem fl_X12_358 : Cond.fieldLink RX12 358 "LateGlassModel" "points" "I" ∈ tblG := tg 1240 (by decide +kernel) (by decide +kernel)
theorem fl_X12_361 : Cond.fieldLink RX12 361 "LateGlassModel" "bright" "I" ∈ tblG := tg 1239 (by decide +kernel) (by decide +kernel)
theorem ml_X12_364 : Cond.methodLink RX12 364 yX12_isSo ∈ tblG := tg 1626 (by decide +kernel) (by decide +kernel)
theorem im_X12_isSo : Cond.instanceMethod yX12_isSo ∈ tblG := tg 1628 (by decide +kernel) (by decide +kernel)
theorem se_X12_isSo : Cond.selects RX12 yX12_isSo yX12_isSo ∈ tblG := tg 65 (by decide +kernel) (by decide +kernel)
theorem cd_X12_isSo : Cond.code yX12_isSo cX12_isSo 2 (some .boolean) ∈ tblG := tg 1629 (by decide +kernel) (by decide +kernel)
theorem gW_X12_isSo : GoodIn tblG (wsG yX12_isSo cX12_isSo 2 (some .boolean)) := tgi cd_X12_isSo
theorem gV_X12_364 : GoodIn tblG (wsV RX12 364 RX12 yX12_isSo (wsG yX12_isSo cX12_isSo 2 (some .boolean))) := tgV ml_X12_364 im_X12_isSo se_X12_isSo ini_X12 gW_X12_isSo
theorem hv_X12_isSo : yX12_isSo.cls = RX12 ∧ yX12_isSo.cls ≠ "java/lang/invoke/MethodHandle" ∧ yX12_isSo.cls ≠ "java/lang/invoke/VarHandle" ∧ (parseMethodDescriptor yX12_isSo.desc).map (fun d => d.parameters.length) = some 1 := by decide +kernel
set_option maxHeartbeats 4000000 in
set_option maxRecDepth 100000 in
theorem n_asks (l : Launch) (G : g5_G) (b_o b_ro b_se b_re b_rf b_im b_ke b_tp b_nl b_op b_ar b_pi b_pa b_ws b_hw b_pt b_ip b_ah b_be b_me b_tr b_ld b_wn : Nat) (sz : Nat) (u_th : Int32) (u_sa : Int32) (u_fd : Int32) (u_td : Int32) (u_fr : Int32) (u_to : Int32) (u_so : Int32) (u_fa : Int32) (u_bd : Int32) (u_nc : Int32) (u_co : Int32) (u_le : Int32) (u_pd : Int32) (u_od : Int32) (u_la : Int32) (u_bk : Int32) (u_ce : Int32) (u_ho : Int32) (u_wy : Int32) (u_bt : Int32) (u_ps : Int32) (u_tg : Int32) (u_sn : Int32) (u_ic : Int32) (u_wd : Int32) (u_id : Int32) (p_1 : Int32) (p_2 : Int32) (p_3 : Int32) (p_4 : Int32) (p_5 : Int32) (u_wo : Int64) (u_va : Int64) (u_su : Int64) (u_st : Int64) (v_ro : Nat → Int32) (v_se : Nat → Int64) (v_re : Nat → Int64) (h_u_td : 0 ≤ u_td.toInt ∧ u_td.toInt ≤ 400) (h_u_fr : 0 ≤ u_fr.toInt ∧ u_fr.toInt ≤ 400) (h_u_to : 0 ≤ u_to.toInt ∧ u_to.toInt ≤ 400) (h_u_bd : 0 ≤ u_bd.toInt ∧ u_bd.toInt ≤ 1) (h_u_nc : 0 ≤ u_nc.toInt ∧ u_nc.toInt ≤ 12) (h_u_co : 0 ≤ u_co.toInt ∧ u_co.toInt ≤ 400) (h_u_pd : 0 ≤ u_pd.toInt ∧ u_pd.toInt ≤ 400) (h_u_la : 0 ≤ u_la.toInt ∧ u_la.toInt ≤ 4840) (h_u_bk : 0 ≤ u_bk.toInt ∧ u_bk.toInt ≤ 1) (h_u_ce : 0 ≤ u_ce.toInt ∧ u_ce.toInt ≤ 63) (h_u_ho : 0 ≤ u_ho.toInt ∧ u_ho.toInt ≤ 23) (h_u_wy : 0 ≤ u_wy.toInt ∧ u_wy.toInt ≤ 3) (h_u_bt : 0 ≤ u_bt.toInt ∧ u_bt.toInt ≤ 1000000) (h_u_ps : 0 ≤ u_ps.toInt ∧ u_ps.toInt ≤ 200) (h_u_ic : 0 ≤ u_ic.toInt ∧ u_ic.toInt ≤ 1) (h_u_id : 0 ≤ u_id.toInt ∧ u_id.toInt ≤ 1) (h_p_4 : 0 ≤ p_4.toInt ∧ p_4.toInt ≤ 23) (h_p_5 : 0 ≤ p_5.toInt ∧ p_5.toInt ≤ 23) (r_ro : MI v_ro) (e_wm : p_4.toInt ≤ p_5.toInt) : Met l yX12_asks (wsG yX12_asks cX12_asks 10 (some .int)) ({ frames := 3, cells := 0, slots := 0, locals := 72 }) (va_Pc [.ref b_o, .int p_1, .int p_2, .int p_3, .int p_4, .int p_5] (g5_P G [(b_o, (oc12 u_th u_sa b_rf b_ro b_im b_ke u_fd b_tp u_td u_fr u_to u_so u_wo u_fa u_bd u_nc b_nl u_co b_op b_ar u_le b_pi b_pa u_pd u_od b_ws b_hw u_la b_se b_re u_bk u_va u_su u_ce u_ho u_wy u_bt u_ps b_pt u_tg u_sn b_ip u_ic b_ah b_be b_me u_wd b_tr b_ld u_st b_wn u_id)), (b_ro, (arI G 5740 v_ro)), (b_se, (arJ G 13 v_se)), (b_re, (arJ G 400 v_re))] sz)) (va_Qi (fun (r : Int32) (u : va_W) => (∃ (o_r : Int32) (o_la : Int32) (o_bk : Int32) (o_va : Int64) (o_su : Int64) (o_se : Nat → Int64) (o_re : Nat → Int64), (0 ≤ o_r.toInt ∧ o_r.toInt ≤ 23) ∧ (0 ≤ o_r.toInt ∧ o_r.toInt ≤ p_5.toInt) ∧ (0 ≤ o_la.toInt ∧ o_la.toInt ≤ 4840) ∧ (0 ≤ o_bk.toInt ∧ o_bk.toInt ≤ 1) ∧ (r = o_r) ∧ (u = [(b_o, (oc12 u_th u_sa b_rf b_ro b_im b_ke u_fd b_tp u_td u_fr u_to u_so u_wo u_fa u_bd u_nc b_nl u_co b_op b_ar u_le b_pi b_pa u_pd u_od b_ws b_hw o_la b_se b_re o_bk o_va o_su u_ce u_ho u_wy u_bt u_ps b_pt u_tg u_sn b_ip u_ic b_ah b_be b_me u_wd b_tr b_ld u_st b_wn u_id)), (b_ro, (arI G 5740 v_ro)), (b_se, (arJ G 13 o_se)), (b_re, (arJ G 400 o_re))]))) (g5_B G (va_A [(b_o, (oc12 u_th u_sa b_rf b_ro b_im b_ke u_fd b_tp u_td u_fr u_to u_so u_wo u_fa u_bd u_nc b_nl u_co b_op b_ar u_le b_pi b_pa u_pd u_od b_ws b_hw u_la b_se b_re u_bk u_va u_su u_ce u_ho u_wy u_bt u_ps b_pt u_tg u_sn b_ip u_ic b_ah b_be b_me u_wd b_tr b_ld u_st b_wn u_id)), (b_ro, (arI G 5740 v_ro)), (b_se, (arJ G 13 v_se)), (b_re, (arJ G 400 v_re))] sz)) (va_A [(b_o, (oc12 u_th u_sa b_rf b_ro b_im b_ke u_fd b_tp u_td u_fr u_to u_so u_wo u_fa u_bd u_nc b_nl u_co b_op b_ar u_le b_pi b_pa u_pd u_od b_ws b_hw u_la b_se b_re u_bk u_va u_su u_ce u_ho u_wy u_bt u_ps b_pt u_tg u_sn b_ip u_ic b_ah b_be b_me u_wd b_tr b_ld u_st b_wn u_id)), (b_ro, (arI G 5740 v_ro)), (b_se, (arJ G 13 v_se)), (b_re, (arJ G 400 v_re))] sz)) 0 0 (va_A [(b_o, (oc12 u_th u_sa b_rf b_ro b_im b_ke u_fd b_tp u_td u_fr u_to u_so u_wo u_fa u_bd u_nc b_nl u_co b_op b_ar u_le b_pi b_pa u_pd u_od b_ws b_hw u_la b_se b_re u_bk u_va u_su u_ce u_ho u_wy u_bt u_ps b_pt u_tg u_sn b_ip u_ic b_ah b_be b_me u_wd b_tr b_ld u_st b_wn u_id)), (b_ro, (arI G 5740 v_ro)), (b_se, (arJ G 13 v_se)), (b_re, (arJ G 400 v_re))] sz) := by
  refine Met.ofW (cc := cX12_asks) (maxL := 10) (ret := (some .int)) (by decide +kernel) rfl ?_
  intro p e s m args below meth c s₁ B hml hv
  obtain ⟨rfl, hsz, hP, hK, hD0, hN, hT⟩ := hv
  have hx := B.exec
  have hb := B.bytes
  have hr := B.returns
  have hts : ∀ w ∈ tblG, w.before _ s = true := fun w h => atoms_spec (ws := (wsG yX12_asks cX12_asks 10 (some .int))) B.pre w (List.mem_cons_of_mem _ h)
  have hown : s.vm.findClass RX12 = some m.cls := findClass_of_methodNamed B.named
  have hlocks := B.notSynchronized
  subst hsz
  have hD := hD0.self (sz := s.heap.size)
  generalize hAe : va_A [(b_o, (oc12 u_th u_sa b_rf b_ro b_im b_ke u_fd b_tp u_td u_fr u_to u_so u_wo u_fa u_bd u_nc b_nl u_co b_op b_ar u_le b_pi b_pa u_pd u_od b_ws b_hw u_la b_se b_re u_bk u_va u_su u_ce u_ho u_wy u_bt u_ps b_pt u_tg u_sn b_ip u_ic b_ah b_be b_me u_wd b_tr b_ld u_st b_wn u_id)), (b_ro, (arI G 5740 v_ro)), (b_se, (arJ G 13 v_se)), (b_re, (arJ G 400 v_re))] s.heap.size = A at hD hT ⊢
  have hA : ∀ q : Nat, s.heap.size ≤ q → A q := fun q h => by rw [← hAe]; exact Or.inr h
  have hS : va_S A s.heap s.heap [] := va_S.rf
  replace hP : va_P G.1 vwCl [(b_o, (oc12 u_th u_sa b_rf b_ro b_im b_ke u_fd b_tp u_td u_fr u_to u_so u_wo u_fa u_bd u_nc b_nl u_co b_op b_ar u_le b_pi b_pa u_pd u_od b_ws b_hw u_la b_se b_re u_bk u_va u_su u_ce u_ho u_wy u_bt u_ps b_pt u_tg u_sn b_ip u_ic b_ah b_be b_me u_wd b_tr b_ld u_st b_wn u_id)), (b_ro, (arI G 5740 v_ro)), (b_se, (arJ G 13 v_se)), (b_re, (arJ G 400 v_re))] s.heap := hP
  have hl := lv_entry ([.ref b_o, .int p_1, .int p_2, .int p_3, .int p_4, .int p_5]) (n := 10) (Nat.le_of_ble_eq_true rfl)
  rw [lg_entry_eq]
  generalize (lg_sl ([.ref b_o, .int p_1, .int p_2, .int p_3, .int p_4, .int p_5]) ++ List.replicate (10 - (lg_sl ([.ref b_o, .int p_1, .int p_2, .int p_3, .int p_4, .int p_5])).length) Slot.unset).toArray = ls at hl ⊢
  replace hl : lv_has ls 10 [(0, .ref b_o), (1, .int p_1), (2, .int p_2), (3, .int p_3), (4, .int p_4), (5, .int p_5)] := hl
  refine lv_aload_n hx hb dX12_asks_0 rfl (lv_at hl 0 rfl) ?_
  refine va_get (D := G.1) (ci := 12) (v := .ref b_ro) (C := RX12) (T := TX12) (N := 52) hx hb hts inG_X12 hown hK hP 0 rfl rfl 3 (by decide +kernel) (hts _ fl_X12_13) (fun _ h9 => h9) rfl dX12_asks_1 ?_
  refine lv_iconst (v := 3) hx hb dX12_asks_4 (by decide +kernel) ?_
  refine va_iald hx hb hK hP 1 0 rfl rfl (i := 3) (by unfold vp_in; decide) dX12_asks_5 ?_
  refine g5_ti (v := (v_ro 3)) rfl ?_
  have hr_1 : (-1) ≤ (v_ro 3).toInt ∧ (v_ro 3).toInt ≤ 5 := mi_3 r_ro
  refine lv_iconst (v := (-1)) hx hb dX12_asks_6 (by decide +kernel) ?_
  refine lv_icmp_ne (tgt := 13) hx hb dX12_asks_7 (by decide +kernel) (fun c_2 => ?_) (fun c_2 => ?_)
  ·
    have n_2 : gNe ((v_ro 3).toInt) ((-1)) := g5_ne (a := (v_ro 3).toInt) (b := (-1)) rfl (by decide +kernel) c_2
    have i_2 : (v_ro 3).toInt ≥ 0 := by have z := g5_ne (a := (v_ro 3).toInt) (b := (-1)) (by rfl) (by decide +kernel) c_2; omega
    refine lv_aload_n hx hb dX12_asks_13 rfl (lv_at hl 0 rfl) ?_
    refine lv_sipush (v := 340) hx hb dX12_asks_14 (by decide +kernel) ?_
    refine lv_sipush (v := 900) hx hb dX12_asks_17 (by decide +kernel) ?_
    refine lv_aload_n hx hb dX12_asks_20 rfl (lv_at hl 0 rfl) ?_
    refine va_get (D := G.1) (ci := 12) (v := .ref b_ro) (C := RX12) (T := TX12) (N := 52) hx hb hts inG_X12 hown hK hP 0 rfl rfl 3 (by decide +kernel) (hts _ fl_X12_13) (fun _ h9 => h9) rfl dX12_asks_21 ?_
    refine lv_iconst (v := 3) hx hb dX12_asks_24 (by decide +kernel) ?_
    refine va_iald hx hb hK hP 1 0 rfl rfl (i := 3) (by unfold vp_in; decide) dX12_asks_25 ?_
    refine g5_ti (v := (v_ro 3)) rfl ?_
    have hr_3 : (-1) ≤ (v_ro 3).toInt ∧ (v_ro 3).toInt ≤ 5 := mi_3 r_ro
    refine lv_imul hx hb dX12_asks_26 ?_
    have t_4 : (900 * (v_ro 3)).toInt = 900 * (v_ro 3).toInt := g5_imul (a := 900) (b := (v_ro 3).toInt) (by decide +kernel) (by rfl) (by omega) (by omega)
    refine lv_iadd hx hb dX12_asks_27 ?_
    have t_5 : (340 + (900 * (v_ro 3))).toInt = 340 + (900 * (v_ro 3)).toInt := g5_iadd (a := 340) (b := (900 * (v_ro 3)).toInt) (by decide +kernel) (by rfl) (by omega) (by omega)
    refine va_put (D := G.1) (ci := 12) (v := .int (340 + (900 * (v_ro 3)))) (ty := .int) (C := RX12) (T := TX12) (N := 52) hx hb hts inG_X12 tyX12 tyX12_ok nmX12 hown hK hP hD hS 0 rfl rfl 27 (by decide +kernel) (hts _ fl_X12_329) (fun _ h9 => h9) rfl (by decide +kernel) rfl rfl (Nat.le_of_ble_eq_true rfl) dX12_asks_28 ?_
    clear hP hD hS
    intro H locs hP hD hS
    refine g5_rs [(b_o, (oc12 u_th u_sa b_rf b_ro b_im b_ke u_fd b_tp u_td u_fr u_to u_so u_wo u_fa u_bd u_nc b_nl u_co b_op b_ar u_le b_pi b_pa u_pd u_od b_ws b_hw (340 + (900 * (v_ro 3))) b_se b_re u_bk u_va u_su u_ce u_ho u_wy u_bt u_ps b_pt u_tg u_sn b_ip u_ic b_ah b_be b_me u_wd b_tr b_ld u_st b_wn u_id)), (b_ro, (arI G 5740 v_ro)), (b_se, (arJ G 13 v_se)), (b_re, (arJ G 400 v_re))] hP hD ?_
    clear hP hD
    intro hP hD
    refine lv_aload_n hx hb dX12_asks_31 rfl (lv_at hl 0 rfl) ?_
    refine va_get (D := G.1) (ci := 12) (v := .ref b_se) (C := RX12) (T := TX12) (N := 52) hx hb hts inG_X12 hown hK hP 0 rfl rfl 28 (by decide +kernel) (hts _ fl_X12_76) (fun _ h9 => h9) rfl dX12_asks_32 ?_
    refine lv_iconst (v := 1) hx hb dX12_asks_35 (by decide +kernel) ?_
    refine lv_iload_n hx hb dX12_asks_36 rfl (lv_at hl 2 rfl) ?_
    refine lv_i2l (v := p_2.toInt64) hx hb dX12_asks_37 rfl ?_
    refine va_last hx hb hK hP hD hS 2 1 rfl rfl (i := 1) (x := p_2.toInt64) (by unfold vp_in; decide) dX12_asks_38 ?_
    clear hP hD hS
    intro H locs hP hD hS
    refine g5_rs [(b_o, (oc12 u_th u_sa b_rf b_ro b_im b_ke u_fd b_tp u_td u_fr u_to u_so u_wo u_fa u_bd u_nc b_nl u_co b_op b_ar u_le b_pi b_pa u_pd u_od b_ws b_hw (340 + (900 * (v_ro 3))) b_se b_re u_bk u_va u_su u_ce u_ho u_wy u_bt u_ps b_pt u_tg u_sn b_ip u_ic b_ah b_be b_me u_wd b_tr b_ld u_st b_wn u_id)), (b_ro, (arI G 5740 v_ro)), (b_se, (arJ G 13 (vp_updL v_se 1 p_2.toInt64))), (b_re, (arJ G 400 v_re))] hP hD ?_
    clear hP hD
    intro hP hD
    refine lv_aload_n hx hb dX12_asks_39 rfl (lv_at hl 0 rfl) ?_
    refine va_get (D := G.1) (ci := 12) (v := .ref b_se) (C := RX12) (T := TX12) (N := 52) hx hb hts inG_X12 hown hK hP 0 rfl rfl 28 (by decide +kernel) (hts _ fl_X12_76) (fun _ h9 => h9) rfl dX12_asks_40 ?_
    refine lv_iconst (v := 2) hx hb dX12_asks_43 (by decide +kernel) ?_
    refine lv_aload_n hx hb dX12_asks_44 rfl (lv_at hl 0 rfl) ?_
    refine va_get (D := G.1) (ci := 12) (v := .int u_ce) (C := RX12) (T := TX12) (N := 52) hx hb hts inG_X12 hown hK hP 0 rfl rfl 33 (by decide +kernel) (hts _ fl_X12_349) (fun _ h9 => h9) rfl dX12_asks_45 ?_
    refine lv_bipush (v := 8) hx hb dX12_asks_48 (by decide +kernel) ?_
    refine lv_irem hx hb dX12_asks_50 (by decide +kernel) ?_
    have t_6 : (u_ce - u_ce / 8 * 8).toInt = u_ce.toInt % 8 := g5_irem (a := u_ce.toInt) (b := 8) rfl (by decide +kernel) (by omega) (by decide +kernel)
    refine lv_i2l (v := (u_ce - u_ce / 8 * 8).toInt64) hx hb dX12_asks_51 rfl ?_
    refine va_last hx hb hK hP hD hS 2 1 rfl rfl (i := 2) (x := (u_ce - u_ce / 8 * 8).toInt64) (by unfold vp_in; decide) dX12_asks_52 ?_
    clear hP hD hS
    intro H locs hP hD hS
    refine g5_rs [(b_o, (oc12 u_th u_sa b_rf b_ro b_im b_ke u_fd b_tp u_td u_fr u_to u_so u_wo u_fa u_bd u_nc b_nl u_co b_op b_ar u_le b_pi b_pa u_pd u_od b_ws b_hw (340 + (900 * (v_ro 3))) b_se b_re u_bk u_va u_su u_ce u_ho u_wy u_bt u_ps b_pt u_tg u_sn b_ip u_ic b_ah b_be b_me u_wd b_tr b_ld u_st b_wn u_id)), (b_ro, (arI G 5740 v_ro)), (b_se, (arJ G 13 (vp_updL (vp_updL v_se 1 p_2.toInt64) 2 ((u_ce - u_ce / 8 * 8).toInt64)))), (b_re, (arJ G 400 v_re))] hP hD ?_
    clear hP hD
    intro hP hD
    refine lv_aload_n hx hb dX12_asks_53 rfl (lv_at hl 0 rfl) ?_
    refine va_get (D := G.1) (ci := 12) (v := .ref b_se) (C := RX12) (T := TX12) (N := 52) hx hb hts inG_X12 hown hK hP 0 rfl rfl 28 (by decide +kernel) (hts _ fl_X12_76) (fun _ h9 => h9) rfl dX12_asks_54 ?_
    refine lv_iconst (v := 3) hx hb dX12_asks_57 (by decide +kernel) ?_
    refine lv_aload_n hx hb dX12_asks_58 rfl (lv_at hl 0 rfl) ?_
    refine va_get (D := G.1) (ci := 12) (v := .int u_ce) (C := RX12) (T := TX12) (N := 52) hx hb hts inG_X12 hown hK hP 0 rfl rfl 33 (by decide +kernel) (hts _ fl_X12_349) (fun _ h9 => h9) rfl dX12_asks_59 ?_
    refine lv_bipush (v := 8) hx hb dX12_asks_62 (by decide +kernel) ?_
    refine lv_idiv hx hb dX12_asks_64 (by decide +kernel) ?_
    have t_7 : (u_ce / 8).toInt = u_ce.toInt / 8 := g5_idiv (a := u_ce.toInt) (b := 8) rfl (by decide +kernel) (by omega) (by decide +kernel)
    refine lv_i2l (v := (u_ce / 8).toInt64) hx hb dX12_asks_65 rfl ?_
    refine va_last hx hb hK hP hD hS 2 1 rfl rfl (i := 3) (x := (u_ce / 8).toInt64) (by unfold vp_in; decide) dX12_asks_66 ?_
    clear hP hD hS
    intro H locs hP hD hS
    refine g5_rs [(b_o, (oc12 u_th u_sa b_rf b_ro b_im b_ke u_fd b_tp u_td u_fr u_to u_so u_wo u_fa u_bd u_nc b_nl u_co b_op b_ar u_le b_pi b_pa u_pd u_od b_ws b_hw (340 + (900 * (v_ro 3))) b_se b_re u_bk u_va u_su u_ce u_ho u_wy u_bt u_ps b_pt u_tg u_sn b_ip u_ic b_ah b_be b_me u_wd b_tr b_ld u_st b_wn u_id)), (b_ro, (arI G 5740 v_ro)), (b_se, (arJ G 13 (vp_updL (vp_updL (vp_updL v_se 1 p_2.toInt64) 2 ((u_ce - u_ce / 8 * 8).toInt64)) 3 ((u_ce / 8).toInt64)))), (b_re, (arJ G 400 v_re))] hP hD ?_
    clear hP hD
    intro hP hD
    refine lv_aload_n hx hb dX12_asks_67 rfl (lv_at hl 0 rfl) ?_
    refine va_get (D := G.1) (ci := 12) (v := .ref b_se) (C := RX12) (T := TX12) (N := 52) hx hb hts inG_X12 hown hK hP 0 rfl rfl 28 (by decide +kernel) (hts _ fl_X12_76) (fun _ h9 => h9) rfl dX12_asks_68 ?_
    refine lv_iconst (v := 4) hx hb dX12_asks_71 (by decide +kernel) ?_
    refine lv_aload_n hx hb dX12_asks_72 rfl (lv_at hl 0 rfl) ?_
    refine va_get (D := G.1) (ci := 12) (v := .int u_ho) (C := RX12) (T := TX12) (N := 52) hx hb hts inG_X12 hown hK hP 0 rfl rfl 34 (by decide +kernel) (hts _ fl_X12_352) (fun _ h9 => h9) rfl dX12_asks_73 ?_
    refine lv_i2l (v := u_ho.toInt64) hx hb dX12_asks_76 rfl ?_
    refine va_last hx hb hK hP hD hS 2 1 rfl rfl (i := 4) (x := u_ho.toInt64) (by unfold vp_in; decide) dX12_asks_77 ?_
    clear hP hD hS
    intro H locs hP hD hS
    refine g5_rs [(b_o, (oc12 u_th u_sa b_rf b_ro b_im b_ke u_fd b_tp u_td u_fr u_to u_so u_wo u_fa u_bd u_nc b_nl u_co b_op b_ar u_le b_pi b_pa u_pd u_od b_ws b_hw (340 + (900 * (v_ro 3))) b_se b_re u_bk u_va u_su u_ce u_ho u_wy u_bt u_ps b_pt u_tg u_sn b_ip u_ic b_ah b_be b_me u_wd b_tr b_ld u_st b_wn u_id)), (b_ro, (arI G 5740 v_ro)), (b_se, (arJ G 13 (vp_updL (vp_updL (vp_updL (vp_updL v_se 1 p_2.toInt64) 2 ((u_ce - u_ce / 8 * 8).toInt64)) 3 ((u_ce / 8).toInt64)) 4 u_ho.toInt64))), (b_re, (arJ G 400 v_re))] hP hD ?_
    clear hP hD
    intro hP hD
    refine lv_aload_n hx hb dX12_asks_78 rfl (lv_at hl 0 rfl) ?_
    refine va_get (D := G.1) (ci := 12) (v := .ref b_se) (C := RX12) (T := TX12) (N := 52) hx hb hts inG_X12 hown hK hP 0 rfl rfl 28 (by decide +kernel) (hts _ fl_X12_76) (fun _ h9 => h9) rfl dX12_asks_79 ?_
    refine lv_iconst (v := 5) hx hb dX12_asks_82 (by decide +kernel) ?_
    refine lv_aload_n hx hb dX12_asks_83 rfl (lv_at hl 0 rfl) ?_
    refine va_get (D := G.1) (ci := 12) (v := .int u_wy) (C := RX12) (T := TX12) (N := 52) hx hb hts inG_X12 hown hK hP 0 rfl rfl 35 (by decide +kernel) (hts _ fl_X12_355) (fun _ h9 => h9) rfl dX12_asks_84 ?_
    refine lv_i2l (v := u_wy.toInt64) hx hb dX12_asks_87 rfl ?_
    refine va_last hx hb hK hP hD hS 2 1 rfl rfl (i := 5) (x := u_wy.toInt64) (by unfold vp_in; decide) dX12_asks_88 ?_
    clear hP hD hS
    intro H locs hP hD hS
    refine g5_rs [(b_o, (oc12 u_th u_sa b_rf b_ro b_im b_ke u_fd b_tp u_td u_fr u_to u_so u_wo u_fa u_bd u_nc b_nl u_co b_op b_ar u_le b_pi b_pa u_pd u_od b_ws b_hw (340 + (900 * (v_ro 3))) b_se b_re u_bk u_va u_su u_ce u_ho u_wy u_bt u_ps b_pt u_tg u_sn b_ip u_ic b_ah b_be b_me u_wd b_tr b_ld u_st b_wn u_id)), (b_ro, (arI G 5740 v_ro)), (b_se, (arJ G 13 (vp_updL (vp_updL (vp_updL (vp_updL (vp_updL v_se 1 p_2.toInt64) 2 ((u_ce - u_ce / 8 * 8).toInt64)) 3 ((u_ce / 8).toInt64)) 4 u_ho.toInt64) 5 u_wy.toInt64))), (b_re, (arJ G 400 v_re))] hP hD ?_
    clear hP hD
    intro hP hD
    refine lv_aload_n hx hb dX12_asks_89 rfl (lv_at hl 0 rfl) ?_
    refine va_get (D := G.1) (ci := 12) (v := .ref b_se) (C := RX12) (T := TX12) (N := 52) hx hb hts inG_X12 hown hK hP 0 rfl rfl 28 (by decide +kernel) (hts _ fl_X12_76) (fun _ h9 => h9) rfl dX12_asks_90 ?_
    refine lv_bipush (v := 6) hx hb dX12_asks_93 (by decide +kernel) ?_
    refine lv_iload_n hx hb dX12_asks_95 rfl (lv_at hl 3 rfl) ?_
    refine lv_i2l (v := p_3.toInt64) hx hb dX12_asks_96 rfl ?_
    refine va_last hx hb hK hP hD hS 2 1 rfl rfl (i := 6) (x := p_3.toInt64) (by unfold vp_in; decide) dX12_asks_97 ?_
    clear hP hD hS
    intro H locs hP hD hS
    refine g5_rs [(b_o, (oc12 u_th u_sa b_rf b_ro b_im b_ke u_fd b_tp u_td u_fr u_to u_so u_wo u_fa u_bd u_nc b_nl u_co b_op b_ar u_le b_pi b_pa u_pd u_od b_ws b_hw (340 + (900 * (v_ro 3))) b_se b_re u_bk u_va u_su u_ce u_ho u_wy u_bt u_ps b_pt u_tg u_sn b_ip u_ic b_ah b_be b_me u_wd b_tr b_ld u_st b_wn u_id)), (b_ro, (arI G 5740 v_ro)), (b_se, (arJ G 13 (vp_updL (vp_updL (vp_updL (vp_updL (vp_updL (vp_updL v_se 1 p_2.toInt64) 2 ((u_ce - u_ce / 8 * 8).toInt64)) 3 ((u_ce / 8).toInt64)) 4 u_ho.toInt64) 5 u_wy.toInt64) 6 p_3.toInt64))), (b_re, (arJ G 400 v_re))] hP hD ?_
    clear hP hD
    intro hP hD
    refine lv_aload_n hx hb dX12_asks_98 rfl (lv_at hl 0 rfl) ?_
    refine va_get (D := G.1) (ci := 12) (v := .ref b_se) (C := RX12) (T := TX12) (N := 52) hx hb hts inG_X12 hown hK hP 0 rfl rfl 28 (by decide +kernel) (hts _ fl_X12_76) (fun _ h9 => h9) rfl dX12_asks_99 ?_
    refine lv_bipush (v := 7) hx hb dX12_asks_102 (by decide +kernel) ?_
    refine lv_aload_n hx hb dX12_asks_104 rfl (lv_at hl 0 rfl) ?_
    refine va_get (D := G.1) (ci := 12) (v := .int u_ps) (C := RX12) (T := TX12) (N := 52) hx hb hts inG_X12 hown hK hP 0 rfl rfl 37 (by decide +kernel) (hts _ fl_X12_358) (fun _ h9 => h9) rfl dX12_asks_105 ?_
    refine lv_i2l (v := u_ps.toInt64) hx hb dX12_asks_108 rfl ?_
    refine va_last hx hb hK hP hD hS 2 1 rfl rfl (i := 7) (x := u_ps.toInt64) (by unfold vp_in; decide) dX12_asks_109 ?_
    clear hP hD hS
    intro H locs hP hD hS
    refine g5_rs [(b_o, (oc12 u_th u_sa b_rf b_ro b_im b_ke u_fd b_tp u_td u_fr u_to u_so u_wo u_fa u_bd u_nc b_nl u_co b_op b_ar u_le b_pi b_pa u_pd u_od b_ws b_hw (340 + (900 * (v_ro 3))) b_se b_re u_bk u_va u_su u_ce u_ho u_wy u_bt u_ps b_pt u_tg u_sn b_ip u_ic b_ah b_be b_me u_wd b_tr b_ld u_st b_wn u_id)), (b_ro, (arI G 5740 v_ro)), (b_se, (arJ G 13 (vp_updL (vp_updL (vp_updL (vp_updL (vp_updL (vp_updL (vp_updL v_se 1 p_2.toInt64) 2 ((u_ce - u_ce / 8 * 8).toInt64)) 3 ((u_ce / 8).toInt64)) 4 u_ho.toInt64) 5 u_wy.toInt64) 6 p_3.toInt64) 7 u_ps.toInt64))), (b_re, (arJ G 400 v_re))] hP hD ?_
    clear hP hD
    intro hP hD
    refine lv_aload_n hx hb dX12_asks_110 rfl (lv_at hl 0 rfl) ?_
    refine va_get (D := G.1) (ci := 12) (v := .ref b_se) (C := RX12) (T := TX12) (N := 52) hx hb hts inG_X12 hown hK hP 0 rfl rfl 28 (by decide +kernel) (hts _ fl_X12_76) (fun _ h9 => h9) rfl dX12_asks_111 ?_
    refine lv_bipush (v := 8) hx hb dX12_asks_114 (by decide +kernel) ?_
    refine lv_aload_n hx hb dX12_asks_116 rfl (lv_at hl 0 rfl) ?_
    refine va_get (D := G.1) (ci := 12) (v := .int u_bt) (C := RX12) (T := TX12) (N := 52) hx hb hts inG_X12 hown hK hP 0 rfl rfl 36 (by decide +kernel) (hts _ fl_X12_361) (fun _ h9 => h9) rfl dX12_asks_117 ?_
    refine lv_sipush (v := 1000) hx hb dX12_asks_120 (by decide +kernel) ?_
    refine lv_idiv hx hb dX12_asks_123 (by decide +kernel) ?_
    have t_8 : (u_bt / 1000).toInt = u_bt.toInt / 1000 := g5_idiv (a := u_bt.toInt) (b := 1000) rfl (by decide +kernel) (by omega) (by decide +kernel)
    refine lv_i2l (v := (u_bt / 1000).toInt64) hx hb dX12_asks_124 rfl ?_
    refine va_last hx hb hK hP hD hS 2 1 rfl rfl (i := 8) (x := (u_bt / 1000).toInt64) (by unfold vp_in; decide) dX12_asks_125 ?_
    clear hP hD hS
    intro H locs hP hD hS
    refine g5_rs [(b_o, (oc12 u_th u_sa b_rf b_ro b_im b_ke u_fd b_tp u_td u_fr u_to u_so u_wo u_fa u_bd u_nc b_nl u_co b_op b_ar u_le b_pi b_pa u_pd u_od b_ws b_hw (340 + (900 * (v_ro 3))) b_se b_re u_bk u_va u_su u_ce u_ho u_wy u_bt u_ps b_pt u_tg u_sn b_ip u_ic b_ah b_be b_me u_wd b_tr b_ld u_st b_wn u_id)), (b_ro, (arI G 5740 v_ro)), (b_se, (arJ G 13 (vp_updL (vp_updL (vp_updL (vp_updL (vp_updL (vp_updL (vp_updL (vp_updL v_se 1 p_2.toInt64) 2 ((u_ce - u_ce / 8 * 8).toInt64)) 3 ((u_ce / 8).toInt64)) 4 u_ho.toInt64) 5 u_wy.toInt64) 6 p_3.toInt64) 7 u_ps.toInt64) 8 ((u_bt / 1000).toInt64)))), (b_re, (arJ G 400 v_re))] hP hD ?_
    clear hP hD
    intro hP hD
    refine lv_iload hx hb dX12_asks_126 (lv_at hl 4 rfl) ?_
    refine lv_i2l (v := p_4.toInt64) hx hb dX12_asks_128 rfl ?_
    refine lv_lstore (lv' := [(6, .long p_4.toInt64), (0, .ref b_o), (1, .int p_1), (2, .int p_2), (3, .int p_3), (4, .int p_4), (5, .int p_5)]) hx hb dX12_asks_129 hl (by decide +kernel) rfl ?_
    clear hl
    intro ls hl
    have hLW := r_ro.2.2.2 (v_ro 3).toInt.toNat (by have zq := r_ro.2.2.1; omega)
    have hT9 : (340 + (900 * (v_ro 3))).toNatClampNeg = 340 + 900 * (v_ro 3).toInt.toNat := by have zz := g5_clamp (340 + (900 * (v_ro 3))); omega
    rw [← hT9] at hLW
    have hz9 : ((340 + (900 * (v_ro 3))) + 1).toNatClampNeg = (340 + (900 * (v_ro 3))).toNatClampNeg + 1 := g_clk (n := 1) (by decide +kernel) (by omega) (by omega) (by decide +kernel)
    refine lv_iconst (v := 0) hx hb dX12_asks_131 (by decide +kernel) ?_
    refine lv_istore (lv' := [(8, .int 0), (6, .long p_4.toInt64), (0, .ref b_o), (1, .int p_1), (2, .int p_2), (3, .int p_3), (4, .int p_4), (5, .int p_5)]) hx hb dX12_asks_132 hl (by decide +kernel) rfl ?_
    clear hl
    intro ls hl
    refine g5_loop (α := (Int32) × (Int64) × (Int32) × (Int64) × (Int64) × (Nat → Int64)) (fun (q : (Int32) × (Int64) × (Int32) × (Int64) × (Int64) × (Nat → Int64)) (ls : Array Slot) (H : Heap) (locs : List Loc) => match q with | (k134_8, k134_6, k134_bk, k134_va, k134_su, k134_re) => lv_has ls 10 [(6, .long k134_6), (8, .int k134_8), (0, .ref b_o), (1, .int p_1), (2, .int p_2), (3, .int p_3), (4, .int p_4), (5, .int p_5)] ∧ va_P G.1 vwCl [(b_o, (oc12 u_th u_sa b_rf b_ro b_im b_ke u_fd b_tp u_td u_fr u_to u_so u_wo u_fa u_bd u_nc b_nl u_co b_op b_ar u_le b_pi b_pa u_pd u_od b_ws b_hw (340 + (900 * (v_ro 3))) b_se b_re k134_bk k134_va k134_su u_ce u_ho u_wy u_bt u_ps b_pt u_tg u_sn b_ip u_ic b_ah b_be b_me u_wd b_tr b_ld u_st b_wn u_id)), (b_ro, (arI G 5740 v_ro)), (b_se, (arJ G 13 (vp_updL (vp_updL (vp_updL (vp_updL (vp_updL (vp_updL (vp_updL (vp_updL v_se 1 p_2.toInt64) 2 ((u_ce - u_ce / 8 * 8).toInt64)) 3 ((u_ce / 8).toInt64)) 4 u_ho.toInt64) 5 u_wy.toInt64) 6 p_3.toInt64) 7 u_ps.toInt64) 8 ((u_bt / 1000).toInt64)))), (b_re, (arJ G 400 k134_re))] H ∧ va_D A [(b_o, (oc12 u_th u_sa b_rf b_ro b_im b_ke u_fd b_tp u_td u_fr u_to u_so u_wo u_fa u_bd u_nc b_nl u_co b_op b_ar u_le b_pi b_pa u_pd u_od b_ws b_hw (340 + (900 * (v_ro 3))) b_se b_re k134_bk k134_va k134_su u_ce u_ho u_wy u_bt u_ps b_pt u_tg u_sn b_ip u_ic b_ah b_be b_me u_wd b_tr b_ld u_st b_wn u_id)), (b_ro, (arI G 5740 v_ro)), (b_se, (arJ G 13 (vp_updL (vp_updL (vp_updL (vp_updL (vp_updL (vp_updL (vp_updL (vp_updL v_se 1 p_2.toInt64) 2 ((u_ce - u_ce / 8 * 8).toInt64)) 3 ((u_ce / 8).toInt64)) 4 u_ho.toInt64) 5 u_wy.toInt64) 6 p_3.toInt64) 7 u_ps.toInt64) 8 ((u_bt / 1000).toInt64)))), (b_re, (arJ G 400 k134_re))] ∧ va_S A s.heap H locs ∧ (0 ≤ k134_8.toInt ∧ k134_8.toInt ≤ 12) ∧ (0 ≤ k134_bk.toInt ∧ k134_bk.toInt ≤ 1)) (fun (q : (Int32) × (Int64) × (Int32) × (Int64) × (Int64) × (Nat → Int64)) => match q with | (k134_8, k134_6, k134_bk, k134_va, k134_su, k134_re) => Int.toNat (12 - k134_8.toInt)) (0, p_4.toInt64, u_bk, u_va, u_su, v_re) ⟨lv_sub hl [1, 0, 2, 3, 4, 5, 6, 7] rfl, hP, hD, hS, ⟨by decide, by decide⟩, h_u_bk⟩ ?_
    rintro ⟨k134_8, k134_6, k134_bk, k134_va, k134_su, k134_re⟩ ls H locs ⟨hl, hP, hD, hS, (i_9 : 0 ≤ k134_8.toInt ∧ k134_8.toInt ≤ 12), (i_10 : 0 ≤ k134_bk.toInt ∧ k134_bk.toInt ≤ 1)⟩ ih_134_11
    replace hl : lv_has ls 10 [(6, .long k134_6), (8, .int k134_8), (0, .ref b_o), (1, .int p_1), (2, .int p_2), (3, .int p_3), (4, .int p_4), (5, .int p_5)] := hl
    refine g5_rs [(b_o, (oc12 u_th u_sa b_rf b_ro b_im b_ke u_fd b_tp u_td u_fr u_to u_so u_wo u_fa u_bd u_nc b_nl u_co b_op b_ar u_le b_pi b_pa u_pd u_od b_ws b_hw (340 + (900 * (v_ro 3))) b_se b_re k134_bk k134_va k134_su u_ce u_ho u_wy u_bt u_ps b_pt u_tg u_sn b_ip u_ic b_ah b_be b_me u_wd b_tr b_ld u_st b_wn u_id)), (b_ro, (arI G 5740 v_ro)), (b_se, (arJ G 13 (vp_updL (vp_updL (vp_updL (vp_updL (vp_updL (vp_updL (vp_updL (vp_updL v_se 1 p_2.toInt64) 2 ((u_ce - u_ce / 8 * 8).toInt64)) 3 ((u_ce / 8).toInt64)) 4 u_ho.toInt64) 5 u_wy.toInt64) 6 p_3.toInt64) 7 u_ps.toInt64) 8 ((u_bt / 1000).toInt64)))), (b_re, (arJ G 400 k134_re))] hP hD ?_
    clear hP hD
    intro hP hD
    refine lv_iload hx hb dX12_asks_134 (lv_at hl 1 rfl) ?_
    refine lv_aload_n hx hb dX12_asks_136 rfl (lv_at hl 2 rfl) ?_
    refine va_get (D := G.1) (ci := 12) (v := .ref b_ro) (C := RX12) (T := TX12) (N := 52) hx hb hts inG_X12 hown hK hP 0 rfl rfl 3 (by decide +kernel) (hts _ fl_X12_13) (fun _ h9 => h9) rfl dX12_asks_137 ?_
    refine lv_aload_n hx hb dX12_asks_140 rfl (lv_at hl 2 rfl) ?_
    refine va_get (D := G.1) (ci := 12) (v := .int (340 + (900 * (v_ro 3)))) (C := RX12) (T := TX12) (N := 52) hx hb hts inG_X12 hown hK hP 0 rfl rfl 27 (by decide +kernel) (hts _ fl_X12_329) (fun _ h9 => h9) rfl dX12_asks_141 ?_
    refine lv_iconst (v := 1) hx hb dX12_asks_144 (by decide +kernel) ?_
    refine lv_iadd hx hb dX12_asks_145 ?_
    have t_12 : ((340 + (900 * (v_ro 3))) + 1).toInt = (340 + (900 * (v_ro 3))).toInt + 1 := g5_iadd (a := (340 + (900 * (v_ro 3))).toInt) (b := 1) (by rfl) (by decide +kernel) (by omega) (by omega)
    refine va_iald hx hb hK hP 1 0 rfl rfl (i := ((340 + (900 * (v_ro 3))) + 1)) (vp_in_iff.mpr ⟨by omega, by omega⟩) dX12_asks_146 ?_
    have hc9 : 0 ≤ (v_ro ((340 + (900 * (v_ro 3))) + 1).toNatClampNeg).toInt ∧ (v_ro ((340 + (900 * (v_ro 3))) + 1).toNatClampNeg).toInt ≤ 12 := by rw [hz9]; exact hLW.1
    refine lv_icmp_ge (tgt := 205) hx hb dX12_asks_147 (by decide +kernel) (fun c_13 => ?_) (fun c_13 => ?_)
    ·
      have i_13 : k134_8.toInt ≥ (v_ro ((340 + (900 * (v_ro 3))) + 1).toNatClampNeg).toInt := g5_ge (a := k134_8.toInt) (b := (v_ro ((340 + (900 * (v_ro 3))) + 1).toNatClampNeg).toInt) rfl rfl c_13
      refine lv_lload hx hb dX12_asks_205 (lv_at hl 0 rfl) ?_
      refine lv_lconst (v := 0) hx hb dX12_asks_207 (by decide +kernel) ?_
      refine W.lcmp hx hb dX12_asks_208 ?_
      refine lv_if_ge (tgt := 216) hx hb dX12_asks_209 (by decide +kernel) (fun c_14 => ?_) (fun c_14 => ?_)
      ·
        have i_14 : (lg_cmp k134_6 0).toInt ≥ 0 := g5_ge (a := (lg_cmp k134_6 0).toInt) (b := 0) rfl (by decide +kernel) c_14
        refine lv_lload hx hb dX12_asks_216 (lv_at hl 0 rfl) ?_
        refine lv_iload hx hb dX12_asks_218 (lv_at hl 7 rfl) ?_
        refine lv_i2l (v := p_5.toInt64) hx hb dX12_asks_220 rfl ?_
        refine W.lcmp hx hb dX12_asks_221 ?_
        refine lv_if_le (tgt := 230) hx hb dX12_asks_222 (by decide +kernel) (fun c_15 => ?_) (fun c_15 => ?_)
        ·
          have i_15 : (lg_cmp k134_6 p_5.toInt64).toInt ≤ 0 := g5_le (a := (lg_cmp k134_6 p_5.toInt64).toInt) (b := 0) rfl (by decide +kernel) c_15
          refine lv_lload hx hb dX12_asks_230 (lv_at hl 0 rfl) ?_
          refine lv_l2i (v := k134_6.toInt32) hx hb dX12_asks_232 rfl ?_
          exact W.iret (v := k134_6.toInt32) hx hb hr (fun t ht hW => ⟨⟨k134_6.toInt32, [(b_o, (oc12 u_th u_sa b_rf b_ro b_im b_ke u_fd b_tp u_td u_fr u_to u_so u_wo u_fa u_bd u_nc b_nl u_co b_op b_ar u_le b_pi b_pa u_pd u_od b_ws b_hw (340 + (900 * (v_ro 3))) b_se b_re k134_bk k134_va k134_su u_ce u_ho u_wy u_bt u_ps b_pt u_tg u_sn b_ip u_ic b_ah b_be b_me u_wd b_tr b_ld u_st b_wn u_id)), (b_ro, (arI G 5740 v_ro)), (b_se, (arJ G 13 (vp_updL (vp_updL (vp_updL (vp_updL (vp_updL (vp_updL (vp_updL (vp_updL v_se 1 p_2.toInt64) 2 ((u_ce - u_ce / 8 * 8).toInt64)) 3 ((u_ce / 8).toInt64)) 4 u_ho.toInt64) 5 u_wy.toInt64) 6 p_3.toInt64) 7 u_ps.toInt64) 8 ((u_bt / 1000).toInt64)))), (b_re, (arJ G 400 k134_re))], rfl, ⟨k134_6.toInt32, (340 + (900 * (v_ro 3))), k134_bk, k134_va, k134_su, (vp_updL (vp_updL (vp_updL (vp_updL (vp_updL (vp_updL (vp_updL (vp_updL v_se 1 p_2.toInt64) 2 ((u_ce - u_ce / 8 * 8).toInt64)) 3 ((u_ce / 8).toInt64)) 4 u_ho.toInt64) 5 u_wy.toInt64) 6 p_3.toInt64) 7 u_ps.toInt64) 8 ((u_bt / 1000).toInt64)), k134_re, by have z9 : 0 ≤ k134_6.toInt32.toInt ∧ k134_6.toInt32.toInt ≤ p_5.toInt := g_l2i (by omega) (by omega); omega, (g_l2i (m := p_5) (by omega) (by omega)), ⟨by omega, by omega⟩, i_10, rfl, rfl⟩, by rw [ht]; exact hP.sub [0, 1, 2, 3] rfl, hD.sub [0, 1, 2, 3] (by decide +kernel) rfl⟩, hS.F ht⟩) hS.2.2 dX12_asks_233
        ·
          have i_15 : (lg_cmp k134_6 p_5.toInt64).toInt > 0 := g5_leN (a := (lg_cmp k134_6 p_5.toInt64).toInt) (b := 0) rfl (by decide +kernel) c_15
          refine lv_iload hx hb dX12_asks_225 (lv_at hl 7 rfl) ?_
          refine lv_goto (tgt := 233) hx hb dX12_asks_227 (by decide +kernel) ?_
          exact W.iret (v := p_5) hx hb hr (fun t ht hW => ⟨⟨p_5, [(b_o, (oc12 u_th u_sa b_rf b_ro b_im b_ke u_fd b_tp u_td u_fr u_to u_so u_wo u_fa u_bd u_nc b_nl u_co b_op b_ar u_le b_pi b_pa u_pd u_od b_ws b_hw (340 + (900 * (v_ro 3))) b_se b_re k134_bk k134_va k134_su u_ce u_ho u_wy u_bt u_ps b_pt u_tg u_sn b_ip u_ic b_ah b_be b_me u_wd b_tr b_ld u_st b_wn u_id)), (b_ro, (arI G 5740 v_ro)), (b_se, (arJ G 13 (vp_updL (vp_updL (vp_updL (vp_updL (vp_updL (vp_updL (vp_updL (vp_updL v_se 1 p_2.toInt64) 2 ((u_ce - u_ce / 8 * 8).toInt64)) 3 ((u_ce / 8).toInt64)) 4 u_ho.toInt64) 5 u_wy.toInt64) 6 p_3.toInt64) 7 u_ps.toInt64) 8 ((u_bt / 1000).toInt64)))), (b_re, (arJ G 400 k134_re))], rfl, ⟨p_5, (340 + (900 * (v_ro 3))), k134_bk, k134_va, k134_su, (vp_updL (vp_updL (vp_updL (vp_updL (vp_updL (vp_updL (vp_updL (vp_updL v_se 1 p_2.toInt64) 2 ((u_ce - u_ce / 8 * 8).toInt64)) 3 ((u_ce / 8).toInt64)) 4 u_ho.toInt64) 5 u_wy.toInt64) 6 p_3.toInt64) 7 u_ps.toInt64) 8 ((u_bt / 1000).toInt64)), k134_re, h_p_5, ⟨by omega, by omega⟩, ⟨by omega, by omega⟩, i_10, rfl, rfl⟩, by rw [ht]; exact hP.sub [0, 1, 2, 3] rfl, hD.sub [0, 1, 2, 3] (by decide +kernel) rfl⟩, hS.F ht⟩) hS.2.2 dX12_asks_233
      ·
        have i_14 : (lg_cmp k134_6 0).toInt < 0 := g5_geN (a := (lg_cmp k134_6 0).toInt) (b := 0) rfl (by decide +kernel) c_14
        refine lv_iconst (v := 0) hx hb dX12_asks_212 (by decide +kernel) ?_
        refine lv_goto (tgt := 233) hx hb dX12_asks_213 (by decide +kernel) ?_
        exact W.iret (v := 0) hx hb hr (fun t ht hW => ⟨⟨0, [(b_o, (oc12 u_th u_sa b_rf b_ro b_im b_ke u_fd b_tp u_td u_fr u_to u_so u_wo u_fa u_bd u_nc b_nl u_co b_op b_ar u_le b_pi b_pa u_pd u_od b_ws b_hw (340 + (900 * (v_ro 3))) b_se b_re k134_bk k134_va k134_su u_ce u_ho u_wy u_bt u_ps b_pt u_tg u_sn b_ip u_ic b_ah b_be b_me u_wd b_tr b_ld u_st b_wn u_id)), (b_ro, (arI G 5740 v_ro)), (b_se, (arJ G 13 (vp_updL (vp_updL (vp_updL (vp_updL (vp_updL (vp_updL (vp_updL (vp_updL v_se 1 p_2.toInt64) 2 ((u_ce - u_ce / 8 * 8).toInt64)) 3 ((u_ce / 8).toInt64)) 4 u_ho.toInt64) 5 u_wy.toInt64) 6 p_3.toInt64) 7 u_ps.toInt64) 8 ((u_bt / 1000).toInt64)))), (b_re, (arJ G 400 k134_re))], rfl, ⟨0, (340 + (900 * (v_ro 3))), k134_bk, k134_va, k134_su, (vp_updL (vp_updL (vp_updL (vp_updL (vp_updL (vp_updL (vp_updL (vp_updL v_se 1 p_2.toInt64) 2 ((u_ce - u_ce / 8 * 8).toInt64)) 3 ((u_ce / 8).toInt64)) 4 u_ho.toInt64) 5 u_wy.toInt64) 6 p_3.toInt64) 7 u_ps.toInt64) 8 ((u_bt / 1000).toInt64)), k134_re, ⟨by have zc_o_r : (0 : Int32).toInt = 0 := (by decide +kernel); omega, by have zc_o_r : (0 : Int32).toInt = 0 := (by decide +kernel); omega⟩, ⟨by have zc_o_r : (0 : Int32).toInt = 0 := (by decide +kernel); omega, by have zc_o_r : (0 : Int32).toInt = 0 := (by decide +kernel); omega⟩, ⟨by omega, by omega⟩, i_10, rfl, rfl⟩, by rw [ht]; exact hP.sub [0, 1, 2, 3] rfl, hD.sub [0, 1, 2, 3] (by decide +kernel) rfl⟩, hS.F ht⟩) hS.2.2 dX12_asks_233
    ·
      have i_13 : k134_8.toInt < (v_ro ((340 + (900 * (v_ro 3))) + 1).toNatClampNeg).toInt := g5_geN (a := k134_8.toInt) (b := (v_ro ((340 + (900 * (v_ro 3))) + 1).toNatClampNeg).toInt) rfl rfl c_13
      refine lv_aload_n hx hb dX12_asks_150 rfl (lv_at hl 2 rfl) ?_
      refine va_get (D := G.1) (ci := 12) (v := .int (340 + (900 * (v_ro 3)))) (C := RX12) (T := TX12) (N := 52) hx hb hts inG_X12 hown hK hP 0 rfl rfl 27 (by decide +kernel) (hts _ fl_X12_329) (fun _ h9 => h9) rfl dX12_asks_151 ?_
      refine lv_iconst (v := 2) hx hb dX12_asks_154 (by decide +kernel) ?_
      refine lv_iadd hx hb dX12_asks_155 ?_
      have t_16 : ((340 + (900 * (v_ro 3))) + 2).toInt = (340 + (900 * (v_ro 3))).toInt + 2 := g5_iadd (a := (340 + (900 * (v_ro 3))).toInt) (b := 2) (by rfl) (by decide +kernel) (by omega) (by omega)
      refine lv_bipush (v := 8) hx hb dX12_asks_156 (by decide +kernel) ?_
      refine lv_iload hx hb dX12_asks_158 (lv_at hl 1 rfl) ?_
      refine lv_imul hx hb dX12_asks_160 ?_
      have t_17 : (8 * k134_8).toInt = 8 * k134_8.toInt := g5_imul (a := 8) (b := k134_8.toInt) (by decide +kernel) (by rfl) (by omega) (by omega)
      refine lv_iadd hx hb dX12_asks_161 ?_
      have t_18 : (((340 + (900 * (v_ro 3))) + 2) + (8 * k134_8)).toInt = ((340 + (900 * (v_ro 3))) + 2).toInt + (8 * k134_8).toInt := g5_iadd (a := ((340 + (900 * (v_ro 3))) + 2).toInt) (b := (8 * k134_8).toInt) (by rfl) (by rfl) (by omega) (by omega)
      refine lv_istore (lv' := [(9, .int (((340 + (900 * (v_ro 3))) + 2) + (8 * k134_8))), (6, .long k134_6), (8, .int k134_8), (0, .ref b_o), (1, .int p_1), (2, .int p_2), (3, .int p_3), (4, .int p_4), (5, .int p_5)]) hx hb dX12_asks_162 hl (by decide +kernel) rfl ?_
      clear hl
      intro ls hl
      refine lv_aload_n hx hb dX12_asks_164 rfl (lv_at hl 3 rfl) ?_
      refine va_get (D := G.1) (ci := 12) (v := .ref b_ro) (C := RX12) (T := TX12) (N := 52) hx hb hts inG_X12 hown hK hP 0 rfl rfl 3 (by decide +kernel) (hts _ fl_X12_13) (fun _ h9 => h9) rfl dX12_asks_165 ?_
      refine lv_iload hx hb dX12_asks_168 (lv_at hl 0 rfl) ?_
      refine va_iald hx hb hK hP 1 0 rfl rfl (i := (((340 + (900 * (v_ro 3))) + 2) + (8 * k134_8))) (vp_in_iff.mpr ⟨by omega, by omega⟩) dX12_asks_170 ?_
      refine lv_iload_n hx hb dX12_asks_171 rfl (lv_at hl 4 rfl) ?_
      refine lv_icmp_ne (tgt := 199) hx hb dX12_asks_172 (by decide +kernel) (fun c_19 => ?_) (fun c_19 => ?_)
      ·
        have n_19 : gNe ((v_ro (((340 + (900 * (v_ro 3))) + 2) + (8 * k134_8)).toNatClampNeg).toInt) (p_1.toInt) := g5_ne (a := (v_ro (((340 + (900 * (v_ro 3))) + 2) + (8 * k134_8)).toNatClampNeg).toInt) (b := p_1.toInt) rfl rfl c_19
        refine lv_iinc (v := (k134_8 + 1)) (lv' := [(8, .int (k134_8 + 1)), (9, .int (((340 + (900 * (v_ro 3))) + 2) + (8 * k134_8))), (6, .long k134_6), (0, .ref b_o), (1, .int p_1), (2, .int p_2), (3, .int p_3), (4, .int p_4), (5, .int p_5)]) hx hb dX12_asks_199 hl (k := 2) rfl rfl (by decide +kernel) rfl ?_
        clear hl
        intro ls hl
        have t_20 : (k134_8 + 1).toInt = k134_8.toInt + 1 := g5_iadd (a := k134_8.toInt) (b := 1) rfl (by decide +kernel) (by omega) (by omega)
        refine lv_goto (tgt := 134) hx hb dX12_asks_202 (by decide +kernel) ?_
        exact ih_134_11 ((k134_8 + 1), k134_6, k134_bk, k134_va, k134_su, k134_re) ls H locs (show Int.toNat (12 - (k134_8 + 1).toInt) < Int.toNat (12 - k134_8.toInt) from g_up (show k134_8.toInt < (k134_8 + 1).toInt by omega) (show k134_8.toInt < 12 by omega)) ⟨lv_sub hl [2, 0, 3, 4, 5, 6, 7, 8] rfl, hP, hD, hS, ⟨by omega, by omega⟩, i_10⟩
      ·
        have i_19 : (v_ro (((340 + (900 * (v_ro 3))) + 2) + (8 * k134_8)).toNatClampNeg).toInt = p_1.toInt := g5_neN (a := (v_ro (((340 + (900 * (v_ro 3))) + 2) + (8 * k134_8)).toNatClampNeg).toInt) (b := p_1.toInt) rfl rfl c_19
        refine lv_aload_n hx hb dX12_asks_175 rfl (lv_at hl 3 rfl) ?_
        refine lv_iload hx hb dX12_asks_176 (lv_at hl 0 rfl) ?_
        obtain ⟨hPc, hDc, hFc⟩ := g5_sub3 (wc := [(b_o, (oc12 u_th u_sa b_rf b_ro b_im b_ke u_fd b_tp u_td u_fr u_to u_so u_wo u_fa u_bd u_nc b_nl u_co b_op b_ar u_le b_pi b_pa u_pd u_od b_ws b_hw (340 + (900 * (v_ro 3))) b_se b_re k134_bk k134_va k134_su u_ce u_ho u_wy u_bt u_ps b_pt u_tg u_sn b_ip u_ic b_ah b_be b_me u_wd b_tr b_ld u_st b_wn u_id)), (b_ro, (arI G 5740 v_ro)), (b_se, (arJ G 13 (vp_updL (vp_updL (vp_updL (vp_updL (vp_updL (vp_updL (vp_updL (vp_updL v_se 1 p_2.toInt64) 2 ((u_ce - u_ce / 8 * 8).toInt64)) 3 ((u_ce / 8).toInt64)) 4 u_ho.toInt64) 5 u_wy.toInt64) 6 p_3.toInt64) 7 u_ps.toInt64) 8 ((u_bt / 1000).toInt64)))), (b_re, (arJ G 400 k134_re))]) hP hD hS hA [0, 1, 2, 3] (by decide +kernel) rfl
        refine va_calli (va_runV (As := [.int (((340 + (900 * (v_ro 3))) + 2) + (8 * k134_8))]) (rest := []) ⟨hx, hb, hml, hown, hts⟩ (n_isSo l G b_o b_ro b_se b_re b_rf b_im b_ke b_tp b_nl b_op b_ar b_pi b_pa b_ws b_hw b_pt b_ip b_ah b_be b_me b_tr b_ld b_wn H.size u_th u_sa u_fd u_td u_fr u_to u_so u_fa u_bd u_nc u_co u_le u_pd u_od (340 + (900 * (v_ro 3))) k134_bk u_ce u_ho u_wy u_bt u_ps u_tg u_sn u_ic u_wd u_id (((340 + (900 * (v_ro 3))) + 2) + (8 * k134_8)) u_wo k134_va k134_su u_st v_ro (vp_updL (vp_updL (vp_updL (vp_updL (vp_updL (vp_updL (vp_updL (vp_updL v_se 1 p_2.toInt64) 2 ((u_ce - u_ce / 8 * 8).toInt64)) 3 ((u_ce / 8).toInt64)) 4 u_ho.toInt64) 5 u_wy.toInt64) 6 p_3.toInt64) 7 u_ps.toInt64) 8 ((u_bt / 1000).toInt64)) k134_re h_u_td h_u_fr h_u_to h_u_bd h_u_nc h_u_co h_u_pd ⟨by omega, by omega⟩ i_10 h_u_ce h_u_ho h_u_wy h_u_bt h_u_ps h_u_ic h_u_id ⟨by omega, by omega⟩ (r_ro) (by have hk9 : (((340 + (900 * (v_ro 3))) + 2) + (8 * k134_8)).toNatClampNeg = (340 + (900 * (v_ro 3))).toNatClampNeg + 2 + 8 * k134_8.toInt.toNat := (by have z1 := g5_clamp (((340 + (900 * (v_ro 3))) + 2) + (8 * k134_8)); have z2 := g5_clamp (340 + (900 * (v_ro 3))); omega); rw [hk9]; exact hLW.2 k134_8.toInt.toNat (by rw [← hz9]; omega))) (cwV 1 hts gV_X12_364 rfl rfl rfl hv_X12_isSo ⟨Nat.le_of_ble_eq_true rfl, Nat.le_of_ble_eq_true rfl⟩) (g5_preV hPc hK hDc hN hT hS hFc (ci := 12) (q0 := 0) rfl rfl) rfl rfl hl.1 rfl (lv_room (Nat.le_of_ble_eq_true rfl)) dX12_asks_178 ⟨Nat.le_of_ble_eq_true rfl, Nat.le_of_ble_eq_true rfl⟩) hS (fun q _ h => hFc q h) hFc (fun r u t H locs ht hvm hw hB hz1 hk1 hS => ?_)
        obtain ⟨hP1, hD1⟩ := hB
        have hP1 := g5_ht ht hP1
        obtain ⟨z23, z24, z25, z26, z27, (i_21 : 0 ≤ z23.toInt ∧ z23.toInt ≤ 1), (i_22 : 0 ≤ z24.toInt ∧ z24.toInt ≤ 1), y28, rfl⟩ := hw
        have hJ9 := va_join (wr := []) hP hD [0, 1, 2, 3] [] rfl rfl (by decide +kernel) (by decide +kernel) hk1 hFc hP1 hD1
        clear hP hD hPc hDc hFc ht hvm hz1 hk1 hP1 hD1
        obtain ⟨hP, hD⟩ := hJ9
        refine g5_rs [(b_o, (oc12 u_th u_sa b_rf b_ro b_im b_ke u_fd b_tp u_td u_fr u_to u_so u_wo u_fa u_bd u_nc b_nl u_co b_op b_ar u_le b_pi b_pa u_pd u_od b_ws b_hw (340 + (900 * (v_ro 3))) b_se b_re z24 z25 z26 u_ce u_ho u_wy u_bt u_ps b_pt u_tg u_sn b_ip u_ic b_ah b_be b_me u_wd b_tr b_ld u_st b_wn u_id)), (b_ro, (arI G 5740 v_ro)), (b_se, (arJ G 13 (vp_updL (vp_updL (vp_updL (vp_updL (vp_updL (vp_updL (vp_updL (vp_updL v_se 1 p_2.toInt64) 2 ((u_ce - u_ce / 8 * 8).toInt64)) 3 ((u_ce / 8).toInt64)) 4 u_ho.toInt64) 5 u_wy.toInt64) 6 p_3.toInt64) 7 u_ps.toInt64) 8 ((u_bt / 1000).toInt64)))), (b_re, (arJ G 400 z27))] hP hD ?_
        clear hP hD
        intro hP hD
        refine g5_ti (v := z23) y28 ?_
        refine lv_if_eq (tgt := 199) hx hb dX12_asks_181 (by decide +kernel) (fun c_29 => ?_) (fun c_29 => ?_)
        ·
          have i_29 : z23.toInt = 0 := g5_eq (a := z23.toInt) (b := 0) rfl (by decide +kernel) c_29
          refine lv_iinc (v := (k134_8 + 1)) (lv' := [(8, .int (k134_8 + 1)), (9, .int (((340 + (900 * (v_ro 3))) + 2) + (8 * k134_8))), (6, .long k134_6), (0, .ref b_o), (1, .int p_1), (2, .int p_2), (3, .int p_3), (4, .int p_4), (5, .int p_5)]) hx hb dX12_asks_199 hl (k := 2) rfl rfl (by decide +kernel) rfl ?_
          clear hl
          intro ls hl
          have t_30 : (k134_8 + 1).toInt = k134_8.toInt + 1 := g5_iadd (a := k134_8.toInt) (b := 1) rfl (by decide +kernel) (by omega) (by omega)
          refine lv_goto (tgt := 134) hx hb dX12_asks_202 (by decide +kernel) ?_
          exact ih_134_11 ((k134_8 + 1), k134_6, z24, z25, z26, z27) ls H locs (show Int.toNat (12 - (k134_8 + 1).toInt) < Int.toNat (12 - k134_8.toInt) from g_up (show k134_8.toInt < (k134_8 + 1).toInt by omega) (show k134_8.toInt < 12 by omega)) ⟨lv_sub hl [2, 0, 3, 4, 5, 6, 7, 8] rfl, hP, hD, hS, ⟨by omega, by omega⟩, i_22⟩
        ·
          have n_29 : gNe (z23.toInt) (0) := g5_eqN (a := z23.toInt) (b := 0) rfl (by decide +kernel) c_29
          have i_29 : z23.toInt ≥ 1 := by have z := g5_eqN (a := z23.toInt) (b := 0) (by rfl) (by decide +kernel) c_29; omega
          refine lv_iload_n hx hb dX12_asks_184 rfl (lv_at hl 4 rfl) ?_
          refine lv_iconst (v := 2) hx hb dX12_asks_185 (by decide +kernel) ?_
          refine lv_icmp_ge (tgt := 196) hx hb dX12_asks_186 (by decide +kernel) (fun c_31 => ?_) (fun c_31 => ?_)
          ·
            have i_31 : p_1.toInt ≥ 2 := g5_ge (a := p_1.toInt) (b := 2) rfl (by decide +kernel) c_31
            refine lv_lconst (v := 1) hx hb dX12_asks_196 (by decide +kernel) ?_
            refine lv_lstore (lv' := [(6, .long 1), (9, .int (((340 + (900 * (v_ro 3))) + 2) + (8 * k134_8))), (8, .int k134_8), (0, .ref b_o), (1, .int p_1), (2, .int p_2), (3, .int p_3), (4, .int p_4), (5, .int p_5)]) hx hb dX12_asks_197 hl (by decide +kernel) rfl ?_
            clear hl
            intro ls hl
            refine lv_iinc (v := (k134_8 + 1)) (lv' := [(8, .int (k134_8 + 1)), (6, .long 1), (9, .int (((340 + (900 * (v_ro 3))) + 2) + (8 * k134_8))), (0, .ref b_o), (1, .int p_1), (2, .int p_2), (3, .int p_3), (4, .int p_4), (5, .int p_5)]) hx hb dX12_asks_199 hl (k := 2) rfl rfl (by decide +kernel) rfl ?_
            clear hl
            intro ls hl
            have t_32 : (k134_8 + 1).toInt = k134_8.toInt + 1 := g5_iadd (a := k134_8.toInt) (b := 1) rfl (by decide +kernel) (by omega) (by omega)
            refine lv_goto (tgt := 134) hx hb dX12_asks_202 (by decide +kernel) ?_
            exact ih_134_11 ((k134_8 + 1), 1, z24, z25, z26, z27) ls H locs (show Int.toNat (12 - (k134_8 + 1).toInt) < Int.toNat (12 - k134_8.toInt) from g_up (show k134_8.toInt < (k134_8 + 1).toInt by omega) (show k134_8.toInt < 12 by omega)) ⟨lv_sub hl [1, 0, 3, 4, 5, 6, 7, 8] rfl, hP, hD, hS, ⟨by omega, by omega⟩, i_22⟩
          ·
            have i_31 : p_1.toInt < 2 := g5_geN (a := p_1.toInt) (b := 2) rfl (by decide +kernel) c_31
            refine lv_aload_n hx hb dX12_asks_189 rfl (lv_at hl 3 rfl) ?_
            refine va_get (D := G.1) (ci := 12) (v := .long z26) (C := RX12) (T := TX12) (N := 52) hx hb hts inG_X12 hown hK hP 0 rfl rfl 32 (by decide +kernel) (hts _ fl_X12_346) (fun _ h9 => h9) rfl dX12_asks_190 ?_
            refine lv_goto (tgt := 197) hx hb dX12_asks_193 (by decide +kernel) ?_
            refine lv_lstore (lv' := [(6, .long z26), (9, .int (((340 + (900 * (v_ro 3))) + 2) + (8 * k134_8))), (8, .int k134_8), (0, .ref b_o), (1, .int p_1), (2, .int p_2), (3, .int p_3), (4, .int p_4), (5, .int p_5)]) hx hb dX12_asks_197 hl (by decide +kernel) rfl ?_
            clear hl
            intro ls hl
            refine lv_iinc (v := (k134_8 + 1)) (lv' := [(8, .int (k134_8 + 1)), (6, .long z26), (9, .int (((340 + (900 * (v_ro 3))) + 2) + (8 * k134_8))), (0, .ref b_o), (1, .int p_1), (2, .int p_2), (3, .int p_3), (4, .int p_4), (5, .int p_5)]) hx hb dX12_asks_199 hl (k := 2) rfl rfl (by decide +kernel) rfl ?_
            clear hl
            intro ls hl
            have t_33 : (k134_8 + 1).toInt = k134_8.toInt + 1 := g5_iadd (a := k134_8.toInt) (b := 1) rfl (by decide +kernel) (by omega) (by omega)
            refine lv_goto (tgt := 134) hx hb dX12_asks_202 (by decide +kernel) ?_
            exact ih_134_11 ((k134_8 + 1), z26, z24, z25, z26, z27) ls H locs (show Int.toNat (12 - (k134_8 + 1).toInt) < Int.toNat (12 - k134_8.toInt) from g_up (show k134_8.toInt < (k134_8 + 1).toInt by omega) (show k134_8.toInt < 12 by omega)) ⟨lv_sub hl [1, 0, 3, 4, 5, 6, 7, 8] rfl, hP, hD, hS, ⟨by omega, by omega⟩, i_22⟩
  ·
    have i_2 : (v_ro 3).toInt = (-1) := g5_neN (a := (v_ro 3).toInt) (b := (-1)) rfl (by decide +kernel) c_2
    refine lv_iload hx hb dX12_asks_10 (lv_at hl 4 rfl) ?_
    exact W.iret (v := p_4) hx hb hr (fun t ht hW => ⟨⟨p_4, [(b_o, (oc12 u_th u_sa b_rf b_ro b_im b_ke u_fd b_tp u_td u_fr u_to u_so u_wo u_fa u_bd u_nc b_nl u_co b_op b_ar u_le b_pi b_pa u_pd u_od b_ws b_hw u_la b_se b_re u_bk u_va u_su u_ce u_ho u_wy u_bt u_ps b_pt u_tg u_sn b_ip u_ic b_ah b_be b_me u_wd b_tr b_ld u_st b_wn u_id)), (b_ro, (arI G 5740 v_ro)), (b_se, (arJ G 13 v_se)), (b_re, (arJ G 400 v_re))], rfl, ⟨p_4, u_la, u_bk, u_va, u_su, v_se, v_re, h_p_4, ⟨by omega, by omega⟩, h_u_la, h_u_bk, rfl, rfl⟩, by rw [ht]; exact hP.sub [0, 1, 2, 3] rfl, hD.sub [0, 1, 2, 3] (by decide +kernel) rfl⟩, hS.F ht⟩) hS.2.2 dX12_asks_12
theorem dgX12_isFree_0 : ∀ r ∈ ([(0, (.iconst 0, 1)), (1, (.istore_n 1, 1)), (2, (.iload_n 1, 1)), (3, (.aload_n 0, 1)), (4, (.getfield 13, 3)), (7, (.iconst 1, 1)), (8, (.iaload, 1)), (9, (.if_icmp .ge 44, 3)), (12, (.aload_n 0, 1)), (13, (.iload_n 1, 1)), (14, (.aload_n 0, 1)), (15, (.getfield 352, 3)), (18, (.invokevirtual 187, 3)), (21, (.aload_n 0, 1)), (22, (.getfield 349, 3)), (25, (.if_icmp .ne 22, 3)), (28, (.aload_n 0, 1)), (29, (.iconst 3, 1)), (30, (.iconst (-1), 1)), (31, (.iload_n 1, 1)), (32, (.iconst 0, 1)), (33, (.iconst 1, 1)), (34, (.invokevirtual 383, 3)), (37, (.ifCond .ne 10, 3)), (40, (.aload_n 0, 1)), (41, (.iload_n 1, 1)), (42, (.putfield 371, 3)), (45, (.iconst 0, 1)), (46, (.ireturn, 1)), (47, (.iinc 1 1, 3)), (50, (.goto (-48), 3)), (53, (.iconst 1, 1)), (54, (.ireturn, 1))] : List (Nat × (Instr × Nat))), decode cX12_isFree r.1 = .ok r.2 := by decide +kernel
theorem dX12_isFree_0 : decode cX12_isFree 0 = .ok (.iconst 0, 1) := dgX12_isFree_0 (0, (.iconst 0, 1)) (List.mem_of_getElem? (i := 0) rfl)
theorem dX12_isFree_1 : decode cX12_isFree 1 = .ok (.istore_n 1, 1) := dgX12_isFree_0 (1, (.istore_n 1, 1)) (List.mem_of_getElem? (i := 1) rfl)
theorem dX12_isFree_2 : decode cX12_isFree 2 = .ok (.iload_n 1, 1) := dgX12_isFree_0 (2, (.iload_n 1, 1)) (List.mem_of_getElem? (i := 2) rfl)
theorem dX12_isFree_3 : decode cX12_isFree 3 = .ok (.aload_n 0, 1) := dgX12_isFree_0 (3, (.aload_n 0, 1)) (List.mem_of_getElem? (i := 3) rfl)
theorem dX12_isFree_4 : decode cX12_isFree 4 = .ok (.getfield 13, 3) := dgX12_isFree_0 (4, (.getfield 13, 3)) (List.mem_of_getElem? (i := 4) rfl)
theorem dX12_isFree_7 : decode cX12_isFree 7 = .ok (.iconst 1, 1) := dgX12_isFree_0 (7, (.iconst 1, 1)) (List.mem_of_getElem? (i := 5) rfl)
theorem dX12_isFree_8 : decode cX12_isFree 8 = .ok (.iaload, 1) := dgX12_isFree_0 (8, (.iaload, 1)) (List.mem_of_getElem? (i := 6) rfl)
theorem dX12_isFree_9 : decode cX12_isFree 9 = .ok (.if_icmp .ge 44, 3) := dgX12_isFree_0 (9, (.if_icmp .ge 44, 3)) (List.mem_of_getElem? (i := 7) rfl)
theorem dX12_isFree_12 : decode cX12_isFree 12 = .ok (.aload_n 0, 1) := dgX12_isFree_0 (12, (.aload_n 0, 1)) (List.mem_of_getElem? (i := 8) rfl)
theorem dX12_isFree_13 : decode cX12_isFree 13 = .ok (.iload_n 1, 1) := dgX12_isFree_0 (13, (.iload_n 1, 1)) (List.mem_of_getElem? (i := 9) rfl)
theorem dX12_isFree_14 : decode cX12_isFree 14 = .ok (.aload_n 0, 1) := dgX12_isFree_0 (14, (.aload_n 0, 1)) (List.mem_of_getElem? (i := 10) rfl)
theorem dX12_isFree_15 : decode cX12_isFree 15 = .ok (.getfield 352, 3) := dgX12_isFree_0 (15, (.getfield 352, 3)) (List.mem_of_getElem? (i := 11) rfl)
theorem dX12_isFree_18 : decode cX12_isFree 18 = .ok (.invokevirtual 187, 3) := dgX12_isFree_0 (18, (.invokevirtual 187, 3)) (List.mem_of_getElem? (i := 12) rfl)
theorem dX12_isFree_21 : decode cX12_isFree 21 = .ok (.aload_n 0, 1) := dgX12_isFree_0 (21, (.aload_n 0, 1)) (List.mem_of_getElem? (i := 13) rfl)
theorem dX12_isFree_22 : decode cX12_isFree 22 = .ok (.getfield 349, 3) := dgX12_isFree_0 (22, (.getfield 349, 3)) (List.mem_of_getElem? (i := 14) rfl)
theorem dX12_isFree_25 : decode cX12_isFree 25 = .ok (.if_icmp .ne 22, 3) := dgX12_isFree_0 (25, (.if_icmp .ne 22, 3)) (List.mem_of_getElem? (i := 15) rfl)
theorem dX12_isFree_28 : decode cX12_isFree 28 = .ok (.aload_n 0, 1) := dgX12_isFree_0 (28, (.aload_n 0, 1)) (List.mem_of_getElem? (i := 16) rfl)
theorem dX12_isFree_29 : decode cX12_isFree 29 = .ok (.iconst 3, 1) := dgX12_isFree_0 (29, (.iconst 3, 1)) (List.mem_of_getElem? (i := 17) rfl)
theorem dX12_isFree_30 : decode cX12_isFree 30 = .ok (.iconst (-1), 1) := dgX12_isFree_0 (30, (.iconst (-1), 1)) (List.mem_of_getElem? (i := 18) rfl)
theorem dX12_isFree_31 : decode cX12_isFree 31 = .ok (.iload_n 1, 1) := dgX12_isFree_0 (31, (.iload_n 1, 1)) (List.mem_of_getElem? (i := 19) rfl)
theorem dX12_isFree_32 : decode cX12_isFree 32 = .ok (.iconst 0, 1) := dgX12_isFree_0 (32, (.iconst 0, 1)) (List.mem_of_getElem? (i := 20) rfl)
theorem dX12_isFree_33 : decode cX12_isFree 33 = .ok (.iconst 1, 1) := dgX12_isFree_0 (33, (.iconst 1, 1)) (List.mem_of_getElem? (i := 21) rfl)
theorem dX12_isFree_34 : decode cX12_isFree 34 = .ok (.invokevirtual 383, 3) := dgX12_isFree_0 (34, (.invokevirtual 383, 3)) (List.mem_of_getElem? (i := 22) rfl)
theorem dX12_isFree_37 : decode cX12_isFree 37 = .ok (.ifCond .ne 10, 3) := dgX12_isFree_0 (37, (.ifCond .ne 10, 3)) (List.mem_of_getElem? (i := 23) rfl)
theorem dX12_isFree_40 : decode cX12_isFree 40 = .ok (.aload_n 0, 1) := dgX12_isFree_0 (40, (.aload_n 0, 1)) (List.mem_of_getElem? (i := 24) rfl)
theorem dX12_isFree_41 : decode cX12_isFree 41 = .ok (.iload_n 1, 1) := dgX12_isFree_0 (41, (.iload_n 1, 1)) (List.mem_of_getElem? (i := 25) rfl)
theorem dX12_isFree_42 : decode cX12_isFree 42 = .ok (.putfield 371, 3) := dgX12_isFree_0 (42, (.putfield 371, 3)) (List.mem_of_getElem? (i := 26) rfl)
theorem dX12_isFree_45 : decode cX12_isFree 45 = .ok (.iconst 0, 1) := dgX12_isFree_0 (45, (.iconst 0, 1)) (List.mem_of_getElem? (i := 27) rfl)
theorem dX12_isFree_46 : decode cX12_isFree 46 = .ok (.ireturn, 1) := dgX12_isFree_0 (46, (.ireturn, 1)) (List.mem_of_getElem? (i := 28) rfl)
theorem dX12_isFree_47 : decode cX12_isFree 47 = .ok (.iinc 1 1, 3) := dgX12_isFree_0 (47, (.iinc 1 1, 3)) (List.mem_of_getElem? (i := 29) rfl)
theorem dX12_isFree_50 : decode cX12_isFree 50 = .ok (.goto (-48), 3) := dgX12_isFree_0 (50, (.goto (-48), 3)) (List.mem_of_getElem? (i := 30) rfl)
theorem dX12_isFree_53 : decode cX12_isFree 53 = .ok (.iconst 1, 1) := dgX12_isFree_0 (53, (.iconst 1, 1)) (List.mem_of_getElem? (i := 31) rfl)
theorem dX12_isFree_54 : decode cX12_isFree 54 = .ok (.ireturn, 1) := dgX12_isFree_0 (54, (.ireturn, 1)) (List.mem_of_getElem? (i := 32) rfl)
theorem ml_X12_383 : Cond.methodLink RX12 383 yX12_asks ∈ tblG := tg 1622 (by decide +kernel) (by decide +kernel)
theorem im_X12_asks : Cond.instanceMethod yX12_asks ∈ tblG := tg 1624 (by decide +kernel) (by decide +kernel)
theorem se_X12_asks : Cond.selects RX12 yX12_asks yX12_asks ∈ tblG := tg 64 (by decide +kernel) (by decide +kernel)
theorem cd_X12_asks : Cond.code yX12_asks cX12_asks 10 (some .int) ∈ tblG := tg 1625 (by decide +kernel) (by decide +kernel)
theorem gW_X12_asks : GoodIn tblG (wsG yX12_asks cX12_asks 10 (some .int)) := tgi cd_X12_asks
theorem gV_X12_383 : GoodIn tblG (wsV RX12 383 RX12 yX12_asks (wsG yX12_asks cX12_asks 10 (some .int))) := tgV ml_X12_383 im_X12_asks se_X12_asks ini_X12 gW_X12_asks
theorem hv_X12_asks : yX12_asks.cls = RX12 ∧ yX12_asks.cls ≠ "java/lang/invoke/MethodHandle" ∧ yX12_asks.cls ≠ "java/lang/invoke/VarHandle" ∧ (parseMethodDescriptor yX12_asks.desc).map (fun d => d.parameters.length) = some 5 := by decide +kernel
theorem fl_X12_371 : Cond.fieldLink RX12 371 "LateGlassModel" "seen" "I" ∈ tblG := tg 1243 (by decide +kernel) (by decide +kernel)
set_option maxHeartbeats 4000000 in
set_option maxRecDepth 100000 in
theorem n_isFree (l : Launch) (G : g5_G) (b_o b_ro b_se b_re b_rf b_im b_ke b_tp b_nl b_op b_ar b_pi b_pa b_ws b_hw b_pt b_ip b_ah b_be b_me b_tr b_ld b_wn : Nat) (sz : Nat) (u_th : Int32) (u_sa : Int32) (u_fd : Int32) (u_td : Int32) (u_fr : Int32) (u_to : Int32) (u_so : Int32) (u_fa : Int32) (u_bd : Int32) (u_nc : Int32) (u_co : Int32) (u_le : Int32) (u_pd : Int32) (u_od : Int32) (u_la : Int32) (u_bk : Int32) (u_ce : Int32) (u_ho : Int32) (u_wy : Int32) (u_bt : Int32) (u_ps : Int32) (u_tg : Int32) (u_sn : Int32) (u_ic : Int32) (u_wd : Int32) (u_id : Int32) (u_wo : Int64) (u_va : Int64) (u_su : Int64) (u_st : Int64) (v_ro : Nat → Int32) (v_se : Nat → Int64) (v_re : Nat → Int64) (h_u_td : 0 ≤ u_td.toInt ∧ u_td.toInt ≤ 400) (h_u_fr : 0 ≤ u_fr.toInt ∧ u_fr.toInt ≤ 400) (h_u_to : 0 ≤ u_to.toInt ∧ u_to.toInt ≤ 400) (h_u_bd : 0 ≤ u_bd.toInt ∧ u_bd.toInt ≤ 1) (h_u_nc : 0 ≤ u_nc.toInt ∧ u_nc.toInt ≤ 12) (h_u_co : 0 ≤ u_co.toInt ∧ u_co.toInt ≤ 400) (h_u_pd : 0 ≤ u_pd.toInt ∧ u_pd.toInt ≤ 400) (h_u_la : 0 ≤ u_la.toInt ∧ u_la.toInt ≤ 4840) (h_u_bk : 0 ≤ u_bk.toInt ∧ u_bk.toInt ≤ 1) (h_u_ce : 0 ≤ u_ce.toInt ∧ u_ce.toInt ≤ 63) (h_u_ho : 0 ≤ u_ho.toInt ∧ u_ho.toInt ≤ 23) (h_u_wy : 0 ≤ u_wy.toInt ∧ u_wy.toInt ≤ 3) (h_u_bt : 0 ≤ u_bt.toInt ∧ u_bt.toInt ≤ 1000000) (h_u_ps : 0 ≤ u_ps.toInt ∧ u_ps.toInt ≤ 200) (h_u_ic : 0 ≤ u_ic.toInt ∧ u_ic.toInt ≤ 1) (h_u_id : 0 ≤ u_id.toInt ∧ u_id.toInt ≤ 1) (r_ro : MI v_ro) : Met l yX12_isFree (wsG yX12_isFree cX12_isFree 2 (some .boolean)) ({ frames := 4, cells := 0, slots := 0, locals := 101 }) (va_Pc [.ref b_o] (g5_P G [(b_o, (oc12 u_th u_sa b_rf b_ro b_im b_ke u_fd b_tp u_td u_fr u_to u_so u_wo u_fa u_bd u_nc b_nl u_co b_op b_ar u_le b_pi b_pa u_pd u_od b_ws b_hw u_la b_se b_re u_bk u_va u_su u_ce u_ho u_wy u_bt u_ps b_pt u_tg u_sn b_ip u_ic b_ah b_be b_me u_wd b_tr b_ld u_st b_wn u_id)), (b_ro, (arI G 5740 v_ro)), (b_se, (arJ G 13 v_se)), (b_re, (arJ G 400 v_re))] sz)) (va_Qi (fun (r : Int32) (u : va_W) => (∃ (o_r : Int32) (o_la : Int32) (o_bk : Int32) (o_va : Int64) (o_su : Int64) (o_sn : Int32) (o_se : Nat → Int64) (o_re : Nat → Int64), (0 ≤ o_r.toInt ∧ o_r.toInt ≤ 1) ∧ (0 ≤ o_la.toInt ∧ o_la.toInt ≤ 4840) ∧ (0 ≤ o_bk.toInt ∧ o_bk.toInt ≤ 1) ∧ (r = o_r) ∧ (u = [(b_o, (oc12 u_th u_sa b_rf b_ro b_im b_ke u_fd b_tp u_td u_fr u_to u_so u_wo u_fa u_bd u_nc b_nl u_co b_op b_ar u_le b_pi b_pa u_pd u_od b_ws b_hw o_la b_se b_re o_bk o_va o_su u_ce u_ho u_wy u_bt u_ps b_pt u_tg o_sn b_ip u_ic b_ah b_be b_me u_wd b_tr b_ld u_st b_wn u_id)), (b_ro, (arI G 5740 v_ro)), (b_se, (arJ G 13 o_se)), (b_re, (arJ G 400 o_re))]))) (g5_B G (va_A [(b_o, (oc12 u_th u_sa b_rf b_ro b_im b_ke u_fd b_tp u_td u_fr u_to u_so u_wo u_fa u_bd u_nc b_nl u_co b_op b_ar u_le b_pi b_pa u_pd u_od b_ws b_hw u_la b_se b_re u_bk u_va u_su u_ce u_ho u_wy u_bt u_ps b_pt u_tg u_sn b_ip u_ic b_ah b_be b_me u_wd b_tr b_ld u_st b_wn u_id)), (b_ro, (arI G 5740 v_ro)), (b_se, (arJ G 13 v_se)), (b_re, (arJ G 400 v_re))] sz)) (va_A [(b_o, (oc12 u_th u_sa b_rf b_ro b_im b_ke u_fd b_tp u_td u_fr u_to u_so u_wo u_fa u_bd u_nc b_nl u_co b_op b_ar u_le b_pi b_pa u_pd u_od b_ws b_hw u_la b_se b_re u_bk u_va u_su u_ce u_ho u_wy u_bt u_ps b_pt u_tg u_sn b_ip u_ic b_ah b_be b_me u_wd b_tr b_ld u_st b_wn u_id)), (b_ro, (arI G 5740 v_ro)), (b_se, (arJ G 13 v_se)), (b_re, (arJ G 400 v_re))] sz)) 0 0 (va_A [(b_o, (oc12 u_th u_sa b_rf b_ro b_im b_ke u_fd b_tp u_td u_fr u_to u_so u_wo u_fa u_bd u_nc b_nl u_co b_op b_ar u_le b_pi b_pa u_pd u_od b_ws b_hw u_la b_se b_re u_bk u_va u_su u_ce u_ho u_wy u_bt u_ps b_pt u_tg u_sn b_ip u_ic b_ah b_be b_me u_wd b_tr b_ld u_st b_wn u_id)), (b_ro, (arI G 5740 v_ro)), (b_se, (arJ G 13 v_se)), (b_re, (arJ G 400 v_re))] sz) := by
  refine Met.ofW (cc := cX12_isFree) (maxL := 2) (ret := (some .boolean)) (by decide +kernel) rfl ?_
  intro p e s m args below meth c s₁ B hml hv
  obtain ⟨rfl, hsz, hP, hK, hD0, hN, hT⟩ := hv
  have hx := B.exec
  have hb := B.bytes
  have hr := B.returns
  have hts : ∀ w ∈ tblG, w.before _ s = true := fun w h => atoms_spec (ws := (wsG yX12_isFree cX12_isFree 2 (some .boolean))) B.pre w (List.mem_cons_of_mem _ h)
  have hown : s.vm.findClass RX12 = some m.cls := findClass_of_methodNamed B.named
  have hlocks := B.notSynchronized
  subst hsz
  have hD := hD0.self (sz := s.heap.size)
  generalize hAe : va_A [(b_o, (oc12 u_th u_sa b_rf b_ro b_im b_ke u_fd b_tp u_td u_fr u_to u_so u_wo u_fa u_bd u_nc b_nl u_co b_op b_ar u_le b_pi b_pa u_pd u_od b_ws b_hw u_la b_se b_re u_bk u_va u_su u_ce u_ho u_wy u_bt u_ps b_pt u_tg u_sn b_ip u_ic b_ah b_be b_me u_wd b_tr b_ld u_st b_wn u_id)), (b_ro, (arI G 5740 v_ro)), (b_se, (arJ G 13 v_se)), (b_re, (arJ G 400 v_re))] s.heap.size = A at hD hT ⊢
  have hA : ∀ q : Nat, s.heap.size ≤ q → A q := fun q h => by rw [← hAe]; exact Or.inr h
  have hS : va_S A s.heap s.heap [] := va_S.rf
  replace hP : va_P G.1 vwCl [(b_o, (oc12 u_th u_sa b_rf b_ro b_im b_ke u_fd b_tp u_td u_fr u_to u_so u_wo u_fa u_bd u_nc b_nl u_co b_op b_ar u_le b_pi b_pa u_pd u_od b_ws b_hw u_la b_se b_re u_bk u_va u_su u_ce u_ho u_wy u_bt u_ps b_pt u_tg u_sn b_ip u_ic b_ah b_be b_me u_wd b_tr b_ld u_st b_wn u_id)), (b_ro, (arI G 5740 v_ro)), (b_se, (arJ G 13 v_se)), (b_re, (arJ G 400 v_re))] s.heap := hP
  have hl := lv_entry ([.ref b_o]) (n := 2) (Nat.le_of_ble_eq_true rfl)
  rw [lg_entry_eq]
  generalize (lg_sl ([.ref b_o]) ++ List.replicate (2 - (lg_sl ([.ref b_o])).length) Slot.unset).toArray = ls at hl ⊢
  replace hl : lv_has ls 2 [(0, .ref b_o)] := hl
  refine lv_iconst (v := 0) hx hb dX12_isFree_0 (by decide +kernel) ?_
  refine lv_istore_n (lv' := [(1, .int 0), (0, .ref b_o)]) hx hb dX12_isFree_1 rfl hl (by decide +kernel) rfl ?_
  clear hl
  intro ls hl
  refine g5_loop (α := (Int32) × (Int32) × (Int32) × (Int64) × (Int64) × (Int32) × (Nat → Int64) × (Nat → Int64)) (fun (q : (Int32) × (Int32) × (Int32) × (Int64) × (Int64) × (Int32) × (Nat → Int64) × (Nat → Int64)) (ls : Array Slot) (H : Heap) (locs : List Loc) => match q with | (k2_1, k2_la, k2_bk, k2_va, k2_su, k2_sn, k2_se, k2_re) => lv_has ls 2 [(1, .int k2_1), (0, .ref b_o)] ∧ va_P G.1 vwCl [(b_o, (oc12 u_th u_sa b_rf b_ro b_im b_ke u_fd b_tp u_td u_fr u_to u_so u_wo u_fa u_bd u_nc b_nl u_co b_op b_ar u_le b_pi b_pa u_pd u_od b_ws b_hw k2_la b_se b_re k2_bk k2_va k2_su u_ce u_ho u_wy u_bt u_ps b_pt u_tg k2_sn b_ip u_ic b_ah b_be b_me u_wd b_tr b_ld u_st b_wn u_id)), (b_ro, (arI G 5740 v_ro)), (b_se, (arJ G 13 k2_se)), (b_re, (arJ G 400 k2_re))] H ∧ va_D A [(b_o, (oc12 u_th u_sa b_rf b_ro b_im b_ke u_fd b_tp u_td u_fr u_to u_so u_wo u_fa u_bd u_nc b_nl u_co b_op b_ar u_le b_pi b_pa u_pd u_od b_ws b_hw k2_la b_se b_re k2_bk k2_va k2_su u_ce u_ho u_wy u_bt u_ps b_pt u_tg k2_sn b_ip u_ic b_ah b_be b_me u_wd b_tr b_ld u_st b_wn u_id)), (b_ro, (arI G 5740 v_ro)), (b_se, (arJ G 13 k2_se)), (b_re, (arJ G 400 k2_re))] ∧ va_S A s.heap H locs ∧ (0 ≤ k2_1.toInt ∧ k2_1.toInt ≤ 5) ∧ (0 ≤ k2_la.toInt ∧ k2_la.toInt ≤ 4840) ∧ (0 ≤ k2_bk.toInt ∧ k2_bk.toInt ≤ 1)) (fun (q : (Int32) × (Int32) × (Int32) × (Int64) × (Int64) × (Int32) × (Nat → Int64) × (Nat → Int64)) => match q with | (k2_1, k2_la, k2_bk, k2_va, k2_su, k2_sn, k2_se, k2_re) => Int.toNat (5 - k2_1.toInt)) (0, u_la, u_bk, u_va, u_su, u_sn, v_se, v_re) ⟨lv_sub hl [0, 1] rfl, hP, hD, hS, ⟨by decide, by decide⟩, h_u_la, h_u_bk⟩ ?_
  rintro ⟨k2_1, k2_la, k2_bk, k2_va, k2_su, k2_sn, k2_se, k2_re⟩ ls H locs ⟨hl, hP, hD, hS, (i_1 : 0 ≤ k2_1.toInt ∧ k2_1.toInt ≤ 5), (i_2 : 0 ≤ k2_la.toInt ∧ k2_la.toInt ≤ 4840), (i_3 : 0 ≤ k2_bk.toInt ∧ k2_bk.toInt ≤ 1)⟩ ih_2_4
  replace hl : lv_has ls 2 [(1, .int k2_1), (0, .ref b_o)] := hl
  refine g5_rs [(b_o, (oc12 u_th u_sa b_rf b_ro b_im b_ke u_fd b_tp u_td u_fr u_to u_so u_wo u_fa u_bd u_nc b_nl u_co b_op b_ar u_le b_pi b_pa u_pd u_od b_ws b_hw k2_la b_se b_re k2_bk k2_va k2_su u_ce u_ho u_wy u_bt u_ps b_pt u_tg k2_sn b_ip u_ic b_ah b_be b_me u_wd b_tr b_ld u_st b_wn u_id)), (b_ro, (arI G 5740 v_ro)), (b_se, (arJ G 13 k2_se)), (b_re, (arJ G 400 k2_re))] hP hD ?_
  clear hP hD
  intro hP hD
  refine lv_iload_n hx hb dX12_isFree_2 rfl (lv_at hl 0 rfl) ?_
  refine lv_aload_n hx hb dX12_isFree_3 rfl (lv_at hl 1 rfl) ?_
  refine va_get (D := G.1) (ci := 12) (v := .ref b_ro) (C := RX12) (T := TX12) (N := 52) hx hb hts inG_X12 hown hK hP 0 rfl rfl 3 (by decide +kernel) (hts _ fl_X12_13) (fun _ h9 => h9) rfl dX12_isFree_4 ?_
  refine lv_iconst (v := 1) hx hb dX12_isFree_7 (by decide +kernel) ?_
  refine va_iald hx hb hK hP 1 0 rfl rfl (i := 1) (by unfold vp_in; decide) dX12_isFree_8 ?_
  refine g5_ti (v := (v_ro 1)) rfl ?_
  have hr_5 : 0 ≤ (v_ro 1).toInt ∧ (v_ro 1).toInt ≤ 5 := mi_1 r_ro
  refine lv_icmp_ge (tgt := 53) hx hb dX12_isFree_9 (by decide +kernel) (fun c_6 => ?_) (fun c_6 => ?_)
  ·
    have i_6 : k2_1.toInt ≥ (v_ro 1).toInt := g5_ge (a := k2_1.toInt) (b := (v_ro 1).toInt) rfl rfl c_6
    refine lv_iconst (v := 1) hx hb dX12_isFree_53 (by decide +kernel) ?_
    exact W.zret (v := 1) hx hb hr rfl (fun t ht hW => ⟨⟨1, [(b_o, (oc12 u_th u_sa b_rf b_ro b_im b_ke u_fd b_tp u_td u_fr u_to u_so u_wo u_fa u_bd u_nc b_nl u_co b_op b_ar u_le b_pi b_pa u_pd u_od b_ws b_hw k2_la b_se b_re k2_bk k2_va k2_su u_ce u_ho u_wy u_bt u_ps b_pt u_tg k2_sn b_ip u_ic b_ah b_be b_me u_wd b_tr b_ld u_st b_wn u_id)), (b_ro, (arI G 5740 v_ro)), (b_se, (arJ G 13 k2_se)), (b_re, (arJ G 400 k2_re))], rfl, ⟨1, k2_la, k2_bk, k2_va, k2_su, k2_sn, k2_se, k2_re, ⟨by have zc_o_r : (1 : Int32).toInt = 1 := (by decide +kernel); omega, by have zc_o_r : (1 : Int32).toInt = 1 := (by decide +kernel); omega⟩, i_2, i_3, rfl, rfl⟩, by rw [ht]; exact hP.sub [0, 1, 2, 3] rfl, hD.sub [0, 1, 2, 3] (by decide +kernel) rfl⟩, hS.F ht⟩) hS.2.2 dX12_isFree_54
  ·
    have i_6 : k2_1.toInt < (v_ro 1).toInt := g5_geN (a := k2_1.toInt) (b := (v_ro 1).toInt) rfl rfl c_6
    refine lv_aload_n hx hb dX12_isFree_12 rfl (lv_at hl 1 rfl) ?_
    refine lv_iload_n hx hb dX12_isFree_13 rfl (lv_at hl 0 rfl) ?_
    refine lv_aload_n hx hb dX12_isFree_14 rfl (lv_at hl 1 rfl) ?_
    refine va_get (D := G.1) (ci := 12) (v := .int u_ho) (C := RX12) (T := TX12) (N := 52) hx hb hts inG_X12 hown hK hP 0 rfl rfl 34 (by decide +kernel) (hts _ fl_X12_352) (fun _ h9 => h9) rfl dX12_isFree_15 ?_
    obtain ⟨hPc, hDc, hFc⟩ := g5_sub3 (wc := [(b_o, (oc12 u_th u_sa b_rf b_ro b_im b_ke u_fd b_tp u_td u_fr u_to u_so u_wo u_fa u_bd u_nc b_nl u_co b_op b_ar u_le b_pi b_pa u_pd u_od b_ws b_hw k2_la b_se b_re k2_bk k2_va k2_su u_ce u_ho u_wy u_bt u_ps b_pt u_tg k2_sn b_ip u_ic b_ah b_be b_me u_wd b_tr b_ld u_st b_wn u_id)), (b_ro, (arI G 5740 v_ro))]) hP hD hS hA [0, 1] (by decide +kernel) rfl
    refine va_calli (va_runV (As := [.int k2_1, .int u_ho]) (rest := []) ⟨hx, hb, hml, hown, hts⟩ (n_whereIs l G b_o b_ro b_rf b_im b_ke b_tp b_nl b_op b_ar b_pi b_pa b_ws b_hw b_se b_re b_pt b_ip b_ah b_be b_me b_tr b_ld b_wn H.size u_th u_sa u_fd u_td u_fr u_to u_so u_fa u_bd u_nc u_co u_le u_pd u_od k2_la k2_bk u_ce u_ho u_wy u_bt u_ps u_tg k2_sn u_ic u_wd u_id k2_1 u_ho u_wo k2_va k2_su u_st v_ro h_u_td h_u_fr h_u_to h_u_bd h_u_nc h_u_co h_u_pd i_2 i_3 h_u_ce h_u_ho h_u_wy h_u_bt h_u_ps h_u_ic h_u_id ⟨by omega, by omega⟩ h_u_ho (r_ro)) (cwV 2 hts gV_X12_187 rfl rfl rfl hv_X12_whereIs ⟨Nat.le_of_ble_eq_true rfl, Nat.le_of_ble_eq_true rfl⟩) (g5_preV hPc hK hDc hN hT hS hFc (ci := 12) (q0 := 0) rfl rfl) rfl rfl hl.1 rfl (lv_room (Nat.le_of_ble_eq_true rfl)) dX12_isFree_18 ⟨Nat.le_of_ble_eq_true rfl, Nat.le_of_ble_eq_true rfl⟩) hS (fun q _ h => hFc q h) hFc (fun r u t H locs ht hvm hw hB hz1 hk1 hS => ?_)
    obtain ⟨hP1, hD1⟩ := hB
    have hP1 := g5_ht ht hP1
    obtain ⟨z7, y8, rfl⟩ := hw
    have hJ9 := va_join (wr := [(b_se, (arJ G 13 k2_se)), (b_re, (arJ G 400 k2_re))]) hP hD [0, 1] [2, 3] rfl rfl (by decide +kernel) (by decide +kernel) hk1 hFc hP1 hD1
    clear hP hD hPc hDc hFc ht hvm hz1 hk1 hP1 hD1
    obtain ⟨hP, hD⟩ := hJ9
    refine g5_rs [(b_se, (arJ G 13 k2_se)), (b_re, (arJ G 400 k2_re)), (b_o, (oc12 u_th u_sa b_rf b_ro b_im b_ke u_fd b_tp u_td u_fr u_to u_so u_wo u_fa u_bd u_nc b_nl u_co b_op b_ar u_le b_pi b_pa u_pd u_od b_ws b_hw k2_la b_se b_re k2_bk k2_va k2_su u_ce u_ho u_wy u_bt u_ps b_pt u_tg k2_sn b_ip u_ic b_ah b_be b_me u_wd b_tr b_ld u_st b_wn u_id)), (b_ro, (arI G 5740 v_ro))] hP hD ?_
    clear hP hD
    intro hP hD
    refine g5_ti (v := z7) y8 ?_
    refine lv_aload_n hx hb dX12_isFree_21 rfl (lv_at hl 1 rfl) ?_
    refine va_get (D := G.1) (ci := 12) (v := .int u_ce) (C := RX12) (T := TX12) (N := 52) hx hb hts inG_X12 hown hK hP 2 rfl rfl 33 (by decide +kernel) (hts _ fl_X12_349) (fun _ h9 => h9) rfl dX12_isFree_22 ?_
    refine lv_icmp_ne (tgt := 47) hx hb dX12_isFree_25 (by decide +kernel) (fun c_9 => ?_) (fun c_9 => ?_)
    ·
      have n_9 : gNe (z7.toInt) (u_ce.toInt) := g5_ne (a := z7.toInt) (b := u_ce.toInt) rfl rfl c_9
      refine lv_iinc (v := (k2_1 + 1)) (lv' := [(1, .int (k2_1 + 1)), (0, .ref b_o)]) hx hb dX12_isFree_47 hl (k := 0) rfl rfl (by decide +kernel) rfl ?_
      clear hl
      intro ls hl
      have t_10 : (k2_1 + 1).toInt = k2_1.toInt + 1 := g5_iadd (a := k2_1.toInt) (b := 1) rfl (by decide +kernel) (by omega) (by omega)
      refine lv_goto (tgt := 2) hx hb dX12_isFree_50 (by decide +kernel) ?_
      exact ih_2_4 ((k2_1 + 1), k2_la, k2_bk, k2_va, k2_su, k2_sn, k2_se, k2_re) ls H locs (show Int.toNat (5 - (k2_1 + 1).toInt) < Int.toNat (5 - k2_1.toInt) from g_up (show k2_1.toInt < (k2_1 + 1).toInt by omega) (show k2_1.toInt < 5 by omega)) ⟨lv_sub hl [0, 1] rfl, hP.sub [2, 3, 0, 1] rfl, hD.sub [2, 3, 0, 1] (by decide +kernel) rfl, hS, ⟨by omega, by omega⟩, i_2, i_3⟩
    ·
      have i_9 : z7.toInt = u_ce.toInt := g5_neN (a := z7.toInt) (b := u_ce.toInt) rfl rfl c_9
      refine lv_aload_n hx hb dX12_isFree_28 rfl (lv_at hl 1 rfl) ?_
      refine lv_iconst (v := 3) hx hb dX12_isFree_29 (by decide +kernel) ?_
      refine lv_iconst (v := (-1)) hx hb dX12_isFree_30 (by decide +kernel) ?_
      refine lv_iload_n hx hb dX12_isFree_31 rfl (lv_at hl 0 rfl) ?_
      refine lv_iconst (v := 0) hx hb dX12_isFree_32 (by decide +kernel) ?_
      refine lv_iconst (v := 1) hx hb dX12_isFree_33 (by decide +kernel) ?_
      obtain ⟨hPc, hDc, hFc⟩ := g5_sub3 (wc := [(b_o, (oc12 u_th u_sa b_rf b_ro b_im b_ke u_fd b_tp u_td u_fr u_to u_so u_wo u_fa u_bd u_nc b_nl u_co b_op b_ar u_le b_pi b_pa u_pd u_od b_ws b_hw k2_la b_se b_re k2_bk k2_va k2_su u_ce u_ho u_wy u_bt u_ps b_pt u_tg k2_sn b_ip u_ic b_ah b_be b_me u_wd b_tr b_ld u_st b_wn u_id)), (b_ro, (arI G 5740 v_ro)), (b_se, (arJ G 13 k2_se)), (b_re, (arJ G 400 k2_re))]) hP hD hS hA [2, 3, 0, 1] (by decide +kernel) rfl
      refine va_calli (va_runV (As := [.int 3, .int (-1), .int k2_1, .int 0, .int 1]) (rest := []) ⟨hx, hb, hml, hown, hts⟩ (n_asks l G b_o b_ro b_se b_re b_rf b_im b_ke b_tp b_nl b_op b_ar b_pi b_pa b_ws b_hw b_pt b_ip b_ah b_be b_me b_tr b_ld b_wn H.size u_th u_sa u_fd u_td u_fr u_to u_so u_fa u_bd u_nc u_co u_le u_pd u_od k2_la k2_bk u_ce u_ho u_wy u_bt u_ps u_tg k2_sn u_ic u_wd u_id 3 (-1) k2_1 0 1 u_wo k2_va k2_su u_st v_ro k2_se k2_re h_u_td h_u_fr h_u_to h_u_bd h_u_nc h_u_co h_u_pd i_2 i_3 h_u_ce h_u_ho h_u_wy h_u_bt h_u_ps h_u_ic h_u_id ⟨by decide, by decide⟩ ⟨by decide, by decide⟩ (r_ro) (by decide +kernel)) (cwV 5 hts gV_X12_383 rfl rfl rfl hv_X12_asks ⟨Nat.le_of_ble_eq_true rfl, Nat.le_of_ble_eq_true rfl⟩) (g5_preV hPc hK hDc hN hT hS hFc (ci := 12) (q0 := 0) rfl rfl) rfl rfl hl.1 rfl (lv_room (Nat.le_of_ble_eq_true rfl)) dX12_isFree_34 ⟨Nat.le_of_ble_eq_true rfl, Nat.le_of_ble_eq_true rfl⟩) hS (fun q _ h => hFc q h) hFc (fun r u t H locs ht hvm hw hB hz1 hk1 hS => ?_)
      obtain ⟨hP1, hD1⟩ := hB
      have hP1 := g5_ht ht hP1
      obtain ⟨z15, z16, z17, z18, z19, z20, z21, (i_11 : 0 ≤ z15.toInt ∧ z15.toInt ≤ 23), (i_12 : 0 ≤ z15.toInt ∧ z15.toInt ≤ (1 : Int32).toInt), (i_13 : 0 ≤ z16.toInt ∧ z16.toInt ≤ 4840), (i_14 : 0 ≤ z17.toInt ∧ z17.toInt ≤ 1), y22, rfl⟩ := hw
      have hJ9 := va_join (wr := []) hP hD [2, 3, 0, 1] [] rfl rfl (by decide +kernel) (by decide +kernel) hk1 hFc hP1 hD1
      clear hP hD hPc hDc hFc ht hvm hz1 hk1 hP1 hD1
      obtain ⟨hP, hD⟩ := hJ9
      refine g5_rs [(b_o, (oc12 u_th u_sa b_rf b_ro b_im b_ke u_fd b_tp u_td u_fr u_to u_so u_wo u_fa u_bd u_nc b_nl u_co b_op b_ar u_le b_pi b_pa u_pd u_od b_ws b_hw z16 b_se b_re z17 z18 z19 u_ce u_ho u_wy u_bt u_ps b_pt u_tg k2_sn b_ip u_ic b_ah b_be b_me u_wd b_tr b_ld u_st b_wn u_id)), (b_ro, (arI G 5740 v_ro)), (b_se, (arJ G 13 z20)), (b_re, (arJ G 400 z21))] hP hD ?_
      clear hP hD
      intro hP hD
      refine g5_ti (v := z15) y22 ?_
      refine lv_if_ne (tgt := 47) hx hb dX12_isFree_37 (by decide +kernel) (fun c_23 => ?_) (fun c_23 => ?_)
      ·
        have n_23 : gNe (z15.toInt) (0) := g5_ne (a := z15.toInt) (b := 0) rfl (by decide +kernel) c_23
        have i_23 : z15.toInt ≥ 1 := by have z := g5_ne (a := z15.toInt) (b := 0) (by rfl) (by decide +kernel) c_23; omega
        refine lv_iinc (v := (k2_1 + 1)) (lv' := [(1, .int (k2_1 + 1)), (0, .ref b_o)]) hx hb dX12_isFree_47 hl (k := 0) rfl rfl (by decide +kernel) rfl ?_
        clear hl
        intro ls hl
        have t_24 : (k2_1 + 1).toInt = k2_1.toInt + 1 := g5_iadd (a := k2_1.toInt) (b := 1) rfl (by decide +kernel) (by omega) (by omega)
        refine lv_goto (tgt := 2) hx hb dX12_isFree_50 (by decide +kernel) ?_
        exact ih_2_4 ((k2_1 + 1), z16, z17, z18, z19, k2_sn, z20, z21) ls H locs (show Int.toNat (5 - (k2_1 + 1).toInt) < Int.toNat (5 - k2_1.toInt) from g_up (show k2_1.toInt < (k2_1 + 1).toInt by omega) (show k2_1.toInt < 5 by omega)) ⟨lv_sub hl [0, 1] rfl, hP, hD, hS, ⟨by omega, by omega⟩, i_13, i_14⟩
      ·
        have i_23 : z15.toInt = 0 := g5_neN (a := z15.toInt) (b := 0) rfl (by decide +kernel) c_23
        refine lv_aload_n hx hb dX12_isFree_40 rfl (lv_at hl 1 rfl) ?_
        refine lv_iload_n hx hb dX12_isFree_41 rfl (lv_at hl 0 rfl) ?_
        refine va_put (D := G.1) (ci := 12) (v := .int k2_1) (ty := .int) (C := RX12) (T := TX12) (N := 52) hx hb hts inG_X12 tyX12 tyX12_ok nmX12 hown hK hP hD hS 0 rfl rfl 40 (by decide +kernel) (hts _ fl_X12_371) (fun _ h9 => h9) rfl (by decide +kernel) rfl rfl (Nat.le_of_ble_eq_true rfl) dX12_isFree_42 ?_
        clear hP hD hS
        intro H locs hP hD hS
        refine g5_rs [(b_o, (oc12 u_th u_sa b_rf b_ro b_im b_ke u_fd b_tp u_td u_fr u_to u_so u_wo u_fa u_bd u_nc b_nl u_co b_op b_ar u_le b_pi b_pa u_pd u_od b_ws b_hw z16 b_se b_re z17 z18 z19 u_ce u_ho u_wy u_bt u_ps b_pt u_tg k2_1 b_ip u_ic b_ah b_be b_me u_wd b_tr b_ld u_st b_wn u_id)), (b_ro, (arI G 5740 v_ro)), (b_se, (arJ G 13 z20)), (b_re, (arJ G 400 z21))] hP hD ?_
        clear hP hD
        intro hP hD
        refine lv_iconst (v := 0) hx hb dX12_isFree_45 (by decide +kernel) ?_
        exact W.zret (v := 0) hx hb hr rfl (fun t ht hW => ⟨⟨0, [(b_o, (oc12 u_th u_sa b_rf b_ro b_im b_ke u_fd b_tp u_td u_fr u_to u_so u_wo u_fa u_bd u_nc b_nl u_co b_op b_ar u_le b_pi b_pa u_pd u_od b_ws b_hw z16 b_se b_re z17 z18 z19 u_ce u_ho u_wy u_bt u_ps b_pt u_tg k2_1 b_ip u_ic b_ah b_be b_me u_wd b_tr b_ld u_st b_wn u_id)), (b_ro, (arI G 5740 v_ro)), (b_se, (arJ G 13 z20)), (b_re, (arJ G 400 z21))], rfl, ⟨0, z16, z17, z18, z19, k2_1, z20, z21, ⟨by have zc_o_r : (0 : Int32).toInt = 0 := (by decide +kernel); omega, by have zc_o_r : (0 : Int32).toInt = 0 := (by decide +kernel); omega⟩, i_13, i_14, rfl, rfl⟩, by rw [ht]; exact hP.sub [0, 1, 2, 3] rfl, hD.sub [0, 1, 2, 3] (by decide +kernel) rfl⟩, hS.F ht⟩) hS.2.2 dX12_isFree_46
theorem dgX12_turns_0 : ∀ r ∈ ([(0, (.iload 5, 2)), (2, (.ifCond .ne 31, 3)), (5, (.aload_n 0, 1)), (6, (.iconst 2, 1)), (7, (.iload_n 1, 1)), (8, (.iconst (-1), 1)), (9, (.iconst 0, 1)), (10, (.iconst 1, 1)), (11, (.invokevirtual 383, 3)), (14, (.iconst 1, 1)), (15, (.if_icmp .eq 18, 3)), (18, (.iload_n 2, 1)), (19, (.iconst 1, 1)), (20, (.if_icmp .le 15, 3)), (23, (.aload_n 0, 1)), (24, (.getfield 355, 3)), (27, (.iload_n 2, 1)), (28, (.iconst 4, 1)), (29, (.irem, 1)), (30, (.if_icmp .eq 5, 3)), (33, (.iconst 0, 1)), (34, (.ireturn, 1)), (35, (.aload_n 0, 1)), (36, (.iconst 0, 1)), (37, (.iload_n 1, 1)), (38, (.iconst (-1), 1)), (39, (.iload_n 3, 1)), (40, (.bipush 23, 2)), (42, (.invokevirtual 383, 3)), (45, (.istore 6, 2)), (47, (.aload_n 0, 1)), (48, (.iconst 1, 1)), (49, (.iload_n 1, 1)), (50, (.iconst (-1), 1)), (51, (.iload 4, 2)), (53, (.bipush 10, 2)), (55, (.invokevirtual 383, 3)), (58, (.istore 7, 2)), (60, (.aload_n 0, 1)), (61, (.getfield 352, 3))] : List (Nat × (Instr × Nat))), decode cX12_turns r.1 = .ok r.2 := by decide +kernel
theorem dX12_turns_0 : decode cX12_turns 0 = .ok (.iload 5, 2) := dgX12_turns_0 (0, (.iload 5, 2)) (List.mem_of_getElem? (i := 0) rfl)
theorem dX12_turns_2 : decode cX12_turns 2 = .ok (.ifCond .ne 31, 3) := dgX12_turns_0 (2, (.ifCond .ne 31, 3)) (List.mem_of_getElem? (i := 1) rfl)
theorem dX12_turns_5 : decode cX12_turns 5 = .ok (.aload_n 0, 1) := dgX12_turns_0 (5, (.aload_n 0, 1)) (List.mem_of_getElem? (i := 2) rfl)
theorem dX12_turns_6 : decode cX12_turns 6 = .ok (.iconst 2, 1) := dgX12_turns_0 (6, (.iconst 2, 1)) (List.mem_of_getElem? (i := 3) rfl)
theorem dX12_turns_7 : decode cX12_turns 7 = .ok (.iload_n 1, 1) := dgX12_turns_0 (7, (.iload_n 1, 1)) (List.mem_of_getElem? (i := 4) rfl)
theorem dX12_turns_8 : decode cX12_turns 8 = .ok (.iconst (-1), 1) := dgX12_turns_0 (8, (.iconst (-1), 1)) (List.mem_of_getElem? (i := 5) rfl)
theorem dX12_turns_9 : decode cX12_turns 9 = .ok (.iconst 0, 1) := dgX12_turns_0 (9, (.iconst 0, 1)) (List.mem_of_getElem? (i := 6) rfl)
theorem dX12_turns_10 : decode cX12_turns 10 = .ok (.iconst 1, 1) := dgX12_turns_0 (10, (.iconst 1, 1)) (List.mem_of_getElem? (i := 7) rfl)
theorem dX12_turns_11 : decode cX12_turns 11 = .ok (.invokevirtual 383, 3) := dgX12_turns_0 (11, (.invokevirtual 383, 3)) (List.mem_of_getElem? (i := 8) rfl)
theorem dX12_turns_14 : decode cX12_turns 14 = .ok (.iconst 1, 1) := dgX12_turns_0 (14, (.iconst 1, 1)) (List.mem_of_getElem? (i := 9) rfl)
theorem dX12_turns_15 : decode cX12_turns 15 = .ok (.if_icmp .eq 18, 3) := dgX12_turns_0 (15, (.if_icmp .eq 18, 3)) (List.mem_of_getElem? (i := 10) rfl)
theorem dX12_turns_18 : decode cX12_turns 18 = .ok (.iload_n 2, 1) := dgX12_turns_0 (18, (.iload_n 2, 1)) (List.mem_of_getElem? (i := 11) rfl)
theorem dX12_turns_19 : decode cX12_turns 19 = .ok (.iconst 1, 1) := dgX12_turns_0 (19, (.iconst 1, 1)) (List.mem_of_getElem? (i := 12) rfl)
theorem dX12_turns_20 : decode cX12_turns 20 = .ok (.if_icmp .le 15, 3) := dgX12_turns_0 (20, (.if_icmp .le 15, 3)) (List.mem_of_getElem? (i := 13) rfl)
theorem dX12_turns_23 : decode cX12_turns 23 = .ok (.aload_n 0, 1) := dgX12_turns_0 (23, (.aload_n 0, 1)) (List.mem_of_getElem? (i := 14) rfl)
theorem dX12_turns_24 : decode cX12_turns 24 = .ok (.getfield 355, 3) := dgX12_turns_0 (24, (.getfield 355, 3)) (List.mem_of_getElem? (i := 15) rfl)
theorem dX12_turns_27 : decode cX12_turns 27 = .ok (.iload_n 2, 1) := dgX12_turns_0 (27, (.iload_n 2, 1)) (List.mem_of_getElem? (i := 16) rfl)
theorem dX12_turns_28 : decode cX12_turns 28 = .ok (.iconst 4, 1) := dgX12_turns_0 (28, (.iconst 4, 1)) (List.mem_of_getElem? (i := 17) rfl)
theorem dX12_turns_29 : decode cX12_turns 29 = .ok (.irem, 1) := dgX12_turns_0 (29, (.irem, 1)) (List.mem_of_getElem? (i := 18) rfl)
theorem dX12_turns_30 : decode cX12_turns 30 = .ok (.if_icmp .eq 5, 3) := dgX12_turns_0 (30, (.if_icmp .eq 5, 3)) (List.mem_of_getElem? (i := 19) rfl)
theorem dX12_turns_33 : decode cX12_turns 33 = .ok (.iconst 0, 1) := dgX12_turns_0 (33, (.iconst 0, 1)) (List.mem_of_getElem? (i := 20) rfl)
theorem dX12_turns_34 : decode cX12_turns 34 = .ok (.ireturn, 1) := dgX12_turns_0 (34, (.ireturn, 1)) (List.mem_of_getElem? (i := 21) rfl)
theorem dX12_turns_35 : decode cX12_turns 35 = .ok (.aload_n 0, 1) := dgX12_turns_0 (35, (.aload_n 0, 1)) (List.mem_of_getElem? (i := 22) rfl)
theorem dX12_turns_36 : decode cX12_turns 36 = .ok (.iconst 0, 1) := dgX12_turns_0 (36, (.iconst 0, 1)) (List.mem_of_getElem? (i := 23) rfl)
theorem dX12_turns_37 : decode cX12_turns 37 = .ok (.iload_n 1, 1) := dgX12_turns_0 (37, (.iload_n 1, 1)) (List.mem_of_getElem? (i := 24) rfl)
theorem dX12_turns_38 : decode cX12_turns 38 = .ok (.iconst (-1), 1) := dgX12_turns_0 (38, (.iconst (-1), 1)) (List.mem_of_getElem? (i := 25) rfl)
theorem dX12_turns_39 : decode cX12_turns 39 = .ok (.iload_n 3, 1) := dgX12_turns_0 (39, (.iload_n 3, 1)) (List.mem_of_getElem? (i := 26) rfl)
theorem dX12_turns_40 : decode cX12_turns 40 = .ok (.bipush 23, 2) := dgX12_turns_0 (40, (.bipush 23, 2)) (List.mem_of_getElem? (i := 27) rfl)
theorem dX12_turns_42 : decode cX12_turns 42 = .ok (.invokevirtual 383, 3) := dgX12_turns_0 (42, (.invokevirtual 383, 3)) (List.mem_of_getElem? (i := 28) rfl)
theorem dX12_turns_45 : decode cX12_turns 45 = .ok (.istore 6, 2) := dgX12_turns_0 (45, (.istore 6, 2)) (List.mem_of_getElem? (i := 29) rfl)
theorem dX12_turns_47 : decode cX12_turns 47 = .ok (.aload_n 0, 1) := dgX12_turns_0 (47, (.aload_n 0, 1)) (List.mem_of_getElem? (i := 30) rfl)
theorem dX12_turns_48 : decode cX12_turns 48 = .ok (.iconst 1, 1) := dgX12_turns_0 (48, (.iconst 1, 1)) (List.mem_of_getElem? (i := 31) rfl)
theorem dX12_turns_49 : decode cX12_turns 49 = .ok (.iload_n 1, 1) := dgX12_turns_0 (49, (.iload_n 1, 1)) (List.mem_of_getElem? (i := 32) rfl)
theorem dX12_turns_50 : decode cX12_turns 50 = .ok (.iconst (-1), 1) := dgX12_turns_0 (50, (.iconst (-1), 1)) (List.mem_of_getElem? (i := 33) rfl)
theorem dX12_turns_51 : decode cX12_turns 51 = .ok (.iload 4, 2) := dgX12_turns_0 (51, (.iload 4, 2)) (List.mem_of_getElem? (i := 34) rfl)
theorem dX12_turns_53 : decode cX12_turns 53 = .ok (.bipush 10, 2) := dgX12_turns_0 (53, (.bipush 10, 2)) (List.mem_of_getElem? (i := 35) rfl)
theorem dX12_turns_55 : decode cX12_turns 55 = .ok (.invokevirtual 383, 3) := dgX12_turns_0 (55, (.invokevirtual 383, 3)) (List.mem_of_getElem? (i := 36) rfl)
theorem dX12_turns_58 : decode cX12_turns 58 = .ok (.istore 7, 2) := dgX12_turns_0 (58, (.istore 7, 2)) (List.mem_of_getElem? (i := 37) rfl)
theorem dX12_turns_60 : decode cX12_turns 60 = .ok (.aload_n 0, 1) := dgX12_turns_0 (60, (.aload_n 0, 1)) (List.mem_of_getElem? (i := 38) rfl)
theorem dX12_turns_61 : decode cX12_turns 61 = .ok (.getfield 352, 3) := dgX12_turns_0 (61, (.getfield 352, 3)) (List.mem_of_getElem? (i := 39) rfl)
theorem dgX12_turns_1 : ∀ r ∈ ([(64, (.iload 6, 2)), (66, (.if_icmp .ge 5, 3)), (69, (.iconst 0, 1)), (70, (.ireturn, 1)), (71, (.aload_n 0, 1)), (72, (.dup, 1)), (73, (.getfield 352, 3)), (76, (.iload 6, 2)), (78, (.isub, 1)), (79, (.putfield 352, 3)), (82, (.aload_n 0, 1)), (83, (.aload_n 0, 1)), (84, (.getfield 361, 3)), (87, (.bipush 10, 2)), (89, (.iload 7, 2)), (91, (.isub, 1)), (92, (.imul, 1)), (93, (.bipush 10, 2)), (95, (.idiv, 1)), (96, (.putfield 361, 3)), (99, (.aload_n 0, 1)), (100, (.getfield 361, 3)), (103, (.aload_n 0, 1)), (104, (.getfield 13, 3)), (107, (.iconst 4, 1)), (108, (.iaload, 1)), (109, (.if_icmp .ge 5, 3)), (112, (.iconst 0, 1)), (113, (.ireturn, 1)), (114, (.aload_n 0, 1)), (115, (.iload_n 2, 1)), (116, (.ifCond .ne 12, 3)), (119, (.aload_n 0, 1)), (120, (.getfield 355, 3)), (123, (.iconst 1, 1)), (124, (.ixor, 1)), (125, (.goto 25, 3)), (128, (.iload_n 2, 1)), (129, (.iconst 1, 1)), (130, (.if_icmp .ne 12, 3))] : List (Nat × (Instr × Nat))), decode cX12_turns r.1 = .ok r.2 := by decide +kernel
theorem dX12_turns_64 : decode cX12_turns 64 = .ok (.iload 6, 2) := dgX12_turns_1 (64, (.iload 6, 2)) (List.mem_of_getElem? (i := 0) rfl)
theorem dX12_turns_66 : decode cX12_turns 66 = .ok (.if_icmp .ge 5, 3) := dgX12_turns_1 (66, (.if_icmp .ge 5, 3)) (List.mem_of_getElem? (i := 1) rfl)
theorem dX12_turns_69 : decode cX12_turns 69 = .ok (.iconst 0, 1) := dgX12_turns_1 (69, (.iconst 0, 1)) (List.mem_of_getElem? (i := 2) rfl)
theorem dX12_turns_70 : decode cX12_turns 70 = .ok (.ireturn, 1) := dgX12_turns_1 (70, (.ireturn, 1)) (List.mem_of_getElem? (i := 3) rfl)
theorem dX12_turns_71 : decode cX12_turns 71 = .ok (.aload_n 0, 1) := dgX12_turns_1 (71, (.aload_n 0, 1)) (List.mem_of_getElem? (i := 4) rfl)
theorem dX12_turns_72 : decode cX12_turns 72 = .ok (.dup, 1) := dgX12_turns_1 (72, (.dup, 1)) (List.mem_of_getElem? (i := 5) rfl)
theorem dX12_turns_73 : decode cX12_turns 73 = .ok (.getfield 352, 3) := dgX12_turns_1 (73, (.getfield 352, 3)) (List.mem_of_getElem? (i := 6) rfl)
theorem dX12_turns_76 : decode cX12_turns 76 = .ok (.iload 6, 2) := dgX12_turns_1 (76, (.iload 6, 2)) (List.mem_of_getElem? (i := 7) rfl)
theorem dX12_turns_78 : decode cX12_turns 78 = .ok (.isub, 1) := dgX12_turns_1 (78, (.isub, 1)) (List.mem_of_getElem? (i := 8) rfl)
theorem dX12_turns_79 : decode cX12_turns 79 = .ok (.putfield 352, 3) := dgX12_turns_1 (79, (.putfield 352, 3)) (List.mem_of_getElem? (i := 9) rfl)
theorem dX12_turns_82 : decode cX12_turns 82 = .ok (.aload_n 0, 1) := dgX12_turns_1 (82, (.aload_n 0, 1)) (List.mem_of_getElem? (i := 10) rfl)
theorem dX12_turns_83 : decode cX12_turns 83 = .ok (.aload_n 0, 1) := dgX12_turns_1 (83, (.aload_n 0, 1)) (List.mem_of_getElem? (i := 11) rfl)
theorem dX12_turns_84 : decode cX12_turns 84 = .ok (.getfield 361, 3) := dgX12_turns_1 (84, (.getfield 361, 3)) (List.mem_of_getElem? (i := 12) rfl)
theorem dX12_turns_87 : decode cX12_turns 87 = .ok (.bipush 10, 2) := dgX12_turns_1 (87, (.bipush 10, 2)) (List.mem_of_getElem? (i := 13) rfl)
theorem dX12_turns_89 : decode cX12_turns 89 = .ok (.iload 7, 2) := dgX12_turns_1 (89, (.iload 7, 2)) (List.mem_of_getElem? (i := 14) rfl)
theorem dX12_turns_91 : decode cX12_turns 91 = .ok (.isub, 1) := dgX12_turns_1 (91, (.isub, 1)) (List.mem_of_getElem? (i := 15) rfl)
theorem dX12_turns_92 : decode cX12_turns 92 = .ok (.imul, 1) := dgX12_turns_1 (92, (.imul, 1)) (List.mem_of_getElem? (i := 16) rfl)
theorem dX12_turns_93 : decode cX12_turns 93 = .ok (.bipush 10, 2) := dgX12_turns_1 (93, (.bipush 10, 2)) (List.mem_of_getElem? (i := 17) rfl)
theorem dX12_turns_95 : decode cX12_turns 95 = .ok (.idiv, 1) := dgX12_turns_1 (95, (.idiv, 1)) (List.mem_of_getElem? (i := 18) rfl)
theorem dX12_turns_96 : decode cX12_turns 96 = .ok (.putfield 361, 3) := dgX12_turns_1 (96, (.putfield 361, 3)) (List.mem_of_getElem? (i := 19) rfl)
theorem dX12_turns_99 : decode cX12_turns 99 = .ok (.aload_n 0, 1) := dgX12_turns_1 (99, (.aload_n 0, 1)) (List.mem_of_getElem? (i := 20) rfl)
theorem dX12_turns_100 : decode cX12_turns 100 = .ok (.getfield 361, 3) := dgX12_turns_1 (100, (.getfield 361, 3)) (List.mem_of_getElem? (i := 21) rfl)
theorem dX12_turns_103 : decode cX12_turns 103 = .ok (.aload_n 0, 1) := dgX12_turns_1 (103, (.aload_n 0, 1)) (List.mem_of_getElem? (i := 22) rfl)
theorem dX12_turns_104 : decode cX12_turns 104 = .ok (.getfield 13, 3) := dgX12_turns_1 (104, (.getfield 13, 3)) (List.mem_of_getElem? (i := 23) rfl)
theorem dX12_turns_107 : decode cX12_turns 107 = .ok (.iconst 4, 1) := dgX12_turns_1 (107, (.iconst 4, 1)) (List.mem_of_getElem? (i := 24) rfl)
theorem dX12_turns_108 : decode cX12_turns 108 = .ok (.iaload, 1) := dgX12_turns_1 (108, (.iaload, 1)) (List.mem_of_getElem? (i := 25) rfl)
theorem dX12_turns_109 : decode cX12_turns 109 = .ok (.if_icmp .ge 5, 3) := dgX12_turns_1 (109, (.if_icmp .ge 5, 3)) (List.mem_of_getElem? (i := 26) rfl)
theorem dX12_turns_112 : decode cX12_turns 112 = .ok (.iconst 0, 1) := dgX12_turns_1 (112, (.iconst 0, 1)) (List.mem_of_getElem? (i := 27) rfl)
theorem dX12_turns_113 : decode cX12_turns 113 = .ok (.ireturn, 1) := dgX12_turns_1 (113, (.ireturn, 1)) (List.mem_of_getElem? (i := 28) rfl)
theorem dX12_turns_114 : decode cX12_turns 114 = .ok (.aload_n 0, 1) := dgX12_turns_1 (114, (.aload_n 0, 1)) (List.mem_of_getElem? (i := 29) rfl)
theorem dX12_turns_115 : decode cX12_turns 115 = .ok (.iload_n 2, 1) := dgX12_turns_1 (115, (.iload_n 2, 1)) (List.mem_of_getElem? (i := 30) rfl)
theorem dX12_turns_116 : decode cX12_turns 116 = .ok (.ifCond .ne 12, 3) := dgX12_turns_1 (116, (.ifCond .ne 12, 3)) (List.mem_of_getElem? (i := 31) rfl)
theorem dX12_turns_119 : decode cX12_turns 119 = .ok (.aload_n 0, 1) := dgX12_turns_1 (119, (.aload_n 0, 1)) (List.mem_of_getElem? (i := 32) rfl)
theorem dX12_turns_120 : decode cX12_turns 120 = .ok (.getfield 355, 3) := dgX12_turns_1 (120, (.getfield 355, 3)) (List.mem_of_getElem? (i := 33) rfl)
theorem dX12_turns_123 : decode cX12_turns 123 = .ok (.iconst 1, 1) := dgX12_turns_1 (123, (.iconst 1, 1)) (List.mem_of_getElem? (i := 34) rfl)
theorem dX12_turns_124 : decode cX12_turns 124 = .ok (.ixor, 1) := dgX12_turns_1 (124, (.ixor, 1)) (List.mem_of_getElem? (i := 35) rfl)
theorem dX12_turns_125 : decode cX12_turns 125 = .ok (.goto 25, 3) := dgX12_turns_1 (125, (.goto 25, 3)) (List.mem_of_getElem? (i := 36) rfl)
theorem dX12_turns_128 : decode cX12_turns 128 = .ok (.iload_n 2, 1) := dgX12_turns_1 (128, (.iload_n 2, 1)) (List.mem_of_getElem? (i := 37) rfl)
theorem dX12_turns_129 : decode cX12_turns 129 = .ok (.iconst 1, 1) := dgX12_turns_1 (129, (.iconst 1, 1)) (List.mem_of_getElem? (i := 38) rfl)
theorem dX12_turns_130 : decode cX12_turns 130 = .ok (.if_icmp .ne 12, 3) := dgX12_turns_1 (130, (.if_icmp .ne 12, 3)) (List.mem_of_getElem? (i := 39) rfl)
theorem dgX12_turns_2 : ∀ r ∈ ([(133, (.iconst 3, 1)), (134, (.aload_n 0, 1)), (135, (.getfield 355, 3)), (138, (.isub, 1)), (139, (.goto 11, 3)), (142, (.aload_n 0, 1)), (143, (.getfield 355, 3)), (146, (.iconst 2, 1)), (147, (.iadd, 1)), (148, (.iconst 4, 1)), (149, (.irem, 1)), (150, (.putfield 355, 3)), (153, (.aload_n 0, 1)), (154, (.dup, 1)), (155, (.getfield 368, 3)), (158, (.iconst 1, 1)), (159, (.iload_n 1, 1)), (160, (.ishl, 1)), (161, (.ior, 1)), (162, (.putfield 368, 3)), (165, (.iconst 1, 1)), (166, (.ireturn, 1))] : List (Nat × (Instr × Nat))), decode cX12_turns r.1 = .ok r.2 := by decide +kernel
theorem dX12_turns_133 : decode cX12_turns 133 = .ok (.iconst 3, 1) := dgX12_turns_2 (133, (.iconst 3, 1)) (List.mem_of_getElem? (i := 0) rfl)
theorem dX12_turns_134 : decode cX12_turns 134 = .ok (.aload_n 0, 1) := dgX12_turns_2 (134, (.aload_n 0, 1)) (List.mem_of_getElem? (i := 1) rfl)
theorem dX12_turns_135 : decode cX12_turns 135 = .ok (.getfield 355, 3) := dgX12_turns_2 (135, (.getfield 355, 3)) (List.mem_of_getElem? (i := 2) rfl)
theorem dX12_turns_138 : decode cX12_turns 138 = .ok (.isub, 1) := dgX12_turns_2 (138, (.isub, 1)) (List.mem_of_getElem? (i := 3) rfl)
theorem dX12_turns_139 : decode cX12_turns 139 = .ok (.goto 11, 3) := dgX12_turns_2 (139, (.goto 11, 3)) (List.mem_of_getElem? (i := 4) rfl)
theorem dX12_turns_142 : decode cX12_turns 142 = .ok (.aload_n 0, 1) := dgX12_turns_2 (142, (.aload_n 0, 1)) (List.mem_of_getElem? (i := 5) rfl)
theorem dX12_turns_143 : decode cX12_turns 143 = .ok (.getfield 355, 3) := dgX12_turns_2 (143, (.getfield 355, 3)) (List.mem_of_getElem? (i := 6) rfl)
theorem dX12_turns_146 : decode cX12_turns 146 = .ok (.iconst 2, 1) := dgX12_turns_2 (146, (.iconst 2, 1)) (List.mem_of_getElem? (i := 7) rfl)
theorem dX12_turns_147 : decode cX12_turns 147 = .ok (.iadd, 1) := dgX12_turns_2 (147, (.iadd, 1)) (List.mem_of_getElem? (i := 8) rfl)
theorem dX12_turns_148 : decode cX12_turns 148 = .ok (.iconst 4, 1) := dgX12_turns_2 (148, (.iconst 4, 1)) (List.mem_of_getElem? (i := 9) rfl)
theorem dX12_turns_149 : decode cX12_turns 149 = .ok (.irem, 1) := dgX12_turns_2 (149, (.irem, 1)) (List.mem_of_getElem? (i := 10) rfl)
theorem dX12_turns_150 : decode cX12_turns 150 = .ok (.putfield 355, 3) := dgX12_turns_2 (150, (.putfield 355, 3)) (List.mem_of_getElem? (i := 11) rfl)
theorem dX12_turns_153 : decode cX12_turns 153 = .ok (.aload_n 0, 1) := dgX12_turns_2 (153, (.aload_n 0, 1)) (List.mem_of_getElem? (i := 12) rfl)
theorem dX12_turns_154 : decode cX12_turns 154 = .ok (.dup, 1) := dgX12_turns_2 (154, (.dup, 1)) (List.mem_of_getElem? (i := 13) rfl)
theorem dX12_turns_155 : decode cX12_turns 155 = .ok (.getfield 368, 3) := dgX12_turns_2 (155, (.getfield 368, 3)) (List.mem_of_getElem? (i := 14) rfl)
theorem dX12_turns_158 : decode cX12_turns 158 = .ok (.iconst 1, 1) := dgX12_turns_2 (158, (.iconst 1, 1)) (List.mem_of_getElem? (i := 15) rfl)
theorem dX12_turns_159 : decode cX12_turns 159 = .ok (.iload_n 1, 1) := dgX12_turns_2 (159, (.iload_n 1, 1)) (List.mem_of_getElem? (i := 16) rfl)
theorem dX12_turns_160 : decode cX12_turns 160 = .ok (.ishl, 1) := dgX12_turns_2 (160, (.ishl, 1)) (List.mem_of_getElem? (i := 17) rfl)
theorem dX12_turns_161 : decode cX12_turns 161 = .ok (.ior, 1) := dgX12_turns_2 (161, (.ior, 1)) (List.mem_of_getElem? (i := 18) rfl)
theorem dX12_turns_162 : decode cX12_turns 162 = .ok (.putfield 368, 3) := dgX12_turns_2 (162, (.putfield 368, 3)) (List.mem_of_getElem? (i := 19) rfl)
theorem dX12_turns_165 : decode cX12_turns 165 = .ok (.iconst 1, 1) := dgX12_turns_2 (165, (.iconst 1, 1)) (List.mem_of_getElem? (i := 20) rfl)
theorem dX12_turns_166 : decode cX12_turns 166 = .ok (.ireturn, 1) := dgX12_turns_2 (166, (.ireturn, 1)) (List.mem_of_getElem? (i := 21) rfl)
theorem fl_X12_368 : Cond.fieldLink RX12 368 "LateGlassModel" "through" "I" ∈ tblG := tg 1242 (by decide +kernel) (by decide +kernel)
set_option maxHeartbeats 4000000 in
set_option maxRecDepth 100000 in
theorem n_turns (l : Launch) (G : g5_G) (b_o b_ro b_se b_re b_rf b_im b_ke b_tp b_nl b_op b_ar b_pi b_pa b_ws b_hw b_pt b_ip b_ah b_be b_me b_tr b_ld b_wn : Nat) (sz : Nat) (u_th : Int32) (u_sa : Int32) (u_fd : Int32) (u_td : Int32) (u_fr : Int32) (u_to : Int32) (u_so : Int32) (u_fa : Int32) (u_bd : Int32) (u_nc : Int32) (u_co : Int32) (u_le : Int32) (u_pd : Int32) (u_od : Int32) (u_la : Int32) (u_bk : Int32) (u_ce : Int32) (u_ho : Int32) (u_wy : Int32) (u_bt : Int32) (u_ps : Int32) (u_tg : Int32) (u_sn : Int32) (u_ic : Int32) (u_wd : Int32) (u_id : Int32) (p_1 : Int32) (p_2 : Int32) (p_3 : Int32) (p_4 : Int32) (p_5 : Int32) (u_wo : Int64) (u_va : Int64) (u_su : Int64) (u_st : Int64) (v_ro : Nat → Int32) (v_se : Nat → Int64) (v_re : Nat → Int64) (h_u_td : 0 ≤ u_td.toInt ∧ u_td.toInt ≤ 400) (h_u_fr : 0 ≤ u_fr.toInt ∧ u_fr.toInt ≤ 400) (h_u_to : 0 ≤ u_to.toInt ∧ u_to.toInt ≤ 400) (h_u_bd : 0 ≤ u_bd.toInt ∧ u_bd.toInt ≤ 1) (h_u_nc : 0 ≤ u_nc.toInt ∧ u_nc.toInt ≤ 12) (h_u_co : 0 ≤ u_co.toInt ∧ u_co.toInt ≤ 400) (h_u_pd : 0 ≤ u_pd.toInt ∧ u_pd.toInt ≤ 400) (h_u_la : 0 ≤ u_la.toInt ∧ u_la.toInt ≤ 4840) (h_u_bk : 0 ≤ u_bk.toInt ∧ u_bk.toInt ≤ 1) (h_u_ce : 0 ≤ u_ce.toInt ∧ u_ce.toInt ≤ 63) (h_u_ho : 0 ≤ u_ho.toInt ∧ u_ho.toInt ≤ 23) (h_u_wy : 0 ≤ u_wy.toInt ∧ u_wy.toInt ≤ 3) (h_u_bt : 0 ≤ u_bt.toInt ∧ u_bt.toInt ≤ 1000000) (h_u_ps : 0 ≤ u_ps.toInt ∧ u_ps.toInt ≤ 200) (h_u_ic : 0 ≤ u_ic.toInt ∧ u_ic.toInt ≤ 1) (h_u_id : 0 ≤ u_id.toInt ∧ u_id.toInt ≤ 1) (h_p_2 : 0 ≤ p_2.toInt ∧ p_2.toInt ≤ 5) (h_p_3 : 0 ≤ p_3.toInt ∧ p_3.toInt ≤ 23) (h_p_4 : 0 ≤ p_4.toInt ∧ p_4.toInt ≤ 10) (h_p_5 : 0 ≤ p_5.toInt ∧ p_5.toInt ≤ 1) (r_ro : MI v_ro) : Met l yX12_turns (wsG yX12_turns cX12_turns 8 (some .boolean)) ({ frames := 4, cells := 0, slots := 0, locals := 101 }) (va_Pc [.ref b_o, .int p_1, .int p_2, .int p_3, .int p_4, .int p_5] (g5_P G [(b_o, (oc12 u_th u_sa b_rf b_ro b_im b_ke u_fd b_tp u_td u_fr u_to u_so u_wo u_fa u_bd u_nc b_nl u_co b_op b_ar u_le b_pi b_pa u_pd u_od b_ws b_hw u_la b_se b_re u_bk u_va u_su u_ce u_ho u_wy u_bt u_ps b_pt u_tg u_sn b_ip u_ic b_ah b_be b_me u_wd b_tr b_ld u_st b_wn u_id)), (b_ro, (arI G 5740 v_ro)), (b_se, (arJ G 13 v_se)), (b_re, (arJ G 400 v_re))] sz)) (va_Qi (fun (r : Int32) (u : va_W) => (∃ (o_r : Int32) (o_la : Int32) (o_bk : Int32) (o_va : Int64) (o_su : Int64) (o_ho : Int32) (o_wy : Int32) (o_bt : Int32) (o_tg : Int32) (o_se : Nat → Int64) (o_re : Nat → Int64), (0 ≤ o_r.toInt ∧ o_r.toInt ≤ 1) ∧ (0 ≤ o_la.toInt ∧ o_la.toInt ≤ 4840) ∧ (0 ≤ o_bk.toInt ∧ o_bk.toInt ≤ 1) ∧ (0 ≤ o_ho.toInt ∧ o_ho.toInt ≤ 23) ∧ (0 ≤ o_wy.toInt ∧ o_wy.toInt ≤ 3) ∧ (0 ≤ o_bt.toInt ∧ o_bt.toInt ≤ 1000000) ∧ (r = o_r) ∧ (u = [(b_o, (oc12 u_th u_sa b_rf b_ro b_im b_ke u_fd b_tp u_td u_fr u_to u_so u_wo u_fa u_bd u_nc b_nl u_co b_op b_ar u_le b_pi b_pa u_pd u_od b_ws b_hw o_la b_se b_re o_bk o_va o_su u_ce o_ho o_wy o_bt u_ps b_pt o_tg u_sn b_ip u_ic b_ah b_be b_me u_wd b_tr b_ld u_st b_wn u_id)), (b_ro, (arI G 5740 v_ro)), (b_se, (arJ G 13 o_se)), (b_re, (arJ G 400 o_re))]))) (g5_B G (va_A [(b_o, (oc12 u_th u_sa b_rf b_ro b_im b_ke u_fd b_tp u_td u_fr u_to u_so u_wo u_fa u_bd u_nc b_nl u_co b_op b_ar u_le b_pi b_pa u_pd u_od b_ws b_hw u_la b_se b_re u_bk u_va u_su u_ce u_ho u_wy u_bt u_ps b_pt u_tg u_sn b_ip u_ic b_ah b_be b_me u_wd b_tr b_ld u_st b_wn u_id)), (b_ro, (arI G 5740 v_ro)), (b_se, (arJ G 13 v_se)), (b_re, (arJ G 400 v_re))] sz)) (va_A [(b_o, (oc12 u_th u_sa b_rf b_ro b_im b_ke u_fd b_tp u_td u_fr u_to u_so u_wo u_fa u_bd u_nc b_nl u_co b_op b_ar u_le b_pi b_pa u_pd u_od b_ws b_hw u_la b_se b_re u_bk u_va u_su u_ce u_ho u_wy u_bt u_ps b_pt u_tg u_sn b_ip u_ic b_ah b_be b_me u_wd b_tr b_ld u_st b_wn u_id)), (b_ro, (arI G 5740 v_ro)), (b_se, (arJ G 13 v_se)), (b_re, (arJ G 400 v_re))] sz)) 0 0 (va_A [(b_o, (oc12 u_th u_sa b_rf b_ro b_im b_ke u_fd b_tp u_td u_fr u_to u_so u_wo u_fa u_bd u_nc b_nl u_co b_op b_ar u_le b_pi b_pa u_pd u_od b_ws b_hw u_la b_se b_re u_bk u_va u_su u_ce u_ho u_wy u_bt u_ps b_pt u_tg u_sn b_ip u_ic b_ah b_be b_me u_wd b_tr b_ld u_st b_wn u_id)), (b_ro, (arI G 5740 v_ro)), (b_se, (arJ G 13 v_se)), (b_re, (arJ G 400 v_re))] sz) := by
  refine Met.ofW (cc := cX12_turns) (maxL := 8) (ret := (some .boolean)) (by decide +kernel) rfl ?_
  intro p e s m args below meth c s₁ B hml hv
  obtain ⟨rfl, hsz, hP, hK, hD0, hN, hT⟩ := hv
  have hx := B.exec
  have hb := B.bytes
  have hr := B.returns
  have hts : ∀ w ∈ tblG, w.before _ s = true := fun w h => atoms_spec (ws := (wsG yX12_turns cX12_turns 8 (some .boolean))) B.pre w (List.mem_cons_of_mem _ h)
  have hown : s.vm.findClass RX12 = some m.cls := findClass_of_methodNamed B.named
  have hlocks := B.notSynchronized
  subst hsz
  have hD := hD0.self (sz := s.heap.size)
  generalize hAe : va_A [(b_o, (oc12 u_th u_sa b_rf b_ro b_im b_ke u_fd b_tp u_td u_fr u_to u_so u_wo u_fa u_bd u_nc b_nl u_co b_op b_ar u_le b_pi b_pa u_pd u_od b_ws b_hw u_la b_se b_re u_bk u_va u_su u_ce u_ho u_wy u_bt u_ps b_pt u_tg u_sn b_ip u_ic b_ah b_be b_me u_wd b_tr b_ld u_st b_wn u_id)), (b_ro, (arI G 5740 v_ro)), (b_se, (arJ G 13 v_se)), (b_re, (arJ G 400 v_re))] s.heap.size = A at hD hT ⊢
  have hA : ∀ q : Nat, s.heap.size ≤ q → A q := fun q h => by rw [← hAe]; exact Or.inr h
  have hS : va_S A s.heap s.heap [] := va_S.rf
  replace hP : va_P G.1 vwCl [(b_o, (oc12 u_th u_sa b_rf b_ro b_im b_ke u_fd b_tp u_td u_fr u_to u_so u_wo u_fa u_bd u_nc b_nl u_co b_op b_ar u_le b_pi b_pa u_pd u_od b_ws b_hw u_la b_se b_re u_bk u_va u_su u_ce u_ho u_wy u_bt u_ps b_pt u_tg u_sn b_ip u_ic b_ah b_be b_me u_wd b_tr b_ld u_st b_wn u_id)), (b_ro, (arI G 5740 v_ro)), (b_se, (arJ G 13 v_se)), (b_re, (arJ G 400 v_re))] s.heap := hP
  have hl := lv_entry ([.ref b_o, .int p_1, .int p_2, .int p_3, .int p_4, .int p_5]) (n := 8) (Nat.le_of_ble_eq_true rfl)
  rw [lg_entry_eq]
  generalize (lg_sl ([.ref b_o, .int p_1, .int p_2, .int p_3, .int p_4, .int p_5]) ++ List.replicate (8 - (lg_sl ([.ref b_o, .int p_1, .int p_2, .int p_3, .int p_4, .int p_5])).length) Slot.unset).toArray = ls at hl ⊢
  replace hl : lv_has ls 8 [(0, .ref b_o), (1, .int p_1), (2, .int p_2), (3, .int p_3), (4, .int p_4), (5, .int p_5)] := hl
  have zk23 : (23 : Int32).toInt = 23 := (by decide +kernel)
  have zk10 : (10 : Int32).toInt = 10 := (by decide +kernel)
  refine lv_iload hx hb dX12_turns_0 (lv_at hl 5 rfl) ?_
  refine lv_if_ne (tgt := 33) hx hb dX12_turns_2 (by decide +kernel) (fun c_1 => ?_) (fun c_1 => ?_)
  ·
    have n_1 : gNe (p_5.toInt) (0) := g5_ne (a := p_5.toInt) (b := 0) rfl (by decide +kernel) c_1
    have i_1 : p_5.toInt ≥ 1 := by have z := g5_ne (a := p_5.toInt) (b := 0) (by rfl) (by decide +kernel) c_1; omega
    refine lv_iconst (v := 0) hx hb dX12_turns_33 (by decide +kernel) ?_
    exact W.zret (v := 0) hx hb hr rfl (fun t ht hW => ⟨⟨0, [(b_o, (oc12 u_th u_sa b_rf b_ro b_im b_ke u_fd b_tp u_td u_fr u_to u_so u_wo u_fa u_bd u_nc b_nl u_co b_op b_ar u_le b_pi b_pa u_pd u_od b_ws b_hw u_la b_se b_re u_bk u_va u_su u_ce u_ho u_wy u_bt u_ps b_pt u_tg u_sn b_ip u_ic b_ah b_be b_me u_wd b_tr b_ld u_st b_wn u_id)), (b_ro, (arI G 5740 v_ro)), (b_se, (arJ G 13 v_se)), (b_re, (arJ G 400 v_re))], rfl, ⟨0, u_la, u_bk, u_va, u_su, u_ho, u_wy, u_bt, u_tg, v_se, v_re, ⟨by have zc_o_r : (0 : Int32).toInt = 0 := (by decide +kernel); omega, by have zc_o_r : (0 : Int32).toInt = 0 := (by decide +kernel); omega⟩, h_u_la, h_u_bk, h_u_ho, h_u_wy, h_u_bt, rfl, rfl⟩, by rw [ht]; exact hP.sub [0, 1, 2, 3] rfl, hD.sub [0, 1, 2, 3] (by decide +kernel) rfl⟩, hS.F ht⟩) hS.2.2 dX12_turns_34
  ·
    have i_1 : p_5.toInt = 0 := g5_neN (a := p_5.toInt) (b := 0) rfl (by decide +kernel) c_1
    refine lv_aload_n hx hb dX12_turns_5 rfl (lv_at hl 0 rfl) ?_
    refine lv_iconst (v := 2) hx hb dX12_turns_6 (by decide +kernel) ?_
    refine lv_iload_n hx hb dX12_turns_7 rfl (lv_at hl 1 rfl) ?_
    refine lv_iconst (v := (-1)) hx hb dX12_turns_8 (by decide +kernel) ?_
    refine lv_iconst (v := 0) hx hb dX12_turns_9 (by decide +kernel) ?_
    refine lv_iconst (v := 1) hx hb dX12_turns_10 (by decide +kernel) ?_
    obtain ⟨hPc, hDc, hFc⟩ := g5_sub3 (wc := [(b_o, (oc12 u_th u_sa b_rf b_ro b_im b_ke u_fd b_tp u_td u_fr u_to u_so u_wo u_fa u_bd u_nc b_nl u_co b_op b_ar u_le b_pi b_pa u_pd u_od b_ws b_hw u_la b_se b_re u_bk u_va u_su u_ce u_ho u_wy u_bt u_ps b_pt u_tg u_sn b_ip u_ic b_ah b_be b_me u_wd b_tr b_ld u_st b_wn u_id)), (b_ro, (arI G 5740 v_ro)), (b_se, (arJ G 13 v_se)), (b_re, (arJ G 400 v_re))]) hP hD hS hA [0, 1, 2, 3] (by decide +kernel) rfl
    refine va_calli (va_runV (As := [.int 2, .int p_1, .int (-1), .int 0, .int 1]) (rest := []) ⟨hx, hb, hml, hown, hts⟩ (n_asks l G b_o b_ro b_se b_re b_rf b_im b_ke b_tp b_nl b_op b_ar b_pi b_pa b_ws b_hw b_pt b_ip b_ah b_be b_me b_tr b_ld b_wn s.heap.size u_th u_sa u_fd u_td u_fr u_to u_so u_fa u_bd u_nc u_co u_le u_pd u_od u_la u_bk u_ce u_ho u_wy u_bt u_ps u_tg u_sn u_ic u_wd u_id 2 p_1 (-1) 0 1 u_wo u_va u_su u_st v_ro v_se v_re h_u_td h_u_fr h_u_to h_u_bd h_u_nc h_u_co h_u_pd h_u_la h_u_bk h_u_ce h_u_ho h_u_wy h_u_bt h_u_ps h_u_ic h_u_id ⟨by decide, by decide⟩ ⟨by decide, by decide⟩ (r_ro) (by decide +kernel)) (cwV 5 hts gV_X12_383 rfl rfl rfl hv_X12_asks ⟨Nat.le_of_ble_eq_true rfl, Nat.le_of_ble_eq_true rfl⟩) (g5_preV hPc hK hDc hN hT hS hFc (ci := 12) (q0 := 0) rfl rfl) rfl rfl hl.1 rfl (lv_room (Nat.le_of_ble_eq_true rfl)) dX12_turns_11 ⟨Nat.le_of_ble_eq_true rfl, Nat.le_of_ble_eq_true rfl⟩) hS (fun q _ h => hFc q h) hFc (fun r u t H locs ht hvm hw hB hz1 hk1 hS => ?_)
    obtain ⟨hP1, hD1⟩ := hB
    have hP1 := g5_ht ht hP1
    obtain ⟨z6, z7, z8, z9, z10, z11, z12, (i_2 : 0 ≤ z6.toInt ∧ z6.toInt ≤ 23), (i_3 : 0 ≤ z6.toInt ∧ z6.toInt ≤ (1 : Int32).toInt), (i_4 : 0 ≤ z7.toInt ∧ z7.toInt ≤ 4840), (i_5 : 0 ≤ z8.toInt ∧ z8.toInt ≤ 1), y13, rfl⟩ := hw
    have hJ9 := va_join (wr := []) hP hD [0, 1, 2, 3] [] rfl rfl (by decide +kernel) (by decide +kernel) hk1 hFc hP1 hD1
    clear hP hD hPc hDc hFc ht hvm hz1 hk1 hP1 hD1
    obtain ⟨hP, hD⟩ := hJ9
    refine g5_rs [(b_o, (oc12 u_th u_sa b_rf b_ro b_im b_ke u_fd b_tp u_td u_fr u_to u_so u_wo u_fa u_bd u_nc b_nl u_co b_op b_ar u_le b_pi b_pa u_pd u_od b_ws b_hw z7 b_se b_re z8 z9 z10 u_ce u_ho u_wy u_bt u_ps b_pt u_tg u_sn b_ip u_ic b_ah b_be b_me u_wd b_tr b_ld u_st b_wn u_id)), (b_ro, (arI G 5740 v_ro)), (b_se, (arJ G 13 z11)), (b_re, (arJ G 400 z12))] hP hD ?_
    clear hP hD
    intro hP hD
    refine g5_ti (v := z6) y13 ?_
    refine lv_iconst (v := 1) hx hb dX12_turns_14 (by decide +kernel) ?_
    refine lv_icmp_eq (tgt := 33) hx hb dX12_turns_15 (by decide +kernel) (fun c_14 => ?_) (fun c_14 => ?_)
    ·
      have i_14 : z6.toInt = 1 := g5_eq (a := z6.toInt) (b := 1) rfl (by decide +kernel) c_14
      refine lv_iconst (v := 0) hx hb dX12_turns_33 (by decide +kernel) ?_
      exact W.zret (v := 0) hx hb hr rfl (fun t ht hW => ⟨⟨0, [(b_o, (oc12 u_th u_sa b_rf b_ro b_im b_ke u_fd b_tp u_td u_fr u_to u_so u_wo u_fa u_bd u_nc b_nl u_co b_op b_ar u_le b_pi b_pa u_pd u_od b_ws b_hw z7 b_se b_re z8 z9 z10 u_ce u_ho u_wy u_bt u_ps b_pt u_tg u_sn b_ip u_ic b_ah b_be b_me u_wd b_tr b_ld u_st b_wn u_id)), (b_ro, (arI G 5740 v_ro)), (b_se, (arJ G 13 z11)), (b_re, (arJ G 400 z12))], rfl, ⟨0, z7, z8, z9, z10, u_ho, u_wy, u_bt, u_tg, z11, z12, ⟨by have zc_o_r : (0 : Int32).toInt = 0 := (by decide +kernel); omega, by have zc_o_r : (0 : Int32).toInt = 0 := (by decide +kernel); omega⟩, i_4, i_5, h_u_ho, h_u_wy, h_u_bt, rfl, rfl⟩, by rw [ht]; exact hP.sub [0, 1, 2, 3] rfl, hD.sub [0, 1, 2, 3] (by decide +kernel) rfl⟩, hS.F ht⟩) hS.2.2 dX12_turns_34
    ·
      have n_14 : gNe (z6.toInt) (1) := g5_eqN (a := z6.toInt) (b := 1) rfl (by decide +kernel) c_14
      refine lv_iload_n hx hb dX12_turns_18 rfl (lv_at hl 2 rfl) ?_
      refine lv_iconst (v := 1) hx hb dX12_turns_19 (by decide +kernel) ?_
      refine lv_icmp_le (tgt := 35) hx hb dX12_turns_20 (by decide +kernel) (fun c_15 => ?_) (fun c_15 => ?_)
      ·
        have i_15 : p_2.toInt ≤ 1 := g5_le (a := p_2.toInt) (b := 1) rfl (by decide +kernel) c_15
        refine lv_aload_n hx hb dX12_turns_35 rfl (lv_at hl 0 rfl) ?_
        refine lv_iconst (v := 0) hx hb dX12_turns_36 (by decide +kernel) ?_
        refine lv_iload_n hx hb dX12_turns_37 rfl (lv_at hl 1 rfl) ?_
        refine lv_iconst (v := (-1)) hx hb dX12_turns_38 (by decide +kernel) ?_
        refine lv_iload_n hx hb dX12_turns_39 rfl (lv_at hl 3 rfl) ?_
        refine lv_bipush (v := 23) hx hb dX12_turns_40 (by decide +kernel) ?_
        obtain ⟨hPc, hDc, hFc⟩ := g5_sub3 (wc := [(b_o, (oc12 u_th u_sa b_rf b_ro b_im b_ke u_fd b_tp u_td u_fr u_to u_so u_wo u_fa u_bd u_nc b_nl u_co b_op b_ar u_le b_pi b_pa u_pd u_od b_ws b_hw z7 b_se b_re z8 z9 z10 u_ce u_ho u_wy u_bt u_ps b_pt u_tg u_sn b_ip u_ic b_ah b_be b_me u_wd b_tr b_ld u_st b_wn u_id)), (b_ro, (arI G 5740 v_ro)), (b_se, (arJ G 13 z11)), (b_re, (arJ G 400 z12))]) hP hD hS hA [0, 1, 2, 3] (by decide +kernel) rfl
        refine va_calli (va_runV (As := [.int 0, .int p_1, .int (-1), .int p_3, .int 23]) (rest := []) ⟨hx, hb, hml, hown, hts⟩ (n_asks l G b_o b_ro b_se b_re b_rf b_im b_ke b_tp b_nl b_op b_ar b_pi b_pa b_ws b_hw b_pt b_ip b_ah b_be b_me b_tr b_ld b_wn H.size u_th u_sa u_fd u_td u_fr u_to u_so u_fa u_bd u_nc u_co u_le u_pd u_od z7 z8 u_ce u_ho u_wy u_bt u_ps u_tg u_sn u_ic u_wd u_id 0 p_1 (-1) p_3 23 u_wo z9 z10 u_st v_ro z11 z12 h_u_td h_u_fr h_u_to h_u_bd h_u_nc h_u_co h_u_pd i_4 i_5 h_u_ce h_u_ho h_u_wy h_u_bt h_u_ps h_u_ic h_u_id h_p_3 ⟨by decide, by decide⟩ (r_ro) (by have zk : (23 : Int32).toInt = 23 := (by decide +kernel); omega)) (cwV 5 hts gV_X12_383 rfl rfl rfl hv_X12_asks ⟨Nat.le_of_ble_eq_true rfl, Nat.le_of_ble_eq_true rfl⟩) (g5_preV hPc hK hDc hN hT hS hFc (ci := 12) (q0 := 0) rfl rfl) rfl rfl hl.1 rfl (lv_room (Nat.le_of_ble_eq_true rfl)) dX12_turns_42 ⟨Nat.le_of_ble_eq_true rfl, Nat.le_of_ble_eq_true rfl⟩) hS (fun q _ h => hFc q h) hFc (fun r u t H locs ht hvm hw hB hz1 hk1 hS => ?_)
        obtain ⟨hP1, hD1⟩ := hB
        have hP1 := g5_ht ht hP1
        obtain ⟨z20, z21, z22, z23, z24, z25, z26, (i_16 : 0 ≤ z20.toInt ∧ z20.toInt ≤ 23), (i_17 : 0 ≤ z20.toInt ∧ z20.toInt ≤ (23 : Int32).toInt), (i_18 : 0 ≤ z21.toInt ∧ z21.toInt ≤ 4840), (i_19 : 0 ≤ z22.toInt ∧ z22.toInt ≤ 1), y27, rfl⟩ := hw
        have hJ9 := va_join (wr := []) hP hD [0, 1, 2, 3] [] rfl rfl (by decide +kernel) (by decide +kernel) hk1 hFc hP1 hD1
        clear hP hD hPc hDc hFc ht hvm hz1 hk1 hP1 hD1
        obtain ⟨hP, hD⟩ := hJ9
        refine g5_rs [(b_o, (oc12 u_th u_sa b_rf b_ro b_im b_ke u_fd b_tp u_td u_fr u_to u_so u_wo u_fa u_bd u_nc b_nl u_co b_op b_ar u_le b_pi b_pa u_pd u_od b_ws b_hw z21 b_se b_re z22 z23 z24 u_ce u_ho u_wy u_bt u_ps b_pt u_tg u_sn b_ip u_ic b_ah b_be b_me u_wd b_tr b_ld u_st b_wn u_id)), (b_ro, (arI G 5740 v_ro)), (b_se, (arJ G 13 z25)), (b_re, (arJ G 400 z26))] hP hD ?_
        clear hP hD
        intro hP hD
        refine g5_ti (v := z20) y27 ?_
        refine lv_istore (lv' := [(6, .int z20), (0, .ref b_o), (1, .int p_1), (2, .int p_2), (3, .int p_3), (4, .int p_4), (5, .int p_5)]) hx hb dX12_turns_45 hl (by decide +kernel) rfl ?_
        clear hl
        intro ls hl
        refine lv_aload_n hx hb dX12_turns_47 rfl (lv_at hl 1 rfl) ?_
        refine lv_iconst (v := 1) hx hb dX12_turns_48 (by decide +kernel) ?_
        refine lv_iload_n hx hb dX12_turns_49 rfl (lv_at hl 2 rfl) ?_
        refine lv_iconst (v := (-1)) hx hb dX12_turns_50 (by decide +kernel) ?_
        refine lv_iload hx hb dX12_turns_51 (lv_at hl 5 rfl) ?_
        refine lv_bipush (v := 10) hx hb dX12_turns_53 (by decide +kernel) ?_
        obtain ⟨hPc, hDc, hFc⟩ := g5_sub3 (wc := [(b_o, (oc12 u_th u_sa b_rf b_ro b_im b_ke u_fd b_tp u_td u_fr u_to u_so u_wo u_fa u_bd u_nc b_nl u_co b_op b_ar u_le b_pi b_pa u_pd u_od b_ws b_hw z21 b_se b_re z22 z23 z24 u_ce u_ho u_wy u_bt u_ps b_pt u_tg u_sn b_ip u_ic b_ah b_be b_me u_wd b_tr b_ld u_st b_wn u_id)), (b_ro, (arI G 5740 v_ro)), (b_se, (arJ G 13 z25)), (b_re, (arJ G 400 z26))]) hP hD hS hA [0, 1, 2, 3] (by decide +kernel) rfl
        refine va_calli (va_runV (As := [.int 1, .int p_1, .int (-1), .int p_4, .int 10]) (rest := []) ⟨hx, hb, hml, hown, hts⟩ (n_asks l G b_o b_ro b_se b_re b_rf b_im b_ke b_tp b_nl b_op b_ar b_pi b_pa b_ws b_hw b_pt b_ip b_ah b_be b_me b_tr b_ld b_wn H.size u_th u_sa u_fd u_td u_fr u_to u_so u_fa u_bd u_nc u_co u_le u_pd u_od z21 z22 u_ce u_ho u_wy u_bt u_ps u_tg u_sn u_ic u_wd u_id 1 p_1 (-1) p_4 10 u_wo z23 z24 u_st v_ro z25 z26 h_u_td h_u_fr h_u_to h_u_bd h_u_nc h_u_co h_u_pd i_18 i_19 h_u_ce h_u_ho h_u_wy h_u_bt h_u_ps h_u_ic h_u_id ⟨by omega, by omega⟩ ⟨by decide, by decide⟩ (r_ro) (by have zk : (10 : Int32).toInt = 10 := (by decide +kernel); omega)) (cwV 5 hts gV_X12_383 rfl rfl rfl hv_X12_asks ⟨Nat.le_of_ble_eq_true rfl, Nat.le_of_ble_eq_true rfl⟩) (g5_preV hPc hK hDc hN hT hS hFc (ci := 12) (q0 := 0) rfl rfl) rfl rfl hl.1 rfl (lv_room (Nat.le_of_ble_eq_true rfl)) dX12_turns_55 ⟨Nat.le_of_ble_eq_true rfl, Nat.le_of_ble_eq_true rfl⟩) hS (fun q _ h => hFc q h) hFc (fun r u t H locs ht hvm hw hB hz1 hk1 hS => ?_)
        obtain ⟨hP1, hD1⟩ := hB
        have hP1 := g5_ht ht hP1
        obtain ⟨z32, z33, z34, z35, z36, z37, z38, (i_28 : 0 ≤ z32.toInt ∧ z32.toInt ≤ 23), (i_29 : 0 ≤ z32.toInt ∧ z32.toInt ≤ (10 : Int32).toInt), (i_30 : 0 ≤ z33.toInt ∧ z33.toInt ≤ 4840), (i_31 : 0 ≤ z34.toInt ∧ z34.toInt ≤ 1), y39, rfl⟩ := hw
        have hJ9 := va_join (wr := []) hP hD [0, 1, 2, 3] [] rfl rfl (by decide +kernel) (by decide +kernel) hk1 hFc hP1 hD1
        clear hP hD hPc hDc hFc ht hvm hz1 hk1 hP1 hD1
        obtain ⟨hP, hD⟩ := hJ9
        refine g5_rs [(b_o, (oc12 u_th u_sa b_rf b_ro b_im b_ke u_fd b_tp u_td u_fr u_to u_so u_wo u_fa u_bd u_nc b_nl u_co b_op b_ar u_le b_pi b_pa u_pd u_od b_ws b_hw z33 b_se b_re z34 z35 z36 u_ce u_ho u_wy u_bt u_ps b_pt u_tg u_sn b_ip u_ic b_ah b_be b_me u_wd b_tr b_ld u_st b_wn u_id)), (b_ro, (arI G 5740 v_ro)), (b_se, (arJ G 13 z37)), (b_re, (arJ G 400 z38))] hP hD ?_
        clear hP hD
        intro hP hD
        refine g5_ti (v := z32) y39 ?_
        refine lv_istore (lv' := [(7, .int z32), (6, .int z20), (0, .ref b_o), (1, .int p_1), (2, .int p_2), (3, .int p_3), (4, .int p_4), (5, .int p_5)]) hx hb dX12_turns_58 hl (by decide +kernel) rfl ?_
        clear hl
        intro ls hl
        refine lv_aload_n hx hb dX12_turns_60 rfl (lv_at hl 2 rfl) ?_
        refine va_get (D := G.1) (ci := 12) (v := .int u_ho) (C := RX12) (T := TX12) (N := 52) hx hb hts inG_X12 hown hK hP 0 rfl rfl 34 (by decide +kernel) (hts _ fl_X12_352) (fun _ h9 => h9) rfl dX12_turns_61 ?_
        refine lv_iload hx hb dX12_turns_64 (lv_at hl 1 rfl) ?_
        refine lv_icmp_ge (tgt := 71) hx hb dX12_turns_66 (by decide +kernel) (fun c_40 => ?_) (fun c_40 => ?_)
        ·
          have i_40 : u_ho.toInt ≥ z20.toInt := g5_ge (a := u_ho.toInt) (b := z20.toInt) rfl rfl c_40
          refine lv_aload_n hx hb dX12_turns_71 rfl (lv_at hl 2 rfl) ?_
          refine lv_dup hx hb dX12_turns_72 rfl ?_
          refine va_get (D := G.1) (ci := 12) (v := .int u_ho) (C := RX12) (T := TX12) (N := 52) hx hb hts inG_X12 hown hK hP 0 rfl rfl 34 (by decide +kernel) (hts _ fl_X12_352) (fun _ h9 => h9) rfl dX12_turns_73 ?_
          refine lv_iload hx hb dX12_turns_76 (lv_at hl 1 rfl) ?_
          refine lv_isub hx hb dX12_turns_78 ?_
          have t_41 : (u_ho - z20).toInt = u_ho.toInt - z20.toInt := g5_isub (a := u_ho.toInt) (b := z20.toInt) (by rfl) (by rfl) (by omega) (by omega)
          refine va_put (D := G.1) (ci := 12) (v := .int (u_ho - z20)) (ty := .int) (C := RX12) (T := TX12) (N := 52) hx hb hts inG_X12 tyX12 tyX12_ok nmX12 hown hK hP hD hS 0 rfl rfl 34 (by decide +kernel) (hts _ fl_X12_352) (fun _ h9 => h9) rfl (by decide +kernel) rfl rfl (Nat.le_of_ble_eq_true rfl) dX12_turns_79 ?_
          clear hP hD hS
          intro H locs hP hD hS
          refine g5_rs [(b_o, (oc12 u_th u_sa b_rf b_ro b_im b_ke u_fd b_tp u_td u_fr u_to u_so u_wo u_fa u_bd u_nc b_nl u_co b_op b_ar u_le b_pi b_pa u_pd u_od b_ws b_hw z33 b_se b_re z34 z35 z36 u_ce (u_ho - z20) u_wy u_bt u_ps b_pt u_tg u_sn b_ip u_ic b_ah b_be b_me u_wd b_tr b_ld u_st b_wn u_id)), (b_ro, (arI G 5740 v_ro)), (b_se, (arJ G 13 z37)), (b_re, (arJ G 400 z38))] hP hD ?_
          clear hP hD
          intro hP hD
          refine lv_aload_n hx hb dX12_turns_82 rfl (lv_at hl 2 rfl) ?_
          refine lv_aload_n hx hb dX12_turns_83 rfl (lv_at hl 2 rfl) ?_
          refine va_get (D := G.1) (ci := 12) (v := .int u_bt) (C := RX12) (T := TX12) (N := 52) hx hb hts inG_X12 hown hK hP 0 rfl rfl 36 (by decide +kernel) (hts _ fl_X12_361) (fun _ h9 => h9) rfl dX12_turns_84 ?_
          refine lv_bipush (v := 10) hx hb dX12_turns_87 (by decide +kernel) ?_
          refine lv_iload hx hb dX12_turns_89 (lv_at hl 0 rfl) ?_
          refine lv_isub hx hb dX12_turns_91 ?_
          have t_42 : (10 - z32).toInt = 10 - z32.toInt := g5_isub (a := 10) (b := z32.toInt) (by decide +kernel) (by rfl) (by omega) (by omega)
          refine lv_imul hx hb dX12_turns_92 ?_
          refine lv_bipush (v := 10) hx hb dX12_turns_93 (by decide +kernel) ?_
          refine lv_idiv hx hb dX12_turns_95 (by decide +kernel) ?_
          have hb_43 : 0 ≤ ((u_bt * (10 - z32)) / 10).toInt ∧ ((u_bt * (10 - z32)) / 10).toInt ≤ 1000000 := g_dust (by omega) (by omega)
          refine va_put (D := G.1) (ci := 12) (v := .int ((u_bt * (10 - z32)) / 10)) (ty := .int) (C := RX12) (T := TX12) (N := 52) hx hb hts inG_X12 tyX12 tyX12_ok nmX12 hown hK hP hD hS 0 rfl rfl 36 (by decide +kernel) (hts _ fl_X12_361) (fun _ h9 => h9) rfl (by decide +kernel) rfl rfl (Nat.le_of_ble_eq_true rfl) dX12_turns_96 ?_
          clear hP hD hS
          intro H locs hP hD hS
          refine g5_rs [(b_o, (oc12 u_th u_sa b_rf b_ro b_im b_ke u_fd b_tp u_td u_fr u_to u_so u_wo u_fa u_bd u_nc b_nl u_co b_op b_ar u_le b_pi b_pa u_pd u_od b_ws b_hw z33 b_se b_re z34 z35 z36 u_ce (u_ho - z20) u_wy ((u_bt * (10 - z32)) / 10) u_ps b_pt u_tg u_sn b_ip u_ic b_ah b_be b_me u_wd b_tr b_ld u_st b_wn u_id)), (b_ro, (arI G 5740 v_ro)), (b_se, (arJ G 13 z37)), (b_re, (arJ G 400 z38))] hP hD ?_
          clear hP hD
          intro hP hD
          refine lv_aload_n hx hb dX12_turns_99 rfl (lv_at hl 2 rfl) ?_
          refine va_get (D := G.1) (ci := 12) (v := .int ((u_bt * (10 - z32)) / 10)) (C := RX12) (T := TX12) (N := 52) hx hb hts inG_X12 hown hK hP 0 rfl rfl 36 (by decide +kernel) (hts _ fl_X12_361) (fun _ h9 => h9) rfl dX12_turns_100 ?_
          refine lv_aload_n hx hb dX12_turns_103 rfl (lv_at hl 2 rfl) ?_
          refine va_get (D := G.1) (ci := 12) (v := .ref b_ro) (C := RX12) (T := TX12) (N := 52) hx hb hts inG_X12 hown hK hP 0 rfl rfl 3 (by decide +kernel) (hts _ fl_X12_13) (fun _ h9 => h9) rfl dX12_turns_104 ?_
          refine lv_iconst (v := 4) hx hb dX12_turns_107 (by decide +kernel) ?_
          refine va_iald hx hb hK hP 1 0 rfl rfl (i := 4) (by unfold vp_in; decide) dX12_turns_108 ?_
          refine g5_ti (v := (v_ro 4)) rfl ?_
          refine lv_icmp_ge (tgt := 114) hx hb dX12_turns_109 (by decide +kernel) (fun c_44 => ?_) (fun c_44 => ?_)
          ·
            have i_44 : ((u_bt * (10 - z32)) / 10).toInt ≥ (v_ro 4).toInt := g5_ge (a := ((u_bt * (10 - z32)) / 10).toInt) (b := (v_ro 4).toInt) rfl rfl c_44
            refine lv_aload_n hx hb dX12_turns_114 rfl (lv_at hl 2 rfl) ?_
            refine lv_iload_n hx hb dX12_turns_115 rfl (lv_at hl 4 rfl) ?_
            refine lv_if_ne (tgt := 128) hx hb dX12_turns_116 (by decide +kernel) (fun c_45 => ?_) (fun c_45 => ?_)
            ·
              have n_45 : gNe (p_2.toInt) (0) := g5_ne (a := p_2.toInt) (b := 0) rfl (by decide +kernel) c_45
              have i_45 : p_2.toInt ≥ 1 := by have z := g5_ne (a := p_2.toInt) (b := 0) (by rfl) (by decide +kernel) c_45; omega
              refine lv_iload_n hx hb dX12_turns_128 rfl (lv_at hl 4 rfl) ?_
              refine lv_iconst (v := 1) hx hb dX12_turns_129 (by decide +kernel) ?_
              refine lv_icmp_ne (tgt := 142) hx hb dX12_turns_130 (by decide +kernel) (fun c_46 => ?_) (fun c_46 => ?_)
              ·
                have i_46 : p_2.toInt ≠ 1 := g5_ne (a := p_2.toInt) (b := 1) rfl (by decide +kernel) c_46
                omega
              ·
                have i_46 : p_2.toInt = 1 := g5_neN (a := p_2.toInt) (b := 1) rfl (by decide +kernel) c_46
                refine lv_iconst (v := 3) hx hb dX12_turns_133 (by decide +kernel) ?_
                refine lv_aload_n hx hb dX12_turns_134 rfl (lv_at hl 2 rfl) ?_
                refine va_get (D := G.1) (ci := 12) (v := .int u_wy) (C := RX12) (T := TX12) (N := 52) hx hb hts inG_X12 hown hK hP 0 rfl rfl 35 (by decide +kernel) (hts _ fl_X12_355) (fun _ h9 => h9) rfl dX12_turns_135 ?_
                refine lv_isub hx hb dX12_turns_138 ?_
                have t_47 : (3 - u_wy).toInt = 3 - u_wy.toInt := g5_isub (a := 3) (b := u_wy.toInt) (by decide +kernel) (by rfl) (by omega) (by omega)
                refine lv_goto (tgt := 150) hx hb dX12_turns_139 (by decide +kernel) ?_
                refine va_put (D := G.1) (ci := 12) (v := .int (3 - u_wy)) (ty := .int) (C := RX12) (T := TX12) (N := 52) hx hb hts inG_X12 tyX12 tyX12_ok nmX12 hown hK hP hD hS 0 rfl rfl 35 (by decide +kernel) (hts _ fl_X12_355) (fun _ h9 => h9) rfl (by decide +kernel) rfl rfl (Nat.le_of_ble_eq_true rfl) dX12_turns_150 ?_
                clear hP hD hS
                intro H locs hP hD hS
                refine g5_rs [(b_o, (oc12 u_th u_sa b_rf b_ro b_im b_ke u_fd b_tp u_td u_fr u_to u_so u_wo u_fa u_bd u_nc b_nl u_co b_op b_ar u_le b_pi b_pa u_pd u_od b_ws b_hw z33 b_se b_re z34 z35 z36 u_ce (u_ho - z20) (3 - u_wy) ((u_bt * (10 - z32)) / 10) u_ps b_pt u_tg u_sn b_ip u_ic b_ah b_be b_me u_wd b_tr b_ld u_st b_wn u_id)), (b_ro, (arI G 5740 v_ro)), (b_se, (arJ G 13 z37)), (b_re, (arJ G 400 z38))] hP hD ?_
                clear hP hD
                intro hP hD
                refine lv_aload_n hx hb dX12_turns_153 rfl (lv_at hl 2 rfl) ?_
                refine lv_dup hx hb dX12_turns_154 rfl ?_
                refine va_get (D := G.1) (ci := 12) (v := .int u_tg) (C := RX12) (T := TX12) (N := 52) hx hb hts inG_X12 hown hK hP 0 rfl rfl 39 (by decide +kernel) (hts _ fl_X12_368) (fun _ h9 => h9) rfl dX12_turns_155 ?_
                refine lv_iconst (v := 1) hx hb dX12_turns_158 (by decide +kernel) ?_
                refine lv_iload_n hx hb dX12_turns_159 rfl (lv_at hl 3 rfl) ?_
                refine lv_ishl hx hb dX12_turns_160 ?_
                refine lv_ior hx hb dX12_turns_161 ?_
                refine va_put (D := G.1) (ci := 12) (v := .int (u_tg ||| (1 <<< (p_1 &&& 31)))) (ty := .int) (C := RX12) (T := TX12) (N := 52) hx hb hts inG_X12 tyX12 tyX12_ok nmX12 hown hK hP hD hS 0 rfl rfl 39 (by decide +kernel) (hts _ fl_X12_368) (fun _ h9 => h9) rfl (by decide +kernel) rfl rfl (Nat.le_of_ble_eq_true rfl) dX12_turns_162 ?_
                clear hP hD hS
                intro H locs hP hD hS
                refine g5_rs [(b_o, (oc12 u_th u_sa b_rf b_ro b_im b_ke u_fd b_tp u_td u_fr u_to u_so u_wo u_fa u_bd u_nc b_nl u_co b_op b_ar u_le b_pi b_pa u_pd u_od b_ws b_hw z33 b_se b_re z34 z35 z36 u_ce (u_ho - z20) (3 - u_wy) ((u_bt * (10 - z32)) / 10) u_ps b_pt (u_tg ||| (1 <<< (p_1 &&& 31))) u_sn b_ip u_ic b_ah b_be b_me u_wd b_tr b_ld u_st b_wn u_id)), (b_ro, (arI G 5740 v_ro)), (b_se, (arJ G 13 z37)), (b_re, (arJ G 400 z38))] hP hD ?_
                clear hP hD
                intro hP hD
                refine lv_iconst (v := 1) hx hb dX12_turns_165 (by decide +kernel) ?_
                exact W.zret (v := 1) hx hb hr rfl (fun t ht hW => ⟨⟨1, [(b_o, (oc12 u_th u_sa b_rf b_ro b_im b_ke u_fd b_tp u_td u_fr u_to u_so u_wo u_fa u_bd u_nc b_nl u_co b_op b_ar u_le b_pi b_pa u_pd u_od b_ws b_hw z33 b_se b_re z34 z35 z36 u_ce (u_ho - z20) (3 - u_wy) ((u_bt * (10 - z32)) / 10) u_ps b_pt (u_tg ||| (1 <<< (p_1 &&& 31))) u_sn b_ip u_ic b_ah b_be b_me u_wd b_tr b_ld u_st b_wn u_id)), (b_ro, (arI G 5740 v_ro)), (b_se, (arJ G 13 z37)), (b_re, (arJ G 400 z38))], rfl, ⟨1, z33, z34, z35, z36, (u_ho - z20), (3 - u_wy), ((u_bt * (10 - z32)) / 10), (u_tg ||| (1 <<< (p_1 &&& 31))), z37, z38, ⟨by have zc_o_r : (1 : Int32).toInt = 1 := (by decide +kernel); omega, by have zc_o_r : (1 : Int32).toInt = 1 := (by decide +kernel); omega⟩, i_30, i_31, ⟨by omega, by omega⟩, ⟨by omega, by omega⟩, ⟨by omega, by omega⟩, rfl, rfl⟩, by rw [ht]; exact hP.sub [0, 1, 2, 3] rfl, hD.sub [0, 1, 2, 3] (by decide +kernel) rfl⟩, hS.F ht⟩) hS.2.2 dX12_turns_166
            ·
              have i_45 : p_2.toInt = 0 := g5_neN (a := p_2.toInt) (b := 0) rfl (by decide +kernel) c_45
              refine lv_aload_n hx hb dX12_turns_119 rfl (lv_at hl 2 rfl) ?_
              refine va_get (D := G.1) (ci := 12) (v := .int u_wy) (C := RX12) (T := TX12) (N := 52) hx hb hts inG_X12 hown hK hP 0 rfl rfl 35 (by decide +kernel) (hts _ fl_X12_355) (fun _ h9 => h9) rfl dX12_turns_120 ?_
              refine lv_iconst (v := 1) hx hb dX12_turns_123 (by decide +kernel) ?_
              refine lv_ixor hx hb dX12_turns_124 ?_
              have hx_48 := (g_xor (w := u_wy) (by omega) (by omega)).1
              refine lv_goto (tgt := 150) hx hb dX12_turns_125 (by decide +kernel) ?_
              refine va_put (D := G.1) (ci := 12) (v := .int (u_wy ^^^ 1)) (ty := .int) (C := RX12) (T := TX12) (N := 52) hx hb hts inG_X12 tyX12 tyX12_ok nmX12 hown hK hP hD hS 0 rfl rfl 35 (by decide +kernel) (hts _ fl_X12_355) (fun _ h9 => h9) rfl (by decide +kernel) rfl rfl (Nat.le_of_ble_eq_true rfl) dX12_turns_150 ?_
              clear hP hD hS
              intro H locs hP hD hS
              refine g5_rs [(b_o, (oc12 u_th u_sa b_rf b_ro b_im b_ke u_fd b_tp u_td u_fr u_to u_so u_wo u_fa u_bd u_nc b_nl u_co b_op b_ar u_le b_pi b_pa u_pd u_od b_ws b_hw z33 b_se b_re z34 z35 z36 u_ce (u_ho - z20) (u_wy ^^^ 1) ((u_bt * (10 - z32)) / 10) u_ps b_pt u_tg u_sn b_ip u_ic b_ah b_be b_me u_wd b_tr b_ld u_st b_wn u_id)), (b_ro, (arI G 5740 v_ro)), (b_se, (arJ G 13 z37)), (b_re, (arJ G 400 z38))] hP hD ?_
              clear hP hD
              intro hP hD
              refine lv_aload_n hx hb dX12_turns_153 rfl (lv_at hl 2 rfl) ?_
              refine lv_dup hx hb dX12_turns_154 rfl ?_
              refine va_get (D := G.1) (ci := 12) (v := .int u_tg) (C := RX12) (T := TX12) (N := 52) hx hb hts inG_X12 hown hK hP 0 rfl rfl 39 (by decide +kernel) (hts _ fl_X12_368) (fun _ h9 => h9) rfl dX12_turns_155 ?_
              refine lv_iconst (v := 1) hx hb dX12_turns_158 (by decide +kernel) ?_
              refine lv_iload_n hx hb dX12_turns_159 rfl (lv_at hl 3 rfl) ?_
              refine lv_ishl hx hb dX12_turns_160 ?_
              refine lv_ior hx hb dX12_turns_161 ?_
              refine va_put (D := G.1) (ci := 12) (v := .int (u_tg ||| (1 <<< (p_1 &&& 31)))) (ty := .int) (C := RX12) (T := TX12) (N := 52) hx hb hts inG_X12 tyX12 tyX12_ok nmX12 hown hK hP hD hS 0 rfl rfl 39 (by decide +kernel) (hts _ fl_X12_368) (fun _ h9 => h9) rfl (by decide +kernel) rfl rfl (Nat.le_of_ble_eq_true rfl) dX12_turns_162 ?_
              clear hP hD hS
              intro H locs hP hD hS
              refine g5_rs [(b_o, (oc12 u_th u_sa b_rf b_ro b_im b_ke u_fd b_tp u_td u_fr u_to u_so u_wo u_fa u_bd u_nc b_nl u_co b_op b_ar u_le b_pi b_pa u_pd u_od b_ws b_hw z33 b_se b_re z34 z35 z36 u_ce (u_ho - z20) (u_wy ^^^ 1) ((u_bt * (10 - z32)) / 10) u_ps b_pt (u_tg ||| (1 <<< (p_1 &&& 31))) u_sn b_ip u_ic b_ah b_be b_me u_wd b_tr b_ld u_st b_wn u_id)), (b_ro, (arI G 5740 v_ro)), (b_se, (arJ G 13 z37)), (b_re, (arJ G 400 z38))] hP hD ?_
              clear hP hD
              intro hP hD
              refine lv_iconst (v := 1) hx hb dX12_turns_165 (by decide +kernel) ?_
              exact W.zret (v := 1) hx hb hr rfl (fun t ht hW => ⟨⟨1, [(b_o, (oc12 u_th u_sa b_rf b_ro b_im b_ke u_fd b_tp u_td u_fr u_to u_so u_wo u_fa u_bd u_nc b_nl u_co b_op b_ar u_le b_pi b_pa u_pd u_od b_ws b_hw z33 b_se b_re z34 z35 z36 u_ce (u_ho - z20) (u_wy ^^^ 1) ((u_bt * (10 - z32)) / 10) u_ps b_pt (u_tg ||| (1 <<< (p_1 &&& 31))) u_sn b_ip u_ic b_ah b_be b_me u_wd b_tr b_ld u_st b_wn u_id)), (b_ro, (arI G 5740 v_ro)), (b_se, (arJ G 13 z37)), (b_re, (arJ G 400 z38))], rfl, ⟨1, z33, z34, z35, z36, (u_ho - z20), (u_wy ^^^ 1), ((u_bt * (10 - z32)) / 10), (u_tg ||| (1 <<< (p_1 &&& 31))), z37, z38, ⟨by have zc_o_r : (1 : Int32).toInt = 1 := (by decide +kernel); omega, by have zc_o_r : (1 : Int32).toInt = 1 := (by decide +kernel); omega⟩, i_30, i_31, ⟨by omega, by omega⟩, ⟨by omega, by omega⟩, ⟨by omega, by omega⟩, rfl, rfl⟩, by rw [ht]; exact hP.sub [0, 1, 2, 3] rfl, hD.sub [0, 1, 2, 3] (by decide +kernel) rfl⟩, hS.F ht⟩) hS.2.2 dX12_turns_166
          ·
            have i_44 : ((u_bt * (10 - z32)) / 10).toInt < (v_ro 4).toInt := g5_geN (a := ((u_bt * (10 - z32)) / 10).toInt) (b := (v_ro 4).toInt) rfl rfl c_44
            refine lv_iconst (v := 0) hx hb dX12_turns_112 (by decide +kernel) ?_
            exact W.zret (v := 0) hx hb hr rfl (fun t ht hW => ⟨⟨0, [(b_o, (oc12 u_th u_sa b_rf b_ro b_im b_ke u_fd b_tp u_td u_fr u_to u_so u_wo u_fa u_bd u_nc b_nl u_co b_op b_ar u_le b_pi b_pa u_pd u_od b_ws b_hw z33 b_se b_re z34 z35 z36 u_ce (u_ho - z20) u_wy ((u_bt * (10 - z32)) / 10) u_ps b_pt u_tg u_sn b_ip u_ic b_ah b_be b_me u_wd b_tr b_ld u_st b_wn u_id)), (b_ro, (arI G 5740 v_ro)), (b_se, (arJ G 13 z37)), (b_re, (arJ G 400 z38))], rfl, ⟨0, z33, z34, z35, z36, (u_ho - z20), u_wy, ((u_bt * (10 - z32)) / 10), u_tg, z37, z38, ⟨by have zc_o_r : (0 : Int32).toInt = 0 := (by decide +kernel); omega, by have zc_o_r : (0 : Int32).toInt = 0 := (by decide +kernel); omega⟩, i_30, i_31, ⟨by omega, by omega⟩, h_u_wy, ⟨by omega, by omega⟩, rfl, rfl⟩, by rw [ht]; exact hP.sub [0, 1, 2, 3] rfl, hD.sub [0, 1, 2, 3] (by decide +kernel) rfl⟩, hS.F ht⟩) hS.2.2 dX12_turns_113
        ·
          have i_40 : u_ho.toInt < z20.toInt := g5_geN (a := u_ho.toInt) (b := z20.toInt) rfl rfl c_40
          refine lv_iconst (v := 0) hx hb dX12_turns_69 (by decide +kernel) ?_
          exact W.zret (v := 0) hx hb hr rfl (fun t ht hW => ⟨⟨0, [(b_o, (oc12 u_th u_sa b_rf b_ro b_im b_ke u_fd b_tp u_td u_fr u_to u_so u_wo u_fa u_bd u_nc b_nl u_co b_op b_ar u_le b_pi b_pa u_pd u_od b_ws b_hw z33 b_se b_re z34 z35 z36 u_ce u_ho u_wy u_bt u_ps b_pt u_tg u_sn b_ip u_ic b_ah b_be b_me u_wd b_tr b_ld u_st b_wn u_id)), (b_ro, (arI G 5740 v_ro)), (b_se, (arJ G 13 z37)), (b_re, (arJ G 400 z38))], rfl, ⟨0, z33, z34, z35, z36, u_ho, u_wy, u_bt, u_tg, z37, z38, ⟨by have zc_o_r : (0 : Int32).toInt = 0 := (by decide +kernel); omega, by have zc_o_r : (0 : Int32).toInt = 0 := (by decide +kernel); omega⟩, i_30, i_31, h_u_ho, h_u_wy, h_u_bt, rfl, rfl⟩, by rw [ht]; exact hP.sub [0, 1, 2, 3] rfl, hD.sub [0, 1, 2, 3] (by decide +kernel) rfl⟩, hS.F ht⟩) hS.2.2 dX12_turns_70
      ·
        have i_15 : p_2.toInt > 1 := g5_leN (a := p_2.toInt) (b := 1) rfl (by decide +kernel) c_15
        refine lv_aload_n hx hb dX12_turns_23 rfl (lv_at hl 0 rfl) ?_
        refine va_get (D := G.1) (ci := 12) (v := .int u_wy) (C := RX12) (T := TX12) (N := 52) hx hb hts inG_X12 hown hK hP 0 rfl rfl 35 (by decide +kernel) (hts _ fl_X12_355) (fun _ h9 => h9) rfl dX12_turns_24 ?_
        refine lv_iload_n hx hb dX12_turns_27 rfl (lv_at hl 2 rfl) ?_
        refine lv_iconst (v := 4) hx hb dX12_turns_28 (by decide +kernel) ?_
        refine lv_irem hx hb dX12_turns_29 (by decide +kernel) ?_
        have t_49 : (p_2 - p_2 / 4 * 4).toInt = p_2.toInt % 4 := g5_irem (a := p_2.toInt) (b := 4) rfl (by decide +kernel) (by omega) (by decide +kernel)
        refine lv_icmp_eq (tgt := 35) hx hb dX12_turns_30 (by decide +kernel) (fun c_50 => ?_) (fun c_50 => ?_)
        ·
          have i_50 : u_wy.toInt = (p_2.toInt % 4) := by have z := g5_eq (a := u_wy.toInt) (b := (p_2 - p_2 / 4 * 4).toInt) (by rfl) (by rfl) c_50; omega
          refine lv_aload_n hx hb dX12_turns_35 rfl (lv_at hl 0 rfl) ?_
          refine lv_iconst (v := 0) hx hb dX12_turns_36 (by decide +kernel) ?_
          refine lv_iload_n hx hb dX12_turns_37 rfl (lv_at hl 1 rfl) ?_
          refine lv_iconst (v := (-1)) hx hb dX12_turns_38 (by decide +kernel) ?_
          refine lv_iload_n hx hb dX12_turns_39 rfl (lv_at hl 3 rfl) ?_
          refine lv_bipush (v := 23) hx hb dX12_turns_40 (by decide +kernel) ?_
          obtain ⟨hPc, hDc, hFc⟩ := g5_sub3 (wc := [(b_o, (oc12 u_th u_sa b_rf b_ro b_im b_ke u_fd b_tp u_td u_fr u_to u_so u_wo u_fa u_bd u_nc b_nl u_co b_op b_ar u_le b_pi b_pa u_pd u_od b_ws b_hw z7 b_se b_re z8 z9 z10 u_ce u_ho u_wy u_bt u_ps b_pt u_tg u_sn b_ip u_ic b_ah b_be b_me u_wd b_tr b_ld u_st b_wn u_id)), (b_ro, (arI G 5740 v_ro)), (b_se, (arJ G 13 z11)), (b_re, (arJ G 400 z12))]) hP hD hS hA [0, 1, 2, 3] (by decide +kernel) rfl
          refine va_calli (va_runV (As := [.int 0, .int p_1, .int (-1), .int p_3, .int 23]) (rest := []) ⟨hx, hb, hml, hown, hts⟩ (n_asks l G b_o b_ro b_se b_re b_rf b_im b_ke b_tp b_nl b_op b_ar b_pi b_pa b_ws b_hw b_pt b_ip b_ah b_be b_me b_tr b_ld b_wn H.size u_th u_sa u_fd u_td u_fr u_to u_so u_fa u_bd u_nc u_co u_le u_pd u_od z7 z8 u_ce u_ho u_wy u_bt u_ps u_tg u_sn u_ic u_wd u_id 0 p_1 (-1) p_3 23 u_wo z9 z10 u_st v_ro z11 z12 h_u_td h_u_fr h_u_to h_u_bd h_u_nc h_u_co h_u_pd i_4 i_5 h_u_ce h_u_ho h_u_wy h_u_bt h_u_ps h_u_ic h_u_id h_p_3 ⟨by decide, by decide⟩ (r_ro) (by have zk : (23 : Int32).toInt = 23 := (by decide +kernel); omega)) (cwV 5 hts gV_X12_383 rfl rfl rfl hv_X12_asks ⟨Nat.le_of_ble_eq_true rfl, Nat.le_of_ble_eq_true rfl⟩) (g5_preV hPc hK hDc hN hT hS hFc (ci := 12) (q0 := 0) rfl rfl) rfl rfl hl.1 rfl (lv_room (Nat.le_of_ble_eq_true rfl)) dX12_turns_42 ⟨Nat.le_of_ble_eq_true rfl, Nat.le_of_ble_eq_true rfl⟩) hS (fun q _ h => hFc q h) hFc (fun r u t H locs ht hvm hw hB hz1 hk1 hS => ?_)
          obtain ⟨hP1, hD1⟩ := hB
          have hP1 := g5_ht ht hP1
          obtain ⟨z55, z56, z57, z58, z59, z60, z61, (i_51 : 0 ≤ z55.toInt ∧ z55.toInt ≤ 23), (i_52 : 0 ≤ z55.toInt ∧ z55.toInt ≤ (23 : Int32).toInt), (i_53 : 0 ≤ z56.toInt ∧ z56.toInt ≤ 4840), (i_54 : 0 ≤ z57.toInt ∧ z57.toInt ≤ 1), y62, rfl⟩ := hw
          have hJ9 := va_join (wr := []) hP hD [0, 1, 2, 3] [] rfl rfl (by decide +kernel) (by decide +kernel) hk1 hFc hP1 hD1
          clear hP hD hPc hDc hFc ht hvm hz1 hk1 hP1 hD1
          obtain ⟨hP, hD⟩ := hJ9
          refine g5_rs [(b_o, (oc12 u_th u_sa b_rf b_ro b_im b_ke u_fd b_tp u_td u_fr u_to u_so u_wo u_fa u_bd u_nc b_nl u_co b_op b_ar u_le b_pi b_pa u_pd u_od b_ws b_hw z56 b_se b_re z57 z58 z59 u_ce u_ho u_wy u_bt u_ps b_pt u_tg u_sn b_ip u_ic b_ah b_be b_me u_wd b_tr b_ld u_st b_wn u_id)), (b_ro, (arI G 5740 v_ro)), (b_se, (arJ G 13 z60)), (b_re, (arJ G 400 z61))] hP hD ?_
          clear hP hD
          intro hP hD
          refine g5_ti (v := z55) y62 ?_
          refine lv_istore (lv' := [(6, .int z55), (0, .ref b_o), (1, .int p_1), (2, .int p_2), (3, .int p_3), (4, .int p_4), (5, .int p_5)]) hx hb dX12_turns_45 hl (by decide +kernel) rfl ?_
          clear hl
          intro ls hl
          refine lv_aload_n hx hb dX12_turns_47 rfl (lv_at hl 1 rfl) ?_
          refine lv_iconst (v := 1) hx hb dX12_turns_48 (by decide +kernel) ?_
          refine lv_iload_n hx hb dX12_turns_49 rfl (lv_at hl 2 rfl) ?_
          refine lv_iconst (v := (-1)) hx hb dX12_turns_50 (by decide +kernel) ?_
          refine lv_iload hx hb dX12_turns_51 (lv_at hl 5 rfl) ?_
          refine lv_bipush (v := 10) hx hb dX12_turns_53 (by decide +kernel) ?_
          obtain ⟨hPc, hDc, hFc⟩ := g5_sub3 (wc := [(b_o, (oc12 u_th u_sa b_rf b_ro b_im b_ke u_fd b_tp u_td u_fr u_to u_so u_wo u_fa u_bd u_nc b_nl u_co b_op b_ar u_le b_pi b_pa u_pd u_od b_ws b_hw z56 b_se b_re z57 z58 z59 u_ce u_ho u_wy u_bt u_ps b_pt u_tg u_sn b_ip u_ic b_ah b_be b_me u_wd b_tr b_ld u_st b_wn u_id)), (b_ro, (arI G 5740 v_ro)), (b_se, (arJ G 13 z60)), (b_re, (arJ G 400 z61))]) hP hD hS hA [0, 1, 2, 3] (by decide +kernel) rfl
          refine va_calli (va_runV (As := [.int 1, .int p_1, .int (-1), .int p_4, .int 10]) (rest := []) ⟨hx, hb, hml, hown, hts⟩ (n_asks l G b_o b_ro b_se b_re b_rf b_im b_ke b_tp b_nl b_op b_ar b_pi b_pa b_ws b_hw b_pt b_ip b_ah b_be b_me b_tr b_ld b_wn H.size u_th u_sa u_fd u_td u_fr u_to u_so u_fa u_bd u_nc u_co u_le u_pd u_od z56 z57 u_ce u_ho u_wy u_bt u_ps u_tg u_sn u_ic u_wd u_id 1 p_1 (-1) p_4 10 u_wo z58 z59 u_st v_ro z60 z61 h_u_td h_u_fr h_u_to h_u_bd h_u_nc h_u_co h_u_pd i_53 i_54 h_u_ce h_u_ho h_u_wy h_u_bt h_u_ps h_u_ic h_u_id ⟨by omega, by omega⟩ ⟨by decide, by decide⟩ (r_ro) (by have zk : (10 : Int32).toInt = 10 := (by decide +kernel); omega)) (cwV 5 hts gV_X12_383 rfl rfl rfl hv_X12_asks ⟨Nat.le_of_ble_eq_true rfl, Nat.le_of_ble_eq_true rfl⟩) (g5_preV hPc hK hDc hN hT hS hFc (ci := 12) (q0 := 0) rfl rfl) rfl rfl hl.1 rfl (lv_room (Nat.le_of_ble_eq_true rfl)) dX12_turns_55 ⟨Nat.le_of_ble_eq_true rfl, Nat.le_of_ble_eq_true rfl⟩) hS (fun q _ h => hFc q h) hFc (fun r u t H locs ht hvm hw hB hz1 hk1 hS => ?_)
          obtain ⟨hP1, hD1⟩ := hB
          have hP1 := g5_ht ht hP1
          obtain ⟨z67, z68, z69, z70, z71, z72, z73, (i_63 : 0 ≤ z67.toInt ∧ z67.toInt ≤ 23), (i_64 : 0 ≤ z67.toInt ∧ z67.toInt ≤ (10 : Int32).toInt), (i_65 : 0 ≤ z68.toInt ∧ z68.toInt ≤ 4840), (i_66 : 0 ≤ z69.toInt ∧ z69.toInt ≤ 1), y74, rfl⟩ := hw
          have hJ9 := va_join (wr := []) hP hD [0, 1, 2, 3] [] rfl rfl (by decide +kernel) (by decide +kernel) hk1 hFc hP1 hD1
          clear hP hD hPc hDc hFc ht hvm hz1 hk1 hP1 hD1
          obtain ⟨hP, hD⟩ := hJ9
          refine g5_rs [(b_o, (oc12 u_th u_sa b_rf b_ro b_im b_ke u_fd b_tp u_td u_fr u_to u_so u_wo u_fa u_bd u_nc b_nl u_co b_op b_ar u_le b_pi b_pa u_pd u_od b_ws b_hw z68 b_se b_re z69 z70 z71 u_ce u_ho u_wy u_bt u_ps b_pt u_tg u_sn b_ip u_ic b_ah b_be b_me u_wd b_tr b_ld u_st b_wn u_id)), (b_ro, (arI G 5740 v_ro)), (b_se, (arJ G 13 z72)), (b_re, (arJ G 400 z73))] hP hD ?_
          clear hP hD
          intro hP hD
          refine g5_ti (v := z67) y74 ?_
          refine lv_istore (lv' := [(7, .int z67), (6, .int z55), (0, .ref b_o), (1, .int p_1), (2, .int p_2), (3, .int p_3), (4, .int p_4), (5, .int p_5)]) hx hb dX12_turns_58 hl (by decide +kernel) rfl ?_
          clear hl
          intro ls hl
          refine lv_aload_n hx hb dX12_turns_60 rfl (lv_at hl 2 rfl) ?_
          refine va_get (D := G.1) (ci := 12) (v := .int u_ho) (C := RX12) (T := TX12) (N := 52) hx hb hts inG_X12 hown hK hP 0 rfl rfl 34 (by decide +kernel) (hts _ fl_X12_352) (fun _ h9 => h9) rfl dX12_turns_61 ?_
          refine lv_iload hx hb dX12_turns_64 (lv_at hl 1 rfl) ?_
          refine lv_icmp_ge (tgt := 71) hx hb dX12_turns_66 (by decide +kernel) (fun c_75 => ?_) (fun c_75 => ?_)
          ·
            have i_75 : u_ho.toInt ≥ z55.toInt := g5_ge (a := u_ho.toInt) (b := z55.toInt) rfl rfl c_75
            refine lv_aload_n hx hb dX12_turns_71 rfl (lv_at hl 2 rfl) ?_
            refine lv_dup hx hb dX12_turns_72 rfl ?_
            refine va_get (D := G.1) (ci := 12) (v := .int u_ho) (C := RX12) (T := TX12) (N := 52) hx hb hts inG_X12 hown hK hP 0 rfl rfl 34 (by decide +kernel) (hts _ fl_X12_352) (fun _ h9 => h9) rfl dX12_turns_73 ?_
            refine lv_iload hx hb dX12_turns_76 (lv_at hl 1 rfl) ?_
            refine lv_isub hx hb dX12_turns_78 ?_
            have t_76 : (u_ho - z55).toInt = u_ho.toInt - z55.toInt := g5_isub (a := u_ho.toInt) (b := z55.toInt) (by rfl) (by rfl) (by omega) (by omega)
            refine va_put (D := G.1) (ci := 12) (v := .int (u_ho - z55)) (ty := .int) (C := RX12) (T := TX12) (N := 52) hx hb hts inG_X12 tyX12 tyX12_ok nmX12 hown hK hP hD hS 0 rfl rfl 34 (by decide +kernel) (hts _ fl_X12_352) (fun _ h9 => h9) rfl (by decide +kernel) rfl rfl (Nat.le_of_ble_eq_true rfl) dX12_turns_79 ?_
            clear hP hD hS
            intro H locs hP hD hS
            refine g5_rs [(b_o, (oc12 u_th u_sa b_rf b_ro b_im b_ke u_fd b_tp u_td u_fr u_to u_so u_wo u_fa u_bd u_nc b_nl u_co b_op b_ar u_le b_pi b_pa u_pd u_od b_ws b_hw z68 b_se b_re z69 z70 z71 u_ce (u_ho - z55) u_wy u_bt u_ps b_pt u_tg u_sn b_ip u_ic b_ah b_be b_me u_wd b_tr b_ld u_st b_wn u_id)), (b_ro, (arI G 5740 v_ro)), (b_se, (arJ G 13 z72)), (b_re, (arJ G 400 z73))] hP hD ?_
            clear hP hD
            intro hP hD
            refine lv_aload_n hx hb dX12_turns_82 rfl (lv_at hl 2 rfl) ?_
            refine lv_aload_n hx hb dX12_turns_83 rfl (lv_at hl 2 rfl) ?_
            refine va_get (D := G.1) (ci := 12) (v := .int u_bt) (C := RX12) (T := TX12) (N := 52) hx hb hts inG_X12 hown hK hP 0 rfl rfl 36 (by decide +kernel) (hts _ fl_X12_361) (fun _ h9 => h9) rfl dX12_turns_84 ?_
            refine lv_bipush (v := 10) hx hb dX12_turns_87 (by decide +kernel) ?_
            refine lv_iload hx hb dX12_turns_89 (lv_at hl 0 rfl) ?_
            refine lv_isub hx hb dX12_turns_91 ?_
            have t_77 : (10 - z67).toInt = 10 - z67.toInt := g5_isub (a := 10) (b := z67.toInt) (by decide +kernel) (by rfl) (by omega) (by omega)
            refine lv_imul hx hb dX12_turns_92 ?_
            refine lv_bipush (v := 10) hx hb dX12_turns_93 (by decide +kernel) ?_
            refine lv_idiv hx hb dX12_turns_95 (by decide +kernel) ?_
            have hb_78 : 0 ≤ ((u_bt * (10 - z67)) / 10).toInt ∧ ((u_bt * (10 - z67)) / 10).toInt ≤ 1000000 := g_dust (by omega) (by omega)
            refine va_put (D := G.1) (ci := 12) (v := .int ((u_bt * (10 - z67)) / 10)) (ty := .int) (C := RX12) (T := TX12) (N := 52) hx hb hts inG_X12 tyX12 tyX12_ok nmX12 hown hK hP hD hS 0 rfl rfl 36 (by decide +kernel) (hts _ fl_X12_361) (fun _ h9 => h9) rfl (by decide +kernel) rfl rfl (Nat.le_of_ble_eq_true rfl) dX12_turns_96 ?_
            clear hP hD hS
            intro H locs hP hD hS
            refine g5_rs [(b_o, (oc12 u_th u_sa b_rf b_ro b_im b_ke u_fd b_tp u_td u_fr u_to u_so u_wo u_fa u_bd u_nc b_nl u_co b_op b_ar u_le b_pi b_pa u_pd u_od b_ws b_hw z68 b_se b_re z69 z70 z71 u_ce (u_ho - z55) u_wy ((u_bt * (10 - z67)) / 10) u_ps b_pt u_tg u_sn b_ip u_ic b_ah b_be b_me u_wd b_tr b_ld u_st b_wn u_id)), (b_ro, (arI G 5740 v_ro)), (b_se, (arJ G 13 z72)), (b_re, (arJ G 400 z73))] hP hD ?_
            clear hP hD
            intro hP hD
            refine lv_aload_n hx hb dX12_turns_99 rfl (lv_at hl 2 rfl) ?_
            refine va_get (D := G.1) (ci := 12) (v := .int ((u_bt * (10 - z67)) / 10)) (C := RX12) (T := TX12) (N := 52) hx hb hts inG_X12 hown hK hP 0 rfl rfl 36 (by decide +kernel) (hts _ fl_X12_361) (fun _ h9 => h9) rfl dX12_turns_100 ?_
            refine lv_aload_n hx hb dX12_turns_103 rfl (lv_at hl 2 rfl) ?_
            refine va_get (D := G.1) (ci := 12) (v := .ref b_ro) (C := RX12) (T := TX12) (N := 52) hx hb hts inG_X12 hown hK hP 0 rfl rfl 3 (by decide +kernel) (hts _ fl_X12_13) (fun _ h9 => h9) rfl dX12_turns_104 ?_
            refine lv_iconst (v := 4) hx hb dX12_turns_107 (by decide +kernel) ?_
            refine va_iald hx hb hK hP 1 0 rfl rfl (i := 4) (by unfold vp_in; decide) dX12_turns_108 ?_
            refine g5_ti (v := (v_ro 4)) rfl ?_
            refine lv_icmp_ge (tgt := 114) hx hb dX12_turns_109 (by decide +kernel) (fun c_79 => ?_) (fun c_79 => ?_)
            ·
              have i_79 : ((u_bt * (10 - z67)) / 10).toInt ≥ (v_ro 4).toInt := g5_ge (a := ((u_bt * (10 - z67)) / 10).toInt) (b := (v_ro 4).toInt) rfl rfl c_79
              refine lv_aload_n hx hb dX12_turns_114 rfl (lv_at hl 2 rfl) ?_
              refine lv_iload_n hx hb dX12_turns_115 rfl (lv_at hl 4 rfl) ?_
              refine lv_if_ne (tgt := 128) hx hb dX12_turns_116 (by decide +kernel) (fun c_80 => ?_) (fun c_80 => ?_)
              ·
                have n_80 : gNe (p_2.toInt) (0) := g5_ne (a := p_2.toInt) (b := 0) rfl (by decide +kernel) c_80
                refine lv_iload_n hx hb dX12_turns_128 rfl (lv_at hl 4 rfl) ?_
                refine lv_iconst (v := 1) hx hb dX12_turns_129 (by decide +kernel) ?_
                refine lv_icmp_ne (tgt := 142) hx hb dX12_turns_130 (by decide +kernel) (fun c_81 => ?_) (fun c_81 => ?_)
                ·
                  have n_81 : gNe (p_2.toInt) (1) := g5_ne (a := p_2.toInt) (b := 1) rfl (by decide +kernel) c_81
                  refine lv_aload_n hx hb dX12_turns_142 rfl (lv_at hl 2 rfl) ?_
                  refine va_get (D := G.1) (ci := 12) (v := .int u_wy) (C := RX12) (T := TX12) (N := 52) hx hb hts inG_X12 hown hK hP 0 rfl rfl 35 (by decide +kernel) (hts _ fl_X12_355) (fun _ h9 => h9) rfl dX12_turns_143 ?_
                  refine lv_iconst (v := 2) hx hb dX12_turns_146 (by decide +kernel) ?_
                  refine lv_iadd hx hb dX12_turns_147 ?_
                  have t_82 : (u_wy + 2).toInt = u_wy.toInt + 2 := g5_iadd (a := u_wy.toInt) (b := 2) (by rfl) (by decide +kernel) (by omega) (by omega)
                  refine lv_iconst (v := 4) hx hb dX12_turns_148 (by decide +kernel) ?_
                  refine lv_irem hx hb dX12_turns_149 (by decide +kernel) ?_
                  have t_83 : ((u_wy + 2) - (u_wy + 2) / 4 * 4).toInt = (u_wy + 2).toInt % 4 := g5_irem (a := (u_wy + 2).toInt) (b := 4) rfl (by decide +kernel) (by omega) (by decide +kernel)
                  refine va_put (D := G.1) (ci := 12) (v := .int ((u_wy + 2) - (u_wy + 2) / 4 * 4)) (ty := .int) (C := RX12) (T := TX12) (N := 52) hx hb hts inG_X12 tyX12 tyX12_ok nmX12 hown hK hP hD hS 0 rfl rfl 35 (by decide +kernel) (hts _ fl_X12_355) (fun _ h9 => h9) rfl (by decide +kernel) rfl rfl (Nat.le_of_ble_eq_true rfl) dX12_turns_150 ?_
                  clear hP hD hS
                  intro H locs hP hD hS
                  refine g5_rs [(b_o, (oc12 u_th u_sa b_rf b_ro b_im b_ke u_fd b_tp u_td u_fr u_to u_so u_wo u_fa u_bd u_nc b_nl u_co b_op b_ar u_le b_pi b_pa u_pd u_od b_ws b_hw z68 b_se b_re z69 z70 z71 u_ce (u_ho - z55) ((u_wy + 2) - (u_wy + 2) / 4 * 4) ((u_bt * (10 - z67)) / 10) u_ps b_pt u_tg u_sn b_ip u_ic b_ah b_be b_me u_wd b_tr b_ld u_st b_wn u_id)), (b_ro, (arI G 5740 v_ro)), (b_se, (arJ G 13 z72)), (b_re, (arJ G 400 z73))] hP hD ?_
                  clear hP hD
                  intro hP hD
                  refine lv_aload_n hx hb dX12_turns_153 rfl (lv_at hl 2 rfl) ?_
                  refine lv_dup hx hb dX12_turns_154 rfl ?_
                  refine va_get (D := G.1) (ci := 12) (v := .int u_tg) (C := RX12) (T := TX12) (N := 52) hx hb hts inG_X12 hown hK hP 0 rfl rfl 39 (by decide +kernel) (hts _ fl_X12_368) (fun _ h9 => h9) rfl dX12_turns_155 ?_
                  refine lv_iconst (v := 1) hx hb dX12_turns_158 (by decide +kernel) ?_
                  refine lv_iload_n hx hb dX12_turns_159 rfl (lv_at hl 3 rfl) ?_
                  refine lv_ishl hx hb dX12_turns_160 ?_
                  refine lv_ior hx hb dX12_turns_161 ?_
                  refine va_put (D := G.1) (ci := 12) (v := .int (u_tg ||| (1 <<< (p_1 &&& 31)))) (ty := .int) (C := RX12) (T := TX12) (N := 52) hx hb hts inG_X12 tyX12 tyX12_ok nmX12 hown hK hP hD hS 0 rfl rfl 39 (by decide +kernel) (hts _ fl_X12_368) (fun _ h9 => h9) rfl (by decide +kernel) rfl rfl (Nat.le_of_ble_eq_true rfl) dX12_turns_162 ?_
                  clear hP hD hS
                  intro H locs hP hD hS
                  refine g5_rs [(b_o, (oc12 u_th u_sa b_rf b_ro b_im b_ke u_fd b_tp u_td u_fr u_to u_so u_wo u_fa u_bd u_nc b_nl u_co b_op b_ar u_le b_pi b_pa u_pd u_od b_ws b_hw z68 b_se b_re z69 z70 z71 u_ce (u_ho - z55) ((u_wy + 2) - (u_wy + 2) / 4 * 4) ((u_bt * (10 - z67)) / 10) u_ps b_pt (u_tg ||| (1 <<< (p_1 &&& 31))) u_sn b_ip u_ic b_ah b_be b_me u_wd b_tr b_ld u_st b_wn u_id)), (b_ro, (arI G 5740 v_ro)), (b_se, (arJ G 13 z72)), (b_re, (arJ G 400 z73))] hP hD ?_
                  clear hP hD
                  intro hP hD
                  refine lv_iconst (v := 1) hx hb dX12_turns_165 (by decide +kernel) ?_
                  exact W.zret (v := 1) hx hb hr rfl (fun t ht hW => ⟨⟨1, [(b_o, (oc12 u_th u_sa b_rf b_ro b_im b_ke u_fd b_tp u_td u_fr u_to u_so u_wo u_fa u_bd u_nc b_nl u_co b_op b_ar u_le b_pi b_pa u_pd u_od b_ws b_hw z68 b_se b_re z69 z70 z71 u_ce (u_ho - z55) ((u_wy + 2) - (u_wy + 2) / 4 * 4) ((u_bt * (10 - z67)) / 10) u_ps b_pt (u_tg ||| (1 <<< (p_1 &&& 31))) u_sn b_ip u_ic b_ah b_be b_me u_wd b_tr b_ld u_st b_wn u_id)), (b_ro, (arI G 5740 v_ro)), (b_se, (arJ G 13 z72)), (b_re, (arJ G 400 z73))], rfl, ⟨1, z68, z69, z70, z71, (u_ho - z55), ((u_wy + 2) - (u_wy + 2) / 4 * 4), ((u_bt * (10 - z67)) / 10), (u_tg ||| (1 <<< (p_1 &&& 31))), z72, z73, ⟨by have zc_o_r : (1 : Int32).toInt = 1 := (by decide +kernel); omega, by have zc_o_r : (1 : Int32).toInt = 1 := (by decide +kernel); omega⟩, i_65, i_66, ⟨by omega, by omega⟩, ⟨by omega, by omega⟩, ⟨by omega, by omega⟩, rfl, rfl⟩, by rw [ht]; exact hP.sub [0, 1, 2, 3] rfl, hD.sub [0, 1, 2, 3] (by decide +kernel) rfl⟩, hS.F ht⟩) hS.2.2 dX12_turns_166
                ·
                  have i_81 : p_2.toInt = 1 := g5_neN (a := p_2.toInt) (b := 1) rfl (by decide +kernel) c_81
                  omega
              ·
                have i_80 : p_2.toInt = 0 := g5_neN (a := p_2.toInt) (b := 0) rfl (by decide +kernel) c_80
                omega
            ·
              have i_79 : ((u_bt * (10 - z67)) / 10).toInt < (v_ro 4).toInt := g5_geN (a := ((u_bt * (10 - z67)) / 10).toInt) (b := (v_ro 4).toInt) rfl rfl c_79
              refine lv_iconst (v := 0) hx hb dX12_turns_112 (by decide +kernel) ?_
              exact W.zret (v := 0) hx hb hr rfl (fun t ht hW => ⟨⟨0, [(b_o, (oc12 u_th u_sa b_rf b_ro b_im b_ke u_fd b_tp u_td u_fr u_to u_so u_wo u_fa u_bd u_nc b_nl u_co b_op b_ar u_le b_pi b_pa u_pd u_od b_ws b_hw z68 b_se b_re z69 z70 z71 u_ce (u_ho - z55) u_wy ((u_bt * (10 - z67)) / 10) u_ps b_pt u_tg u_sn b_ip u_ic b_ah b_be b_me u_wd b_tr b_ld u_st b_wn u_id)), (b_ro, (arI G 5740 v_ro)), (b_se, (arJ G 13 z72)), (b_re, (arJ G 400 z73))], rfl, ⟨0, z68, z69, z70, z71, (u_ho - z55), u_wy, ((u_bt * (10 - z67)) / 10), u_tg, z72, z73, ⟨by have zc_o_r : (0 : Int32).toInt = 0 := (by decide +kernel); omega, by have zc_o_r : (0 : Int32).toInt = 0 := (by decide +kernel); omega⟩, i_65, i_66, ⟨by omega, by omega⟩, h_u_wy, ⟨by omega, by omega⟩, rfl, rfl⟩, by rw [ht]; exact hP.sub [0, 1, 2, 3] rfl, hD.sub [0, 1, 2, 3] (by decide +kernel) rfl⟩, hS.F ht⟩) hS.2.2 dX12_turns_113
          ·
            have i_75 : u_ho.toInt < z55.toInt := g5_geN (a := u_ho.toInt) (b := z55.toInt) rfl rfl c_75
            refine lv_iconst (v := 0) hx hb dX12_turns_69 (by decide +kernel) ?_
            exact W.zret (v := 0) hx hb hr rfl (fun t ht hW => ⟨⟨0, [(b_o, (oc12 u_th u_sa b_rf b_ro b_im b_ke u_fd b_tp u_td u_fr u_to u_so u_wo u_fa u_bd u_nc b_nl u_co b_op b_ar u_le b_pi b_pa u_pd u_od b_ws b_hw z68 b_se b_re z69 z70 z71 u_ce u_ho u_wy u_bt u_ps b_pt u_tg u_sn b_ip u_ic b_ah b_be b_me u_wd b_tr b_ld u_st b_wn u_id)), (b_ro, (arI G 5740 v_ro)), (b_se, (arJ G 13 z72)), (b_re, (arJ G 400 z73))], rfl, ⟨0, z68, z69, z70, z71, u_ho, u_wy, u_bt, u_tg, z72, z73, ⟨by have zc_o_r : (0 : Int32).toInt = 0 := (by decide +kernel); omega, by have zc_o_r : (0 : Int32).toInt = 0 := (by decide +kernel); omega⟩, i_65, i_66, h_u_ho, h_u_wy, h_u_bt, rfl, rfl⟩, by rw [ht]; exact hP.sub [0, 1, 2, 3] rfl, hD.sub [0, 1, 2, 3] (by decide +kernel) rfl⟩, hS.F ht⟩) hS.2.2 dX12_turns_70
        ·
          have n_50 : gNe (u_wy.toInt) ((p_2.toInt % 4)) := by have z := g5_eqN (a := u_wy.toInt) (b := (p_2 - p_2 / 4 * 4).toInt) (by rfl) (by rfl) c_50; unfold gNe; omega
          refine lv_iconst (v := 0) hx hb dX12_turns_33 (by decide +kernel) ?_
          exact W.zret (v := 0) hx hb hr rfl (fun t ht hW => ⟨⟨0, [(b_o, (oc12 u_th u_sa b_rf b_ro b_im b_ke u_fd b_tp u_td u_fr u_to u_so u_wo u_fa u_bd u_nc b_nl u_co b_op b_ar u_le b_pi b_pa u_pd u_od b_ws b_hw z7 b_se b_re z8 z9 z10 u_ce u_ho u_wy u_bt u_ps b_pt u_tg u_sn b_ip u_ic b_ah b_be b_me u_wd b_tr b_ld u_st b_wn u_id)), (b_ro, (arI G 5740 v_ro)), (b_se, (arJ G 13 z11)), (b_re, (arJ G 400 z12))], rfl, ⟨0, z7, z8, z9, z10, u_ho, u_wy, u_bt, u_tg, z11, z12, ⟨by have zc_o_r : (0 : Int32).toInt = 0 := (by decide +kernel); omega, by have zc_o_r : (0 : Int32).toInt = 0 := (by decide +kernel); omega⟩, i_4, i_5, h_u_ho, h_u_wy, h_u_bt, rfl, rfl⟩, by rw [ht]; exact hP.sub [0, 1, 2, 3] rfl, hD.sub [0, 1, 2, 3] (by decide +kernel) rfl⟩, hS.F ht⟩) hS.2.2 dX12_turns_34
theorem dgX12_passes_0 : ∀ r ∈ ([(0, (.iconst 0, 1)), (1, (.istore_n 2, 1)), (2, (.iload_n 2, 1)), (3, (.aload_n 0, 1)), (4, (.getfield 13, 3)), (7, (.iconst 0, 1)), (8, (.iaload, 1)), (9, (.if_icmp .ge 59, 3)), (12, (.aload_n 0, 1)), (13, (.iload_n 2, 1)), (14, (.iconst 0, 1)), (15, (.invokevirtual 134, 3)), (18, (.aload_n 0, 1)), (19, (.getfield 349, 3)), (22, (.if_icmp .ne 40, 3)), (25, (.aload_n 0, 1)), (26, (.iload_n 2, 1)), (27, (.aload_n 0, 1)), (28, (.iload_n 2, 1)), (29, (.iconst 1, 1)), (30, (.invokevirtual 134, 3)), (33, (.aload_n 0, 1)), (34, (.iload_n 2, 1)), (35, (.iconst 2, 1)), (36, (.invokevirtual 134, 3)), (39, (.aload_n 0, 1)), (40, (.iload_n 2, 1)), (41, (.iconst 3, 1)), (42, (.invokevirtual 134, 3)), (45, (.aload_n 0, 1)), (46, (.iload_n 2, 1)), (47, (.iconst 4, 1)), (48, (.invokevirtual 134, 3)), (51, (.aload_n 0, 1)), (52, (.getfield 352, 3)), (55, (.invokestatic 387, 3)), (58, (.invokevirtual 390, 3)), (61, (.ireturn, 1)), (62, (.iinc 2 1, 3)), (65, (.goto (-63), 3))] : List (Nat × (Instr × Nat))), decode cX12_passes r.1 = .ok r.2 := by decide +kernel
theorem dX12_passes_0 : decode cX12_passes 0 = .ok (.iconst 0, 1) := dgX12_passes_0 (0, (.iconst 0, 1)) (List.mem_of_getElem? (i := 0) rfl)
theorem dX12_passes_1 : decode cX12_passes 1 = .ok (.istore_n 2, 1) := dgX12_passes_0 (1, (.istore_n 2, 1)) (List.mem_of_getElem? (i := 1) rfl)
theorem dX12_passes_2 : decode cX12_passes 2 = .ok (.iload_n 2, 1) := dgX12_passes_0 (2, (.iload_n 2, 1)) (List.mem_of_getElem? (i := 2) rfl)
theorem dX12_passes_3 : decode cX12_passes 3 = .ok (.aload_n 0, 1) := dgX12_passes_0 (3, (.aload_n 0, 1)) (List.mem_of_getElem? (i := 3) rfl)
theorem dX12_passes_4 : decode cX12_passes 4 = .ok (.getfield 13, 3) := dgX12_passes_0 (4, (.getfield 13, 3)) (List.mem_of_getElem? (i := 4) rfl)
theorem dX12_passes_7 : decode cX12_passes 7 = .ok (.iconst 0, 1) := dgX12_passes_0 (7, (.iconst 0, 1)) (List.mem_of_getElem? (i := 5) rfl)
theorem dX12_passes_8 : decode cX12_passes 8 = .ok (.iaload, 1) := dgX12_passes_0 (8, (.iaload, 1)) (List.mem_of_getElem? (i := 6) rfl)
theorem dX12_passes_9 : decode cX12_passes 9 = .ok (.if_icmp .ge 59, 3) := dgX12_passes_0 (9, (.if_icmp .ge 59, 3)) (List.mem_of_getElem? (i := 7) rfl)
theorem dX12_passes_12 : decode cX12_passes 12 = .ok (.aload_n 0, 1) := dgX12_passes_0 (12, (.aload_n 0, 1)) (List.mem_of_getElem? (i := 8) rfl)
theorem dX12_passes_13 : decode cX12_passes 13 = .ok (.iload_n 2, 1) := dgX12_passes_0 (13, (.iload_n 2, 1)) (List.mem_of_getElem? (i := 9) rfl)
theorem dX12_passes_14 : decode cX12_passes 14 = .ok (.iconst 0, 1) := dgX12_passes_0 (14, (.iconst 0, 1)) (List.mem_of_getElem? (i := 10) rfl)
theorem dX12_passes_15 : decode cX12_passes 15 = .ok (.invokevirtual 134, 3) := dgX12_passes_0 (15, (.invokevirtual 134, 3)) (List.mem_of_getElem? (i := 11) rfl)
theorem dX12_passes_18 : decode cX12_passes 18 = .ok (.aload_n 0, 1) := dgX12_passes_0 (18, (.aload_n 0, 1)) (List.mem_of_getElem? (i := 12) rfl)
theorem dX12_passes_19 : decode cX12_passes 19 = .ok (.getfield 349, 3) := dgX12_passes_0 (19, (.getfield 349, 3)) (List.mem_of_getElem? (i := 13) rfl)
theorem dX12_passes_22 : decode cX12_passes 22 = .ok (.if_icmp .ne 40, 3) := dgX12_passes_0 (22, (.if_icmp .ne 40, 3)) (List.mem_of_getElem? (i := 14) rfl)
theorem dX12_passes_25 : decode cX12_passes 25 = .ok (.aload_n 0, 1) := dgX12_passes_0 (25, (.aload_n 0, 1)) (List.mem_of_getElem? (i := 15) rfl)
theorem dX12_passes_26 : decode cX12_passes 26 = .ok (.iload_n 2, 1) := dgX12_passes_0 (26, (.iload_n 2, 1)) (List.mem_of_getElem? (i := 16) rfl)
theorem dX12_passes_27 : decode cX12_passes 27 = .ok (.aload_n 0, 1) := dgX12_passes_0 (27, (.aload_n 0, 1)) (List.mem_of_getElem? (i := 17) rfl)
theorem dX12_passes_28 : decode cX12_passes 28 = .ok (.iload_n 2, 1) := dgX12_passes_0 (28, (.iload_n 2, 1)) (List.mem_of_getElem? (i := 18) rfl)
theorem dX12_passes_29 : decode cX12_passes 29 = .ok (.iconst 1, 1) := dgX12_passes_0 (29, (.iconst 1, 1)) (List.mem_of_getElem? (i := 19) rfl)
theorem dX12_passes_30 : decode cX12_passes 30 = .ok (.invokevirtual 134, 3) := dgX12_passes_0 (30, (.invokevirtual 134, 3)) (List.mem_of_getElem? (i := 20) rfl)
theorem dX12_passes_33 : decode cX12_passes 33 = .ok (.aload_n 0, 1) := dgX12_passes_0 (33, (.aload_n 0, 1)) (List.mem_of_getElem? (i := 21) rfl)
theorem dX12_passes_34 : decode cX12_passes 34 = .ok (.iload_n 2, 1) := dgX12_passes_0 (34, (.iload_n 2, 1)) (List.mem_of_getElem? (i := 22) rfl)
theorem dX12_passes_35 : decode cX12_passes 35 = .ok (.iconst 2, 1) := dgX12_passes_0 (35, (.iconst 2, 1)) (List.mem_of_getElem? (i := 23) rfl)
theorem dX12_passes_36 : decode cX12_passes 36 = .ok (.invokevirtual 134, 3) := dgX12_passes_0 (36, (.invokevirtual 134, 3)) (List.mem_of_getElem? (i := 24) rfl)
theorem dX12_passes_39 : decode cX12_passes 39 = .ok (.aload_n 0, 1) := dgX12_passes_0 (39, (.aload_n 0, 1)) (List.mem_of_getElem? (i := 25) rfl)
theorem dX12_passes_40 : decode cX12_passes 40 = .ok (.iload_n 2, 1) := dgX12_passes_0 (40, (.iload_n 2, 1)) (List.mem_of_getElem? (i := 26) rfl)
theorem dX12_passes_41 : decode cX12_passes 41 = .ok (.iconst 3, 1) := dgX12_passes_0 (41, (.iconst 3, 1)) (List.mem_of_getElem? (i := 27) rfl)
theorem dX12_passes_42 : decode cX12_passes 42 = .ok (.invokevirtual 134, 3) := dgX12_passes_0 (42, (.invokevirtual 134, 3)) (List.mem_of_getElem? (i := 28) rfl)
theorem dX12_passes_45 : decode cX12_passes 45 = .ok (.aload_n 0, 1) := dgX12_passes_0 (45, (.aload_n 0, 1)) (List.mem_of_getElem? (i := 29) rfl)
theorem dX12_passes_46 : decode cX12_passes 46 = .ok (.iload_n 2, 1) := dgX12_passes_0 (46, (.iload_n 2, 1)) (List.mem_of_getElem? (i := 30) rfl)
theorem dX12_passes_47 : decode cX12_passes 47 = .ok (.iconst 4, 1) := dgX12_passes_0 (47, (.iconst 4, 1)) (List.mem_of_getElem? (i := 31) rfl)
theorem dX12_passes_48 : decode cX12_passes 48 = .ok (.invokevirtual 134, 3) := dgX12_passes_0 (48, (.invokevirtual 134, 3)) (List.mem_of_getElem? (i := 32) rfl)
theorem dX12_passes_51 : decode cX12_passes 51 = .ok (.aload_n 0, 1) := dgX12_passes_0 (51, (.aload_n 0, 1)) (List.mem_of_getElem? (i := 33) rfl)
theorem dX12_passes_52 : decode cX12_passes 52 = .ok (.getfield 352, 3) := dgX12_passes_0 (52, (.getfield 352, 3)) (List.mem_of_getElem? (i := 34) rfl)
theorem dX12_passes_55 : decode cX12_passes 55 = .ok (.invokestatic 387, 3) := dgX12_passes_0 (55, (.invokestatic 387, 3)) (List.mem_of_getElem? (i := 35) rfl)
theorem dX12_passes_58 : decode cX12_passes 58 = .ok (.invokevirtual 390, 3) := dgX12_passes_0 (58, (.invokevirtual 390, 3)) (List.mem_of_getElem? (i := 36) rfl)
theorem dX12_passes_61 : decode cX12_passes 61 = .ok (.ireturn, 1) := dgX12_passes_0 (61, (.ireturn, 1)) (List.mem_of_getElem? (i := 37) rfl)
theorem dX12_passes_62 : decode cX12_passes 62 = .ok (.iinc 2 1, 3) := dgX12_passes_0 (62, (.iinc 2 1, 3)) (List.mem_of_getElem? (i := 38) rfl)
theorem dX12_passes_65 : decode cX12_passes 65 = .ok (.goto (-63), 3) := dgX12_passes_0 (65, (.goto (-63), 3)) (List.mem_of_getElem? (i := 39) rfl)
theorem dgX12_passes_1 : ∀ r ∈ ([(68, (.iconst 0, 1)), (69, (.istore_n 2, 1)), (70, (.iload_n 2, 1)), (71, (.aload_n 0, 1)), (72, (.getfield 13, 3)), (75, (.bipush 7, 2)), (77, (.iaload, 1)), (78, (.if_icmp .ge 75, 3)), (81, (.iload_n 1, 1)), (82, (.iload_n 2, 1)), (83, (.invokestatic 387, 3)), (86, (.ifCond .eq 61, 3)), (89, (.aload_n 0, 1)), (90, (.getfield 13, 3)), (93, (.sipush 270, 3)), (96, (.iconst 3, 1)), (97, (.iload_n 2, 1)), (98, (.imul, 1)), (99, (.iadd, 1)), (100, (.iaload, 1)), (101, (.aload_n 0, 1)), (102, (.getfield 349, 3)), (105, (.if_icmp .ne 42, 3)), (108, (.aload_n 0, 1)), (109, (.bipush 6, 2)), (111, (.iload_n 2, 1)), (112, (.iadd, 1)), (113, (.aload_n 0, 1)), (114, (.getfield 13, 3)), (117, (.sipush 270, 3)), (120, (.iconst 3, 1)), (121, (.iload_n 2, 1)), (122, (.imul, 1)), (123, (.iadd, 1)), (124, (.iconst 1, 1)), (125, (.iadd, 1)), (126, (.iaload, 1)), (127, (.aload_n 0, 1)), (128, (.getfield 13, 3)), (131, (.sipush 270, 3))] : List (Nat × (Instr × Nat))), decode cX12_passes r.1 = .ok r.2 := by decide +kernel
theorem dX12_passes_68 : decode cX12_passes 68 = .ok (.iconst 0, 1) := dgX12_passes_1 (68, (.iconst 0, 1)) (List.mem_of_getElem? (i := 0) rfl)
theorem dX12_passes_69 : decode cX12_passes 69 = .ok (.istore_n 2, 1) := dgX12_passes_1 (69, (.istore_n 2, 1)) (List.mem_of_getElem? (i := 1) rfl)
theorem dX12_passes_70 : decode cX12_passes 70 = .ok (.iload_n 2, 1) := dgX12_passes_1 (70, (.iload_n 2, 1)) (List.mem_of_getElem? (i := 2) rfl)
theorem dX12_passes_71 : decode cX12_passes 71 = .ok (.aload_n 0, 1) := dgX12_passes_1 (71, (.aload_n 0, 1)) (List.mem_of_getElem? (i := 3) rfl)
theorem dX12_passes_72 : decode cX12_passes 72 = .ok (.getfield 13, 3) := dgX12_passes_1 (72, (.getfield 13, 3)) (List.mem_of_getElem? (i := 4) rfl)
theorem dX12_passes_75 : decode cX12_passes 75 = .ok (.bipush 7, 2) := dgX12_passes_1 (75, (.bipush 7, 2)) (List.mem_of_getElem? (i := 5) rfl)
theorem dX12_passes_77 : decode cX12_passes 77 = .ok (.iaload, 1) := dgX12_passes_1 (77, (.iaload, 1)) (List.mem_of_getElem? (i := 6) rfl)
theorem dX12_passes_78 : decode cX12_passes 78 = .ok (.if_icmp .ge 75, 3) := dgX12_passes_1 (78, (.if_icmp .ge 75, 3)) (List.mem_of_getElem? (i := 7) rfl)
theorem dX12_passes_81 : decode cX12_passes 81 = .ok (.iload_n 1, 1) := dgX12_passes_1 (81, (.iload_n 1, 1)) (List.mem_of_getElem? (i := 8) rfl)
theorem dX12_passes_82 : decode cX12_passes 82 = .ok (.iload_n 2, 1) := dgX12_passes_1 (82, (.iload_n 2, 1)) (List.mem_of_getElem? (i := 9) rfl)
theorem dX12_passes_83 : decode cX12_passes 83 = .ok (.invokestatic 387, 3) := dgX12_passes_1 (83, (.invokestatic 387, 3)) (List.mem_of_getElem? (i := 10) rfl)
theorem dX12_passes_86 : decode cX12_passes 86 = .ok (.ifCond .eq 61, 3) := dgX12_passes_1 (86, (.ifCond .eq 61, 3)) (List.mem_of_getElem? (i := 11) rfl)
theorem dX12_passes_89 : decode cX12_passes 89 = .ok (.aload_n 0, 1) := dgX12_passes_1 (89, (.aload_n 0, 1)) (List.mem_of_getElem? (i := 12) rfl)
theorem dX12_passes_90 : decode cX12_passes 90 = .ok (.getfield 13, 3) := dgX12_passes_1 (90, (.getfield 13, 3)) (List.mem_of_getElem? (i := 13) rfl)
theorem dX12_passes_93 : decode cX12_passes 93 = .ok (.sipush 270, 3) := dgX12_passes_1 (93, (.sipush 270, 3)) (List.mem_of_getElem? (i := 14) rfl)
theorem dX12_passes_96 : decode cX12_passes 96 = .ok (.iconst 3, 1) := dgX12_passes_1 (96, (.iconst 3, 1)) (List.mem_of_getElem? (i := 15) rfl)
theorem dX12_passes_97 : decode cX12_passes 97 = .ok (.iload_n 2, 1) := dgX12_passes_1 (97, (.iload_n 2, 1)) (List.mem_of_getElem? (i := 16) rfl)
theorem dX12_passes_98 : decode cX12_passes 98 = .ok (.imul, 1) := dgX12_passes_1 (98, (.imul, 1)) (List.mem_of_getElem? (i := 17) rfl)
theorem dX12_passes_99 : decode cX12_passes 99 = .ok (.iadd, 1) := dgX12_passes_1 (99, (.iadd, 1)) (List.mem_of_getElem? (i := 18) rfl)
theorem dX12_passes_100 : decode cX12_passes 100 = .ok (.iaload, 1) := dgX12_passes_1 (100, (.iaload, 1)) (List.mem_of_getElem? (i := 19) rfl)
theorem dX12_passes_101 : decode cX12_passes 101 = .ok (.aload_n 0, 1) := dgX12_passes_1 (101, (.aload_n 0, 1)) (List.mem_of_getElem? (i := 20) rfl)
theorem dX12_passes_102 : decode cX12_passes 102 = .ok (.getfield 349, 3) := dgX12_passes_1 (102, (.getfield 349, 3)) (List.mem_of_getElem? (i := 21) rfl)
theorem dX12_passes_105 : decode cX12_passes 105 = .ok (.if_icmp .ne 42, 3) := dgX12_passes_1 (105, (.if_icmp .ne 42, 3)) (List.mem_of_getElem? (i := 22) rfl)
theorem dX12_passes_108 : decode cX12_passes 108 = .ok (.aload_n 0, 1) := dgX12_passes_1 (108, (.aload_n 0, 1)) (List.mem_of_getElem? (i := 23) rfl)
theorem dX12_passes_109 : decode cX12_passes 109 = .ok (.bipush 6, 2) := dgX12_passes_1 (109, (.bipush 6, 2)) (List.mem_of_getElem? (i := 24) rfl)
theorem dX12_passes_111 : decode cX12_passes 111 = .ok (.iload_n 2, 1) := dgX12_passes_1 (111, (.iload_n 2, 1)) (List.mem_of_getElem? (i := 25) rfl)
theorem dX12_passes_112 : decode cX12_passes 112 = .ok (.iadd, 1) := dgX12_passes_1 (112, (.iadd, 1)) (List.mem_of_getElem? (i := 26) rfl)
theorem dX12_passes_113 : decode cX12_passes 113 = .ok (.aload_n 0, 1) := dgX12_passes_1 (113, (.aload_n 0, 1)) (List.mem_of_getElem? (i := 27) rfl)
theorem dX12_passes_114 : decode cX12_passes 114 = .ok (.getfield 13, 3) := dgX12_passes_1 (114, (.getfield 13, 3)) (List.mem_of_getElem? (i := 28) rfl)
theorem dX12_passes_117 : decode cX12_passes 117 = .ok (.sipush 270, 3) := dgX12_passes_1 (117, (.sipush 270, 3)) (List.mem_of_getElem? (i := 29) rfl)
theorem dX12_passes_120 : decode cX12_passes 120 = .ok (.iconst 3, 1) := dgX12_passes_1 (120, (.iconst 3, 1)) (List.mem_of_getElem? (i := 30) rfl)
theorem dX12_passes_121 : decode cX12_passes 121 = .ok (.iload_n 2, 1) := dgX12_passes_1 (121, (.iload_n 2, 1)) (List.mem_of_getElem? (i := 31) rfl)
theorem dX12_passes_122 : decode cX12_passes 122 = .ok (.imul, 1) := dgX12_passes_1 (122, (.imul, 1)) (List.mem_of_getElem? (i := 32) rfl)
theorem dX12_passes_123 : decode cX12_passes 123 = .ok (.iadd, 1) := dgX12_passes_1 (123, (.iadd, 1)) (List.mem_of_getElem? (i := 33) rfl)
theorem dX12_passes_124 : decode cX12_passes 124 = .ok (.iconst 1, 1) := dgX12_passes_1 (124, (.iconst 1, 1)) (List.mem_of_getElem? (i := 34) rfl)
theorem dX12_passes_125 : decode cX12_passes 125 = .ok (.iadd, 1) := dgX12_passes_1 (125, (.iadd, 1)) (List.mem_of_getElem? (i := 35) rfl)
theorem dX12_passes_126 : decode cX12_passes 126 = .ok (.iaload, 1) := dgX12_passes_1 (126, (.iaload, 1)) (List.mem_of_getElem? (i := 36) rfl)
theorem dX12_passes_127 : decode cX12_passes 127 = .ok (.aload_n 0, 1) := dgX12_passes_1 (127, (.aload_n 0, 1)) (List.mem_of_getElem? (i := 37) rfl)
theorem dX12_passes_128 : decode cX12_passes 128 = .ok (.getfield 13, 3) := dgX12_passes_1 (128, (.getfield 13, 3)) (List.mem_of_getElem? (i := 38) rfl)
theorem dX12_passes_131 : decode cX12_passes 131 = .ok (.sipush 270, 3) := dgX12_passes_1 (131, (.sipush 270, 3)) (List.mem_of_getElem? (i := 39) rfl)
theorem dgX12_passes_2 : ∀ r ∈ ([(134, (.iconst 3, 1)), (135, (.iload_n 2, 1)), (136, (.imul, 1)), (137, (.iadd, 1)), (138, (.iconst 2, 1)), (139, (.iadd, 1)), (140, (.iaload, 1)), (141, (.iconst 0, 1)), (142, (.iconst 0, 1)), (143, (.invokevirtual 390, 3)), (146, (.ireturn, 1)), (147, (.iinc 2 1, 3)), (150, (.goto (-80), 3)), (153, (.iconst 1, 1)), (154, (.ireturn, 1))] : List (Nat × (Instr × Nat))), decode cX12_passes r.1 = .ok r.2 := by decide +kernel
theorem dX12_passes_134 : decode cX12_passes 134 = .ok (.iconst 3, 1) := dgX12_passes_2 (134, (.iconst 3, 1)) (List.mem_of_getElem? (i := 0) rfl)
theorem dX12_passes_135 : decode cX12_passes 135 = .ok (.iload_n 2, 1) := dgX12_passes_2 (135, (.iload_n 2, 1)) (List.mem_of_getElem? (i := 1) rfl)
theorem dX12_passes_136 : decode cX12_passes 136 = .ok (.imul, 1) := dgX12_passes_2 (136, (.imul, 1)) (List.mem_of_getElem? (i := 2) rfl)
theorem dX12_passes_137 : decode cX12_passes 137 = .ok (.iadd, 1) := dgX12_passes_2 (137, (.iadd, 1)) (List.mem_of_getElem? (i := 3) rfl)
theorem dX12_passes_138 : decode cX12_passes 138 = .ok (.iconst 2, 1) := dgX12_passes_2 (138, (.iconst 2, 1)) (List.mem_of_getElem? (i := 4) rfl)
theorem dX12_passes_139 : decode cX12_passes 139 = .ok (.iadd, 1) := dgX12_passes_2 (139, (.iadd, 1)) (List.mem_of_getElem? (i := 5) rfl)
theorem dX12_passes_140 : decode cX12_passes 140 = .ok (.iaload, 1) := dgX12_passes_2 (140, (.iaload, 1)) (List.mem_of_getElem? (i := 6) rfl)
theorem dX12_passes_141 : decode cX12_passes 141 = .ok (.iconst 0, 1) := dgX12_passes_2 (141, (.iconst 0, 1)) (List.mem_of_getElem? (i := 7) rfl)
theorem dX12_passes_142 : decode cX12_passes 142 = .ok (.iconst 0, 1) := dgX12_passes_2 (142, (.iconst 0, 1)) (List.mem_of_getElem? (i := 8) rfl)
theorem dX12_passes_143 : decode cX12_passes 143 = .ok (.invokevirtual 390, 3) := dgX12_passes_2 (143, (.invokevirtual 390, 3)) (List.mem_of_getElem? (i := 9) rfl)
theorem dX12_passes_146 : decode cX12_passes 146 = .ok (.ireturn, 1) := dgX12_passes_2 (146, (.ireturn, 1)) (List.mem_of_getElem? (i := 10) rfl)
theorem dX12_passes_147 : decode cX12_passes 147 = .ok (.iinc 2 1, 3) := dgX12_passes_2 (147, (.iinc 2 1, 3)) (List.mem_of_getElem? (i := 11) rfl)
theorem dX12_passes_150 : decode cX12_passes 150 = .ok (.goto (-80), 3) := dgX12_passes_2 (150, (.goto (-80), 3)) (List.mem_of_getElem? (i := 12) rfl)
theorem dX12_passes_153 : decode cX12_passes 153 = .ok (.iconst 1, 1) := dgX12_passes_2 (153, (.iconst 1, 1)) (List.mem_of_getElem? (i := 13) rfl)
theorem dX12_passes_154 : decode cX12_passes 154 = .ok (.ireturn, 1) := dgX12_passes_2 (154, (.ireturn, 1)) (List.mem_of_getElem? (i := 14) rfl)
theorem ml_X12_387 : Cond.methodLink RX12 387 yX12_is ∈ tblG := tg 1644 (by decide +kernel) (by decide +kernel)
theorem st_X12_is : Cond.static yX12_is ∈ tblG := tg 1645 (by decide +kernel) (by decide +kernel)
theorem cd_X12_is : Cond.code yX12_is cX12_is 2 (some .boolean) ∈ tblG := tg 1646 (by decide +kernel) (by decide +kernel)
theorem gW_X12_is : GoodIn tblG (wsG yX12_is cX12_is 2 (some .boolean)) := tgi cd_X12_is
theorem gS_X12_387 : GoodIn tblG (va_wsS RX12 387 yX12_is (wsG yX12_is cX12_is 2 (some .boolean))) := tgS ml_X12_387 st_X12_is ini_X12 gW_X12_is
theorem hs_X12_is : yX12_is.cls ≠ "java/lang/invoke/MethodHandle" ∧ yX12_is.cls ≠ "java/lang/invoke/VarHandle" ∧ (parseMethodDescriptor yX12_is.desc).map (fun d => d.parameters.length) = some 2 := by decide +kernel
theorem ml_X12_390 : Cond.methodLink RX12 390 yX12_turns ∈ tblG := tg 1647 (by decide +kernel) (by decide +kernel)
theorem im_X12_turns : Cond.instanceMethod yX12_turns ∈ tblG := tg 1649 (by decide +kernel) (by decide +kernel)
theorem se_X12_turns : Cond.selects RX12 yX12_turns yX12_turns ∈ tblG := tg 69 (by decide +kernel) (by decide +kernel)
theorem cd_X12_turns : Cond.code yX12_turns cX12_turns 8 (some .boolean) ∈ tblG := tg 1650 (by decide +kernel) (by decide +kernel)
theorem gW_X12_turns : GoodIn tblG (wsG yX12_turns cX12_turns 8 (some .boolean)) := tgi cd_X12_turns
theorem gV_X12_390 : GoodIn tblG (wsV RX12 390 RX12 yX12_turns (wsG yX12_turns cX12_turns 8 (some .boolean))) := tgV ml_X12_390 im_X12_turns se_X12_turns ini_X12 gW_X12_turns
theorem hv_X12_turns : yX12_turns.cls = RX12 ∧ yX12_turns.cls ≠ "java/lang/invoke/MethodHandle" ∧ yX12_turns.cls ≠ "java/lang/invoke/VarHandle" ∧ (parseMethodDescriptor yX12_turns.desc).map (fun d => d.parameters.length) = some 5 := by decide +kernel
set_option maxHeartbeats 4000000 in
set_option maxRecDepth 100000 in
theorem n_passes (l : Launch) (G : g5_G) (b_o b_ro b_se b_re b_rf b_im b_ke b_tp b_nl b_op b_ar b_pi b_pa b_ws b_hw b_pt b_ip b_ah b_be b_me b_tr b_ld b_wn : Nat) (sz : Nat) (u_th : Int32) (u_sa : Int32) (u_fd : Int32) (u_td : Int32) (u_fr : Int32) (u_to : Int32) (u_so : Int32) (u_fa : Int32) (u_bd : Int32) (u_nc : Int32) (u_co : Int32) (u_le : Int32) (u_pd : Int32) (u_od : Int32) (u_la : Int32) (u_bk : Int32) (u_ce : Int32) (u_ho : Int32) (u_wy : Int32) (u_bt : Int32) (u_ps : Int32) (u_tg : Int32) (u_sn : Int32) (u_ic : Int32) (u_wd : Int32) (u_id : Int32) (p_1 : Int32) (u_wo : Int64) (u_va : Int64) (u_su : Int64) (u_st : Int64) (v_ro : Nat → Int32) (v_se : Nat → Int64) (v_re : Nat → Int64) (h_u_td : 0 ≤ u_td.toInt ∧ u_td.toInt ≤ 400) (h_u_fr : 0 ≤ u_fr.toInt ∧ u_fr.toInt ≤ 400) (h_u_to : 0 ≤ u_to.toInt ∧ u_to.toInt ≤ 400) (h_u_bd : 0 ≤ u_bd.toInt ∧ u_bd.toInt ≤ 1) (h_u_nc : 0 ≤ u_nc.toInt ∧ u_nc.toInt ≤ 12) (h_u_co : 0 ≤ u_co.toInt ∧ u_co.toInt ≤ 400) (h_u_pd : 0 ≤ u_pd.toInt ∧ u_pd.toInt ≤ 400) (h_u_la : 0 ≤ u_la.toInt ∧ u_la.toInt ≤ 4840) (h_u_bk : 0 ≤ u_bk.toInt ∧ u_bk.toInt ≤ 1) (h_u_ce : 0 ≤ u_ce.toInt ∧ u_ce.toInt ≤ 63) (h_u_ho : 0 ≤ u_ho.toInt ∧ u_ho.toInt ≤ 23) (h_u_wy : 0 ≤ u_wy.toInt ∧ u_wy.toInt ≤ 3) (h_u_bt : 0 ≤ u_bt.toInt ∧ u_bt.toInt ≤ 1000000) (h_u_ps : 0 ≤ u_ps.toInt ∧ u_ps.toInt ≤ 200) (h_u_ic : 0 ≤ u_ic.toInt ∧ u_ic.toInt ≤ 1) (h_u_id : 0 ≤ u_id.toInt ∧ u_id.toInt ≤ 1) (r_ro : MI v_ro) : Met l yX12_passes (wsG yX12_passes cX12_passes 3 (some .boolean)) ({ frames := 5, cells := 0, slots := 0, locals := 128 }) (va_Pc [.ref b_o, .int p_1] (g5_P G [(b_o, (oc12 u_th u_sa b_rf b_ro b_im b_ke u_fd b_tp u_td u_fr u_to u_so u_wo u_fa u_bd u_nc b_nl u_co b_op b_ar u_le b_pi b_pa u_pd u_od b_ws b_hw u_la b_se b_re u_bk u_va u_su u_ce u_ho u_wy u_bt u_ps b_pt u_tg u_sn b_ip u_ic b_ah b_be b_me u_wd b_tr b_ld u_st b_wn u_id)), (b_ro, (arI G 5740 v_ro)), (b_se, (arJ G 13 v_se)), (b_re, (arJ G 400 v_re))] sz)) (va_Qi (fun (r : Int32) (u : va_W) => (∃ (o_r : Int32) (o_la : Int32) (o_bk : Int32) (o_va : Int64) (o_su : Int64) (o_ho : Int32) (o_wy : Int32) (o_bt : Int32) (o_tg : Int32) (o_se : Nat → Int64) (o_re : Nat → Int64), (0 ≤ o_r.toInt ∧ o_r.toInt ≤ 1) ∧ (0 ≤ o_la.toInt ∧ o_la.toInt ≤ 4840) ∧ (0 ≤ o_bk.toInt ∧ o_bk.toInt ≤ 1) ∧ (0 ≤ o_ho.toInt ∧ o_ho.toInt ≤ 23) ∧ (0 ≤ o_wy.toInt ∧ o_wy.toInt ≤ 3) ∧ (0 ≤ o_bt.toInt ∧ o_bt.toInt ≤ 1000000) ∧ (r = o_r) ∧ (u = [(b_o, (oc12 u_th u_sa b_rf b_ro b_im b_ke u_fd b_tp u_td u_fr u_to u_so u_wo u_fa u_bd u_nc b_nl u_co b_op b_ar u_le b_pi b_pa u_pd u_od b_ws b_hw o_la b_se b_re o_bk o_va o_su u_ce o_ho o_wy o_bt u_ps b_pt o_tg u_sn b_ip u_ic b_ah b_be b_me u_wd b_tr b_ld u_st b_wn u_id)), (b_ro, (arI G 5740 v_ro)), (b_se, (arJ G 13 o_se)), (b_re, (arJ G 400 o_re))]))) (g5_B G (va_A [(b_o, (oc12 u_th u_sa b_rf b_ro b_im b_ke u_fd b_tp u_td u_fr u_to u_so u_wo u_fa u_bd u_nc b_nl u_co b_op b_ar u_le b_pi b_pa u_pd u_od b_ws b_hw u_la b_se b_re u_bk u_va u_su u_ce u_ho u_wy u_bt u_ps b_pt u_tg u_sn b_ip u_ic b_ah b_be b_me u_wd b_tr b_ld u_st b_wn u_id)), (b_ro, (arI G 5740 v_ro)), (b_se, (arJ G 13 v_se)), (b_re, (arJ G 400 v_re))] sz)) (va_A [(b_o, (oc12 u_th u_sa b_rf b_ro b_im b_ke u_fd b_tp u_td u_fr u_to u_so u_wo u_fa u_bd u_nc b_nl u_co b_op b_ar u_le b_pi b_pa u_pd u_od b_ws b_hw u_la b_se b_re u_bk u_va u_su u_ce u_ho u_wy u_bt u_ps b_pt u_tg u_sn b_ip u_ic b_ah b_be b_me u_wd b_tr b_ld u_st b_wn u_id)), (b_ro, (arI G 5740 v_ro)), (b_se, (arJ G 13 v_se)), (b_re, (arJ G 400 v_re))] sz)) 0 0 (va_A [(b_o, (oc12 u_th u_sa b_rf b_ro b_im b_ke u_fd b_tp u_td u_fr u_to u_so u_wo u_fa u_bd u_nc b_nl u_co b_op b_ar u_le b_pi b_pa u_pd u_od b_ws b_hw u_la b_se b_re u_bk u_va u_su u_ce u_ho u_wy u_bt u_ps b_pt u_tg u_sn b_ip u_ic b_ah b_be b_me u_wd b_tr b_ld u_st b_wn u_id)), (b_ro, (arI G 5740 v_ro)), (b_se, (arJ G 13 v_se)), (b_re, (arJ G 400 v_re))] sz) := by
  refine Met.ofW (cc := cX12_passes) (maxL := 3) (ret := (some .boolean)) (by decide +kernel) rfl ?_
  intro p e s m args below meth c s₁ B hml hv
  obtain ⟨rfl, hsz, hP, hK, hD0, hN, hT⟩ := hv
  have hx := B.exec
  have hb := B.bytes
  have hr := B.returns
  have hts : ∀ w ∈ tblG, w.before _ s = true := fun w h => atoms_spec (ws := (wsG yX12_passes cX12_passes 3 (some .boolean))) B.pre w (List.mem_cons_of_mem _ h)
  have hown : s.vm.findClass RX12 = some m.cls := findClass_of_methodNamed B.named
  have hlocks := B.notSynchronized
  subst hsz
  have hD := hD0.self (sz := s.heap.size)
  generalize hAe : va_A [(b_o, (oc12 u_th u_sa b_rf b_ro b_im b_ke u_fd b_tp u_td u_fr u_to u_so u_wo u_fa u_bd u_nc b_nl u_co b_op b_ar u_le b_pi b_pa u_pd u_od b_ws b_hw u_la b_se b_re u_bk u_va u_su u_ce u_ho u_wy u_bt u_ps b_pt u_tg u_sn b_ip u_ic b_ah b_be b_me u_wd b_tr b_ld u_st b_wn u_id)), (b_ro, (arI G 5740 v_ro)), (b_se, (arJ G 13 v_se)), (b_re, (arJ G 400 v_re))] s.heap.size = A at hD hT ⊢
  have hA : ∀ q : Nat, s.heap.size ≤ q → A q := fun q h => by rw [← hAe]; exact Or.inr h
  have hS : va_S A s.heap s.heap [] := va_S.rf
  replace hP : va_P G.1 vwCl [(b_o, (oc12 u_th u_sa b_rf b_ro b_im b_ke u_fd b_tp u_td u_fr u_to u_so u_wo u_fa u_bd u_nc b_nl u_co b_op b_ar u_le b_pi b_pa u_pd u_od b_ws b_hw u_la b_se b_re u_bk u_va u_su u_ce u_ho u_wy u_bt u_ps b_pt u_tg u_sn b_ip u_ic b_ah b_be b_me u_wd b_tr b_ld u_st b_wn u_id)), (b_ro, (arI G 5740 v_ro)), (b_se, (arJ G 13 v_se)), (b_re, (arJ G 400 v_re))] s.heap := hP
  have hl := lv_entry ([.ref b_o, .int p_1]) (n := 3) (Nat.le_of_ble_eq_true rfl)
  rw [lg_entry_eq]
  generalize (lg_sl ([.ref b_o, .int p_1]) ++ List.replicate (3 - (lg_sl ([.ref b_o, .int p_1])).length) Slot.unset).toArray = ls at hl ⊢
  replace hl : lv_has ls 3 [(0, .ref b_o), (1, .int p_1)] := hl
  refine lv_iconst (v := 0) hx hb dX12_passes_0 (by decide +kernel) ?_
  refine lv_istore_n (lv' := [(2, .int 0), (0, .ref b_o), (1, .int p_1)]) hx hb dX12_passes_1 rfl hl (by decide +kernel) rfl ?_
  clear hl
  intro ls hl
  refine g5_loop (α := (Int32) × (Int32) × (Int32) × (Int64) × (Int64) × (Int32) × (Int32) × (Int32) × (Int32) × (Nat → Int64) × (Nat → Int64)) (fun (q : (Int32) × (Int32) × (Int32) × (Int64) × (Int64) × (Int32) × (Int32) × (Int32) × (Int32) × (Nat → Int64) × (Nat → Int64)) (ls : Array Slot) (H : Heap) (locs : List Loc) => match q with | (k2_2, k2_la, k2_bk, k2_va, k2_su, k2_ho, k2_wy, k2_bt, k2_tg, k2_se, k2_re) => lv_has ls 3 [(2, .int k2_2), (0, .ref b_o), (1, .int p_1)] ∧ va_P G.1 vwCl [(b_o, (oc12 u_th u_sa b_rf b_ro b_im b_ke u_fd b_tp u_td u_fr u_to u_so u_wo u_fa u_bd u_nc b_nl u_co b_op b_ar u_le b_pi b_pa u_pd u_od b_ws b_hw k2_la b_se b_re k2_bk k2_va k2_su u_ce k2_ho k2_wy k2_bt u_ps b_pt k2_tg u_sn b_ip u_ic b_ah b_be b_me u_wd b_tr b_ld u_st b_wn u_id)), (b_ro, (arI G 5740 v_ro)), (b_se, (arJ G 13 k2_se)), (b_re, (arJ G 400 k2_re))] H ∧ va_D A [(b_o, (oc12 u_th u_sa b_rf b_ro b_im b_ke u_fd b_tp u_td u_fr u_to u_so u_wo u_fa u_bd u_nc b_nl u_co b_op b_ar u_le b_pi b_pa u_pd u_od b_ws b_hw k2_la b_se b_re k2_bk k2_va k2_su u_ce k2_ho k2_wy k2_bt u_ps b_pt k2_tg u_sn b_ip u_ic b_ah b_be b_me u_wd b_tr b_ld u_st b_wn u_id)), (b_ro, (arI G 5740 v_ro)), (b_se, (arJ G 13 k2_se)), (b_re, (arJ G 400 k2_re))] ∧ va_S A s.heap H locs ∧ (0 ≤ k2_2.toInt ∧ k2_2.toInt ≤ 6) ∧ (0 ≤ k2_la.toInt ∧ k2_la.toInt ≤ 4840) ∧ (0 ≤ k2_bk.toInt ∧ k2_bk.toInt ≤ 1) ∧ (0 ≤ k2_ho.toInt ∧ k2_ho.toInt ≤ 23) ∧ (0 ≤ k2_wy.toInt ∧ k2_wy.toInt ≤ 3) ∧ (0 ≤ k2_bt.toInt ∧ k2_bt.toInt ≤ 1000000)) (fun (q : (Int32) × (Int32) × (Int32) × (Int64) × (Int64) × (Int32) × (Int32) × (Int32) × (Int32) × (Nat → Int64) × (Nat → Int64)) => match q with | (k2_2, k2_la, k2_bk, k2_va, k2_su, k2_ho, k2_wy, k2_bt, k2_tg, k2_se, k2_re) => Int.toNat (6 - k2_2.toInt)) (0, u_la, u_bk, u_va, u_su, u_ho, u_wy, u_bt, u_tg, v_se, v_re) ⟨lv_sub hl [0, 1, 2] rfl, hP, hD, hS, ⟨by decide, by decide⟩, h_u_la, h_u_bk, h_u_ho, h_u_wy, h_u_bt⟩ ?_
  rintro ⟨k2_2, k2_la, k2_bk, k2_va, k2_su, k2_ho, k2_wy, k2_bt, k2_tg, k2_se, k2_re⟩ ls H locs ⟨hl, hP, hD, hS, (i_1 : 0 ≤ k2_2.toInt ∧ k2_2.toInt ≤ 6), (i_2 : 0 ≤ k2_la.toInt ∧ k2_la.toInt ≤ 4840), (i_3 : 0 ≤ k2_bk.toInt ∧ k2_bk.toInt ≤ 1), (i_4 : 0 ≤ k2_ho.toInt ∧ k2_ho.toInt ≤ 23), (i_5 : 0 ≤ k2_wy.toInt ∧ k2_wy.toInt ≤ 3), (i_6 : 0 ≤ k2_bt.toInt ∧ k2_bt.toInt ≤ 1000000)⟩ ih_2_7
  replace hl : lv_has ls 3 [(2, .int k2_2), (0, .ref b_o), (1, .int p_1)] := hl
  refine g5_rs [(b_o, (oc12 u_th u_sa b_rf b_ro b_im b_ke u_fd b_tp u_td u_fr u_to u_so u_wo u_fa u_bd u_nc b_nl u_co b_op b_ar u_le b_pi b_pa u_pd u_od b_ws b_hw k2_la b_se b_re k2_bk k2_va k2_su u_ce k2_ho k2_wy k2_bt u_ps b_pt k2_tg u_sn b_ip u_ic b_ah b_be b_me u_wd b_tr b_ld u_st b_wn u_id)), (b_ro, (arI G 5740 v_ro)), (b_se, (arJ G 13 k2_se)), (b_re, (arJ G 400 k2_re))] hP hD ?_
  clear hP hD
  intro hP hD
  refine lv_iload_n hx hb dX12_passes_2 rfl (lv_at hl 0 rfl) ?_
  refine lv_aload_n hx hb dX12_passes_3 rfl (lv_at hl 1 rfl) ?_
  refine va_get (D := G.1) (ci := 12) (v := .ref b_ro) (C := RX12) (T := TX12) (N := 52) hx hb hts inG_X12 hown hK hP 0 rfl rfl 3 (by decide +kernel) (hts _ fl_X12_13) (fun _ h9 => h9) rfl dX12_passes_4 ?_
  refine lv_iconst (v := 0) hx hb dX12_passes_7 (by decide +kernel) ?_
  refine va_iald hx hb hK hP 1 0 rfl rfl (i := 0) (by unfold vp_in; decide) dX12_passes_8 ?_
  refine g5_ti (v := (v_ro 0)) rfl ?_
  have hr_8 : 0 ≤ (v_ro 0).toInt ∧ (v_ro 0).toInt ≤ 6 := mi_0 r_ro
  refine lv_icmp_ge (tgt := 68) hx hb dX12_passes_9 (by decide +kernel) (fun c_9 => ?_) (fun c_9 => ?_)
  ·
    have i_9 : k2_2.toInt ≥ (v_ro 0).toInt := g5_ge (a := k2_2.toInt) (b := (v_ro 0).toInt) rfl rfl c_9
    refine lv_iconst (v := 0) hx hb dX12_passes_68 (by decide +kernel) ?_
    refine lv_istore_n (lv' := [(2, .int 0), (0, .ref b_o), (1, .int p_1)]) hx hb dX12_passes_69 rfl hl (by decide +kernel) rfl ?_
    clear hl
    intro ls hl
    refine g5_loop (α := (Int32) × (Int32) × (Int32) × (Int64) × (Int64) × (Int32) × (Int32) × (Int32) × (Int32) × (Nat → Int64) × (Nat → Int64)) (fun (q : (Int32) × (Int32) × (Int32) × (Int64) × (Int64) × (Int32) × (Int32) × (Int32) × (Int32) × (Nat → Int64) × (Nat → Int64)) (ls : Array Slot) (H : Heap) (locs : List Loc) => match q with | (k70_2, k70_la, k70_bk, k70_va, k70_su, k70_ho, k70_wy, k70_bt, k70_tg, k70_se, k70_re) => lv_has ls 3 [(2, .int k70_2), (0, .ref b_o), (1, .int p_1)] ∧ va_P G.1 vwCl [(b_o, (oc12 u_th u_sa b_rf b_ro b_im b_ke u_fd b_tp u_td u_fr u_to u_so u_wo u_fa u_bd u_nc b_nl u_co b_op b_ar u_le b_pi b_pa u_pd u_od b_ws b_hw k70_la b_se b_re k70_bk k70_va k70_su u_ce k70_ho k70_wy k70_bt u_ps b_pt k70_tg u_sn b_ip u_ic b_ah b_be b_me u_wd b_tr b_ld u_st b_wn u_id)), (b_ro, (arI G 5740 v_ro)), (b_se, (arJ G 13 k70_se)), (b_re, (arJ G 400 k70_re))] H ∧ va_D A [(b_o, (oc12 u_th u_sa b_rf b_ro b_im b_ke u_fd b_tp u_td u_fr u_to u_so u_wo u_fa u_bd u_nc b_nl u_co b_op b_ar u_le b_pi b_pa u_pd u_od b_ws b_hw k70_la b_se b_re k70_bk k70_va k70_su u_ce k70_ho k70_wy k70_bt u_ps b_pt k70_tg u_sn b_ip u_ic b_ah b_be b_me u_wd b_tr b_ld u_st b_wn u_id)), (b_ro, (arI G 5740 v_ro)), (b_se, (arJ G 13 k70_se)), (b_re, (arJ G 400 k70_re))] ∧ va_S A s.heap H locs ∧ (0 ≤ k70_2.toInt ∧ k70_2.toInt ≤ 8) ∧ (0 ≤ k70_la.toInt ∧ k70_la.toInt ≤ 4840) ∧ (0 ≤ k70_bk.toInt ∧ k70_bk.toInt ≤ 1) ∧ (0 ≤ k70_ho.toInt ∧ k70_ho.toInt ≤ 23) ∧ (0 ≤ k70_wy.toInt ∧ k70_wy.toInt ≤ 3) ∧ (0 ≤ k70_bt.toInt ∧ k70_bt.toInt ≤ 1000000)) (fun (q : (Int32) × (Int32) × (Int32) × (Int64) × (Int64) × (Int32) × (Int32) × (Int32) × (Int32) × (Nat → Int64) × (Nat → Int64)) => match q with | (k70_2, k70_la, k70_bk, k70_va, k70_su, k70_ho, k70_wy, k70_bt, k70_tg, k70_se, k70_re) => Int.toNat (8 - k70_2.toInt)) (0, k2_la, k2_bk, k2_va, k2_su, k2_ho, k2_wy, k2_bt, k2_tg, k2_se, k2_re) ⟨lv_sub hl [0, 1, 2] rfl, hP, hD, hS, ⟨by decide, by decide⟩, i_2, i_3, i_4, i_5, i_6⟩ ?_
    rintro ⟨k70_2, k70_la, k70_bk, k70_va, k70_su, k70_ho, k70_wy, k70_bt, k70_tg, k70_se, k70_re⟩ ls H locs ⟨hl, hP, hD, hS, (i_10 : 0 ≤ k70_2.toInt ∧ k70_2.toInt ≤ 8), (i_11 : 0 ≤ k70_la.toInt ∧ k70_la.toInt ≤ 4840), (i_12 : 0 ≤ k70_bk.toInt ∧ k70_bk.toInt ≤ 1), (i_13 : 0 ≤ k70_ho.toInt ∧ k70_ho.toInt ≤ 23), (i_14 : 0 ≤ k70_wy.toInt ∧ k70_wy.toInt ≤ 3), (i_15 : 0 ≤ k70_bt.toInt ∧ k70_bt.toInt ≤ 1000000)⟩ ih_70_16
    replace hl : lv_has ls 3 [(2, .int k70_2), (0, .ref b_o), (1, .int p_1)] := hl
    refine g5_rs [(b_o, (oc12 u_th u_sa b_rf b_ro b_im b_ke u_fd b_tp u_td u_fr u_to u_so u_wo u_fa u_bd u_nc b_nl u_co b_op b_ar u_le b_pi b_pa u_pd u_od b_ws b_hw k70_la b_se b_re k70_bk k70_va k70_su u_ce k70_ho k70_wy k70_bt u_ps b_pt k70_tg u_sn b_ip u_ic b_ah b_be b_me u_wd b_tr b_ld u_st b_wn u_id)), (b_ro, (arI G 5740 v_ro)), (b_se, (arJ G 13 k70_se)), (b_re, (arJ G 400 k70_re))] hP hD ?_
    clear hP hD
    intro hP hD
    refine lv_iload_n hx hb dX12_passes_70 rfl (lv_at hl 0 rfl) ?_
    refine lv_aload_n hx hb dX12_passes_71 rfl (lv_at hl 1 rfl) ?_
    refine va_get (D := G.1) (ci := 12) (v := .ref b_ro) (C := RX12) (T := TX12) (N := 52) hx hb hts inG_X12 hown hK hP 0 rfl rfl 3 (by decide +kernel) (hts _ fl_X12_13) (fun _ h9 => h9) rfl dX12_passes_72 ?_
    refine lv_bipush (v := 7) hx hb dX12_passes_75 (by decide +kernel) ?_
    refine va_iald hx hb hK hP 1 0 rfl rfl (i := 7) (by unfold vp_in; decide) dX12_passes_77 ?_
    refine g5_ti (v := (v_ro 7)) rfl ?_
    have hr_17 : 0 ≤ (v_ro 7).toInt ∧ (v_ro 7).toInt ≤ 8 := mi_7 r_ro
    refine lv_icmp_ge (tgt := 153) hx hb dX12_passes_78 (by decide +kernel) (fun c_18 => ?_) (fun c_18 => ?_)
    ·
      have i_18 : k70_2.toInt ≥ (v_ro 7).toInt := g5_ge (a := k70_2.toInt) (b := (v_ro 7).toInt) rfl rfl c_18
      refine lv_iconst (v := 1) hx hb dX12_passes_153 (by decide +kernel) ?_
      exact W.zret (v := 1) hx hb hr rfl (fun t ht hW => ⟨⟨1, [(b_o, (oc12 u_th u_sa b_rf b_ro b_im b_ke u_fd b_tp u_td u_fr u_to u_so u_wo u_fa u_bd u_nc b_nl u_co b_op b_ar u_le b_pi b_pa u_pd u_od b_ws b_hw k70_la b_se b_re k70_bk k70_va k70_su u_ce k70_ho k70_wy k70_bt u_ps b_pt k70_tg u_sn b_ip u_ic b_ah b_be b_me u_wd b_tr b_ld u_st b_wn u_id)), (b_ro, (arI G 5740 v_ro)), (b_se, (arJ G 13 k70_se)), (b_re, (arJ G 400 k70_re))], rfl, ⟨1, k70_la, k70_bk, k70_va, k70_su, k70_ho, k70_wy, k70_bt, k70_tg, k70_se, k70_re, ⟨by have zc_o_r : (1 : Int32).toInt = 1 := (by decide +kernel); omega, by have zc_o_r : (1 : Int32).toInt = 1 := (by decide +kernel); omega⟩, i_11, i_12, i_13, i_14, i_15, rfl, rfl⟩, by rw [ht]; exact hP.sub [0, 1, 2, 3] rfl, hD.sub [0, 1, 2, 3] (by decide +kernel) rfl⟩, hS.F ht⟩) hS.2.2 dX12_passes_154
    ·
      have i_18 : k70_2.toInt < (v_ro 7).toInt := g5_geN (a := k70_2.toInt) (b := (v_ro 7).toInt) rfl rfl c_18
      refine lv_iload_n hx hb dX12_passes_81 rfl (lv_at hl 2 rfl) ?_
      refine lv_iload_n hx hb dX12_passes_82 rfl (lv_at hl 0 rfl) ?_
      obtain ⟨hPc, hDc, hFc⟩ := g5_sub3 (wc := []) hP hD hS hA [] (by decide +kernel) rfl
      refine va_calli (va_runS (As := [.int p_1, .int k70_2]) (rest := []) ⟨hx, hb, hml, hown, hts⟩ (n_is l G H.size p_1 k70_2) (va_cwS 2 hts gS_X12_387 rfl rfl rfl hs_X12_is ⟨Nat.le_of_ble_eq_true rfl, Nat.le_of_ble_eq_true rfl⟩) (g5_preS hPc hK hDc hN hT hS hFc) rfl rfl hl.1 rfl (lv_room (Nat.le_of_ble_eq_true rfl)) dX12_passes_83 ⟨Nat.le_of_ble_eq_true rfl, Nat.le_of_ble_eq_true rfl⟩) hS (fun q _ h => hFc q h) hFc (fun r u t H locs ht hvm hw hB hz1 hk1 hS => ?_)
      obtain ⟨hP1, hD1⟩ := hB
      have hP1 := g5_ht ht hP1
      obtain ⟨z20, (i_19 : 0 ≤ z20.toInt ∧ z20.toInt ≤ 1), y21, rfl⟩ := hw
      have hJ9 := g5_same hP hk1
      clear hP hPc hDc hFc ht hvm hz1 hk1 hP1 hD1
      have hP := hJ9
      clear hJ9
      refine g5_ti (v := z20) y21 ?_
      refine lv_if_eq (tgt := 147) hx hb dX12_passes_86 (by decide +kernel) (fun c_22 => ?_) (fun c_22 => ?_)
      ·
        have i_22 : z20.toInt = 0 := g5_eq (a := z20.toInt) (b := 0) rfl (by decide +kernel) c_22
        refine lv_iinc (v := (k70_2 + 1)) (lv' := [(2, .int (k70_2 + 1)), (0, .ref b_o), (1, .int p_1)]) hx hb dX12_passes_147 hl (k := 0) rfl rfl (by decide +kernel) rfl ?_
        clear hl
        intro ls hl
        have t_23 : (k70_2 + 1).toInt = k70_2.toInt + 1 := g5_iadd (a := k70_2.toInt) (b := 1) rfl (by decide +kernel) (by omega) (by omega)
        refine lv_goto (tgt := 70) hx hb dX12_passes_150 (by decide +kernel) ?_
        exact ih_70_16 ((k70_2 + 1), k70_la, k70_bk, k70_va, k70_su, k70_ho, k70_wy, k70_bt, k70_tg, k70_se, k70_re) ls H locs (show Int.toNat (8 - (k70_2 + 1).toInt) < Int.toNat (8 - k70_2.toInt) from g_up (show k70_2.toInt < (k70_2 + 1).toInt by omega) (show k70_2.toInt < 8 by omega)) ⟨lv_sub hl [0, 1, 2] rfl, hP, hD, hS, ⟨by omega, by omega⟩, i_11, i_12, i_13, i_14, i_15⟩
      ·
        have n_22 : gNe (z20.toInt) (0) := g5_eqN (a := z20.toInt) (b := 0) rfl (by decide +kernel) c_22
        have i_22 : z20.toInt ≥ 1 := by have z := g5_eqN (a := z20.toInt) (b := 0) (by rfl) (by decide +kernel) c_22; omega
        refine lv_aload_n hx hb dX12_passes_89 rfl (lv_at hl 1 rfl) ?_
        refine va_get (D := G.1) (ci := 12) (v := .ref b_ro) (C := RX12) (T := TX12) (N := 52) hx hb hts inG_X12 hown hK hP 0 rfl rfl 3 (by decide +kernel) (hts _ fl_X12_13) (fun _ h9 => h9) rfl dX12_passes_90 ?_
        refine lv_sipush (v := 270) hx hb dX12_passes_93 (by decide +kernel) ?_
        refine lv_iconst (v := 3) hx hb dX12_passes_96 (by decide +kernel) ?_
        refine lv_iload_n hx hb dX12_passes_97 rfl (lv_at hl 0 rfl) ?_
        refine lv_imul hx hb dX12_passes_98 ?_
        have t_24 : (3 * k70_2).toInt = 3 * k70_2.toInt := g5_imul (a := 3) (b := k70_2.toInt) (by decide +kernel) (by rfl) (by omega) (by omega)
        refine lv_iadd hx hb dX12_passes_99 ?_
        have t_25 : (270 + (3 * k70_2)).toInt = 270 + (3 * k70_2).toInt := g5_iadd (a := 270) (b := (3 * k70_2).toInt) (by decide +kernel) (by rfl) (by omega) (by omega)
        refine va_iald hx hb hK hP 1 0 rfl rfl (i := (270 + (3 * k70_2))) (vp_in_iff.mpr ⟨by omega, by omega⟩) dX12_passes_100 ?_
        refine lv_aload_n hx hb dX12_passes_101 rfl (lv_at hl 1 rfl) ?_
        refine va_get (D := G.1) (ci := 12) (v := .int u_ce) (C := RX12) (T := TX12) (N := 52) hx hb hts inG_X12 hown hK hP 0 rfl rfl 33 (by decide +kernel) (hts _ fl_X12_349) (fun _ h9 => h9) rfl dX12_passes_102 ?_
        refine lv_icmp_ne (tgt := 147) hx hb dX12_passes_105 (by decide +kernel) (fun c_26 => ?_) (fun c_26 => ?_)
        ·
          have n_26 : gNe ((v_ro (270 + (3 * k70_2)).toNatClampNeg).toInt) (u_ce.toInt) := g5_ne (a := (v_ro (270 + (3 * k70_2)).toNatClampNeg).toInt) (b := u_ce.toInt) rfl rfl c_26
          refine lv_iinc (v := (k70_2 + 1)) (lv' := [(2, .int (k70_2 + 1)), (0, .ref b_o), (1, .int p_1)]) hx hb dX12_passes_147 hl (k := 0) rfl rfl (by decide +kernel) rfl ?_
          clear hl
          intro ls hl
          have t_27 : (k70_2 + 1).toInt = k70_2.toInt + 1 := g5_iadd (a := k70_2.toInt) (b := 1) rfl (by decide +kernel) (by omega) (by omega)
          refine lv_goto (tgt := 70) hx hb dX12_passes_150 (by decide +kernel) ?_
          exact ih_70_16 ((k70_2 + 1), k70_la, k70_bk, k70_va, k70_su, k70_ho, k70_wy, k70_bt, k70_tg, k70_se, k70_re) ls H locs (show Int.toNat (8 - (k70_2 + 1).toInt) < Int.toNat (8 - k70_2.toInt) from g_up (show k70_2.toInt < (k70_2 + 1).toInt by omega) (show k70_2.toInt < 8 by omega)) ⟨lv_sub hl [0, 1, 2] rfl, hP, hD, hS, ⟨by omega, by omega⟩, i_11, i_12, i_13, i_14, i_15⟩
        ·
          have i_26 : (v_ro (270 + (3 * k70_2)).toNatClampNeg).toInt = u_ce.toInt := g5_neN (a := (v_ro (270 + (3 * k70_2)).toNatClampNeg).toInt) (b := u_ce.toInt) rfl rfl c_26
          refine lv_aload_n hx hb dX12_passes_108 rfl (lv_at hl 1 rfl) ?_
          refine lv_bipush (v := 6) hx hb dX12_passes_109 (by decide +kernel) ?_
          refine lv_iload_n hx hb dX12_passes_111 rfl (lv_at hl 0 rfl) ?_
          refine lv_iadd hx hb dX12_passes_112 ?_
          have t_28 : (6 + k70_2).toInt = 6 + k70_2.toInt := g5_iadd (a := 6) (b := k70_2.toInt) (by decide +kernel) (by rfl) (by omega) (by omega)
          refine lv_aload_n hx hb dX12_passes_113 rfl (lv_at hl 1 rfl) ?_
          refine va_get (D := G.1) (ci := 12) (v := .ref b_ro) (C := RX12) (T := TX12) (N := 52) hx hb hts inG_X12 hown hK hP 0 rfl rfl 3 (by decide +kernel) (hts _ fl_X12_13) (fun _ h9 => h9) rfl dX12_passes_114 ?_
          refine lv_sipush (v := 270) hx hb dX12_passes_117 (by decide +kernel) ?_
          refine lv_iconst (v := 3) hx hb dX12_passes_120 (by decide +kernel) ?_
          refine lv_iload_n hx hb dX12_passes_121 rfl (lv_at hl 0 rfl) ?_
          refine lv_imul hx hb dX12_passes_122 ?_
          have t_29 : (3 * k70_2).toInt = 3 * k70_2.toInt := g5_imul (a := 3) (b := k70_2.toInt) (by decide +kernel) (by rfl) (by omega) (by omega)
          refine lv_iadd hx hb dX12_passes_123 ?_
          have t_30 : (270 + (3 * k70_2)).toInt = 270 + (3 * k70_2).toInt := g5_iadd (a := 270) (b := (3 * k70_2).toInt) (by decide +kernel) (by rfl) (by omega) (by omega)
          refine lv_iconst (v := 1) hx hb dX12_passes_124 (by decide +kernel) ?_
          refine lv_iadd hx hb dX12_passes_125 ?_
          have t_31 : ((270 + (3 * k70_2)) + 1).toInt = (270 + (3 * k70_2)).toInt + 1 := g5_iadd (a := (270 + (3 * k70_2)).toInt) (b := 1) (by rfl) (by decide +kernel) (by omega) (by omega)
          refine va_iald hx hb hK hP 1 0 rfl rfl (i := ((270 + (3 * k70_2)) + 1)) (vp_in_iff.mpr ⟨by omega, by omega⟩) dX12_passes_126 ?_
          have hv_32 : 0 ≤ (v_ro ((270 + (3 * k70_2)) + 1).toNatClampNeg).toInt ∧ (v_ro ((270 + (3 * k70_2)) + 1).toNatClampNeg).toInt ≤ 5 := mi_270_1 r_ro (by have zz := g5_clamp ((270 + (3 * k70_2)) + 1); omega) (by have zz := g5_clamp ((270 + (3 * k70_2)) + 1); omega) (by have zz := g5_clamp ((270 + (3 * k70_2)) + 1); omega)
          refine lv_aload_n hx hb dX12_passes_127 rfl (lv_at hl 1 rfl) ?_
          refine va_get (D := G.1) (ci := 12) (v := .ref b_ro) (C := RX12) (T := TX12) (N := 52) hx hb hts inG_X12 hown hK hP 0 rfl rfl 3 (by decide +kernel) (hts _ fl_X12_13) (fun _ h9 => h9) rfl dX12_passes_128 ?_
          refine lv_sipush (v := 270) hx hb dX12_passes_131 (by decide +kernel) ?_
          refine lv_iconst (v := 3) hx hb dX12_passes_134 (by decide +kernel) ?_
          refine lv_iload_n hx hb dX12_passes_135 rfl (lv_at hl 0 rfl) ?_
          refine lv_imul hx hb dX12_passes_136 ?_
          have t_33 : (3 * k70_2).toInt = 3 * k70_2.toInt := g5_imul (a := 3) (b := k70_2.toInt) (by decide +kernel) (by rfl) (by omega) (by omega)
          refine lv_iadd hx hb dX12_passes_137 ?_
          have t_34 : (270 + (3 * k70_2)).toInt = 270 + (3 * k70_2).toInt := g5_iadd (a := 270) (b := (3 * k70_2).toInt) (by decide +kernel) (by rfl) (by omega) (by omega)
          refine lv_iconst (v := 2) hx hb dX12_passes_138 (by decide +kernel) ?_
          refine lv_iadd hx hb dX12_passes_139 ?_
          have t_35 : ((270 + (3 * k70_2)) + 2).toInt = (270 + (3 * k70_2)).toInt + 2 := g5_iadd (a := (270 + (3 * k70_2)).toInt) (b := 2) (by rfl) (by decide +kernel) (by omega) (by omega)
          refine va_iald hx hb hK hP 1 0 rfl rfl (i := ((270 + (3 * k70_2)) + 2)) (vp_in_iff.mpr ⟨by omega, by omega⟩) dX12_passes_140 ?_
          have hv_36 : 0 ≤ (v_ro ((270 + (3 * k70_2)) + 2).toNatClampNeg).toInt ∧ (v_ro ((270 + (3 * k70_2)) + 2).toNatClampNeg).toInt ≤ 23 := mi_270_2 r_ro (by have zz := g5_clamp ((270 + (3 * k70_2)) + 2); omega) (by have zz := g5_clamp ((270 + (3 * k70_2)) + 2); omega) (by have zz := g5_clamp ((270 + (3 * k70_2)) + 2); omega)
          refine lv_iconst (v := 0) hx hb dX12_passes_141 (by decide +kernel) ?_
          refine lv_iconst (v := 0) hx hb dX12_passes_142 (by decide +kernel) ?_
          obtain ⟨hPc, hDc, hFc⟩ := g5_sub3 (wc := [(b_o, (oc12 u_th u_sa b_rf b_ro b_im b_ke u_fd b_tp u_td u_fr u_to u_so u_wo u_fa u_bd u_nc b_nl u_co b_op b_ar u_le b_pi b_pa u_pd u_od b_ws b_hw k70_la b_se b_re k70_bk k70_va k70_su u_ce k70_ho k70_wy k70_bt u_ps b_pt k70_tg u_sn b_ip u_ic b_ah b_be b_me u_wd b_tr b_ld u_st b_wn u_id)), (b_ro, (arI G 5740 v_ro)), (b_se, (arJ G 13 k70_se)), (b_re, (arJ G 400 k70_re))]) hP hD hS hA [0, 1, 2, 3] (by decide +kernel) rfl
          refine va_calli (va_runV (As := [.int (6 + k70_2), .int (v_ro ((270 + (3 * k70_2)) + 1).toNatClampNeg), .int (v_ro ((270 + (3 * k70_2)) + 2).toNatClampNeg), .int 0, .int 0]) (rest := []) ⟨hx, hb, hml, hown, hts⟩ (n_turns l G b_o b_ro b_se b_re b_rf b_im b_ke b_tp b_nl b_op b_ar b_pi b_pa b_ws b_hw b_pt b_ip b_ah b_be b_me b_tr b_ld b_wn H.size u_th u_sa u_fd u_td u_fr u_to u_so u_fa u_bd u_nc u_co u_le u_pd u_od k70_la k70_bk u_ce k70_ho k70_wy k70_bt u_ps k70_tg u_sn u_ic u_wd u_id (6 + k70_2) (v_ro ((270 + (3 * k70_2)) + 1).toNatClampNeg) (v_ro ((270 + (3 * k70_2)) + 2).toNatClampNeg) 0 0 u_wo k70_va k70_su u_st v_ro k70_se k70_re h_u_td h_u_fr h_u_to h_u_bd h_u_nc h_u_co h_u_pd i_11 i_12 h_u_ce i_13 i_14 i_15 h_u_ps h_u_ic h_u_id ⟨by omega, by omega⟩ ⟨by omega, by omega⟩ ⟨by decide, by decide⟩ ⟨by decide, by decide⟩ (r_ro)) (cwV 5 hts gV_X12_390 rfl rfl rfl hv_X12_turns ⟨Nat.le_of_ble_eq_true rfl, Nat.le_of_ble_eq_true rfl⟩) (g5_preV hPc hK hDc hN hT hS hFc (ci := 12) (q0 := 0) rfl rfl) rfl rfl hl.1 rfl (lv_room (Nat.le_of_ble_eq_true rfl)) dX12_passes_143 ⟨Nat.le_of_ble_eq_true rfl, Nat.le_of_ble_eq_true rfl⟩) hS (fun q _ h => hFc q h) hFc (fun r u t H locs ht hvm hw hB hz1 hk1 hS => ?_)
          obtain ⟨hP1, hD1⟩ := hB
          have hP1 := g5_ht ht hP1
          obtain ⟨z43, z44, z45, z46, z47, z48, z49, z50, z51, z52, z53, (i_37 : 0 ≤ z43.toInt ∧ z43.toInt ≤ 1), (i_38 : 0 ≤ z44.toInt ∧ z44.toInt ≤ 4840), (i_39 : 0 ≤ z45.toInt ∧ z45.toInt ≤ 1), (i_40 : 0 ≤ z48.toInt ∧ z48.toInt ≤ 23), (i_41 : 0 ≤ z49.toInt ∧ z49.toInt ≤ 3), (i_42 : 0 ≤ z50.toInt ∧ z50.toInt ≤ 1000000), y54, rfl⟩ := hw
          have hJ9 := va_join (wr := []) hP hD [0, 1, 2, 3] [] rfl rfl (by decide +kernel) (by decide +kernel) hk1 hFc hP1 hD1
          clear hP hD hPc hDc hFc ht hvm hz1 hk1 hP1 hD1
          obtain ⟨hP, hD⟩ := hJ9
          refine g5_rs [(b_o, (oc12 u_th u_sa b_rf b_ro b_im b_ke u_fd b_tp u_td u_fr u_to u_so u_wo u_fa u_bd u_nc b_nl u_co b_op b_ar u_le b_pi b_pa u_pd u_od b_ws b_hw z44 b_se b_re z45 z46 z47 u_ce z48 z49 z50 u_ps b_pt z51 u_sn b_ip u_ic b_ah b_be b_me u_wd b_tr b_ld u_st b_wn u_id)), (b_ro, (arI G 5740 v_ro)), (b_se, (arJ G 13 z52)), (b_re, (arJ G 400 z53))] hP hD ?_
          clear hP hD
          intro hP hD
          refine g5_ti (v := z43) y54 ?_
          exact W.zret (v := z43) hx hb hr (g_nb (by omega) (by omega)) (fun t ht hW => ⟨⟨z43, [(b_o, (oc12 u_th u_sa b_rf b_ro b_im b_ke u_fd b_tp u_td u_fr u_to u_so u_wo u_fa u_bd u_nc b_nl u_co b_op b_ar u_le b_pi b_pa u_pd u_od b_ws b_hw z44 b_se b_re z45 z46 z47 u_ce z48 z49 z50 u_ps b_pt z51 u_sn b_ip u_ic b_ah b_be b_me u_wd b_tr b_ld u_st b_wn u_id)), (b_ro, (arI G 5740 v_ro)), (b_se, (arJ G 13 z52)), (b_re, (arJ G 400 z53))], rfl, ⟨z43, z44, z45, z46, z47, z48, z49, z50, z51, z52, z53, i_37, i_38, i_39, i_40, i_41, i_42, rfl, rfl⟩, by rw [ht]; exact hP.sub [0, 1, 2, 3] rfl, hD.sub [0, 1, 2, 3] (by decide +kernel) rfl⟩, hS.F ht⟩) hS.2.2 dX12_passes_146
  ·
    have i_9 : k2_2.toInt < (v_ro 0).toInt := g5_geN (a := k2_2.toInt) (b := (v_ro 0).toInt) rfl rfl c_9
    refine lv_aload_n hx hb dX12_passes_12 rfl (lv_at hl 1 rfl) ?_
    refine lv_iload_n hx hb dX12_passes_13 rfl (lv_at hl 0 rfl) ?_
    refine lv_iconst (v := 0) hx hb dX12_passes_14 (by decide +kernel) ?_
    obtain ⟨hPc, hDc, hFc⟩ := g5_sub3 (wc := [(b_o, (oc12 u_th u_sa b_rf b_ro b_im b_ke u_fd b_tp u_td u_fr u_to u_so u_wo u_fa u_bd u_nc b_nl u_co b_op b_ar u_le b_pi b_pa u_pd u_od b_ws b_hw k2_la b_se b_re k2_bk k2_va k2_su u_ce k2_ho k2_wy k2_bt u_ps b_pt k2_tg u_sn b_ip u_ic b_ah b_be b_me u_wd b_tr b_ld u_st b_wn u_id)), (b_ro, (arI G 5740 v_ro))]) hP hD hS hA [0, 1] (by decide +kernel) rfl
    refine va_calli (va_runV (As := [.int k2_2, .int 0]) (rest := []) ⟨hx, hb, hml, hown, hts⟩ (n_ofGlass0 l G b_o b_ro b_rf b_im b_ke b_tp b_nl b_op b_ar b_pi b_pa b_ws b_hw b_se b_re b_pt b_ip b_ah b_be b_me b_tr b_ld b_wn H.size u_th u_sa u_fd u_td u_fr u_to u_so u_fa u_bd u_nc u_co u_le u_pd u_od k2_la k2_bk u_ce k2_ho k2_wy k2_bt u_ps k2_tg u_sn u_ic u_wd u_id k2_2 u_wo k2_va k2_su u_st v_ro h_u_td h_u_fr h_u_to h_u_bd h_u_nc h_u_co h_u_pd i_2 i_3 h_u_ce i_4 i_5 i_6 h_u_ps h_u_ic h_u_id ⟨by omega, by omega⟩ (r_ro)) (cwV 2 hts gV_X12_134 rfl rfl rfl hv_X12_ofGlass ⟨Nat.le_of_ble_eq_true rfl, Nat.le_of_ble_eq_true rfl⟩) (g5_preV hPc hK hDc hN hT hS hFc (ci := 12) (q0 := 0) rfl rfl) rfl rfl hl.1 rfl (lv_room (Nat.le_of_ble_eq_true rfl)) dX12_passes_15 ⟨Nat.le_of_ble_eq_true rfl, Nat.le_of_ble_eq_true rfl⟩) hS (fun q _ h => hFc q h) hFc (fun r u t H locs ht hvm hw hB hz1 hk1 hS => ?_)
    obtain ⟨hP1, hD1⟩ := hB
    have hP1 := g5_ht ht hP1
    obtain ⟨z56, (i_55 : 0 ≤ z56.toInt ∧ z56.toInt ≤ 63), y57, rfl⟩ := hw
    have hJ9 := va_join (wr := [(b_se, (arJ G 13 k2_se)), (b_re, (arJ G 400 k2_re))]) hP hD [0, 1] [2, 3] rfl rfl (by decide +kernel) (by decide +kernel) hk1 hFc hP1 hD1
    clear hP hD hPc hDc hFc ht hvm hz1 hk1 hP1 hD1
    obtain ⟨hP, hD⟩ := hJ9
    refine g5_rs [(b_se, (arJ G 13 k2_se)), (b_re, (arJ G 400 k2_re)), (b_o, (oc12 u_th u_sa b_rf b_ro b_im b_ke u_fd b_tp u_td u_fr u_to u_so u_wo u_fa u_bd u_nc b_nl u_co b_op b_ar u_le b_pi b_pa u_pd u_od b_ws b_hw k2_la b_se b_re k2_bk k2_va k2_su u_ce k2_ho k2_wy k2_bt u_ps b_pt k2_tg u_sn b_ip u_ic b_ah b_be b_me u_wd b_tr b_ld u_st b_wn u_id)), (b_ro, (arI G 5740 v_ro))] hP hD ?_
    clear hP hD
    intro hP hD
    refine g5_ti (v := z56) y57 ?_
    refine lv_aload_n hx hb dX12_passes_18 rfl (lv_at hl 1 rfl) ?_
    refine va_get (D := G.1) (ci := 12) (v := .int u_ce) (C := RX12) (T := TX12) (N := 52) hx hb hts inG_X12 hown hK hP 2 rfl rfl 33 (by decide +kernel) (hts _ fl_X12_349) (fun _ h9 => h9) rfl dX12_passes_19 ?_
    refine lv_icmp_ne (tgt := 62) hx hb dX12_passes_22 (by decide +kernel) (fun c_58 => ?_) (fun c_58 => ?_)
    ·
      have n_58 : gNe (z56.toInt) (u_ce.toInt) := g5_ne (a := z56.toInt) (b := u_ce.toInt) rfl rfl c_58
      refine lv_iinc (v := (k2_2 + 1)) (lv' := [(2, .int (k2_2 + 1)), (0, .ref b_o), (1, .int p_1)]) hx hb dX12_passes_62 hl (k := 0) rfl rfl (by decide +kernel) rfl ?_
      clear hl
      intro ls hl
      have t_59 : (k2_2 + 1).toInt = k2_2.toInt + 1 := g5_iadd (a := k2_2.toInt) (b := 1) rfl (by decide +kernel) (by omega) (by omega)
      refine lv_goto (tgt := 2) hx hb dX12_passes_65 (by decide +kernel) ?_
      exact ih_2_7 ((k2_2 + 1), k2_la, k2_bk, k2_va, k2_su, k2_ho, k2_wy, k2_bt, k2_tg, k2_se, k2_re) ls H locs (show Int.toNat (6 - (k2_2 + 1).toInt) < Int.toNat (6 - k2_2.toInt) from g_up (show k2_2.toInt < (k2_2 + 1).toInt by omega) (show k2_2.toInt < 6 by omega)) ⟨lv_sub hl [0, 1, 2] rfl, hP.sub [2, 3, 0, 1] rfl, hD.sub [2, 3, 0, 1] (by decide +kernel) rfl, hS, ⟨by omega, by omega⟩, i_2, i_3, i_4, i_5, i_6⟩
    ·
      have i_58 : z56.toInt = u_ce.toInt := g5_neN (a := z56.toInt) (b := u_ce.toInt) rfl rfl c_58
      refine lv_aload_n hx hb dX12_passes_25 rfl (lv_at hl 1 rfl) ?_
      refine lv_iload_n hx hb dX12_passes_26 rfl (lv_at hl 0 rfl) ?_
      refine lv_aload_n hx hb dX12_passes_27 rfl (lv_at hl 1 rfl) ?_
      refine lv_iload_n hx hb dX12_passes_28 rfl (lv_at hl 0 rfl) ?_
      refine lv_iconst (v := 1) hx hb dX12_passes_29 (by decide +kernel) ?_
      obtain ⟨hPc, hDc, hFc⟩ := g5_sub3 (wc := [(b_o, (oc12 u_th u_sa b_rf b_ro b_im b_ke u_fd b_tp u_td u_fr u_to u_so u_wo u_fa u_bd u_nc b_nl u_co b_op b_ar u_le b_pi b_pa u_pd u_od b_ws b_hw k2_la b_se b_re k2_bk k2_va k2_su u_ce k2_ho k2_wy k2_bt u_ps b_pt k2_tg u_sn b_ip u_ic b_ah b_be b_me u_wd b_tr b_ld u_st b_wn u_id)), (b_ro, (arI G 5740 v_ro))]) hP hD hS hA [2, 3] (by decide +kernel) rfl
      refine va_calli (va_runV (As := [.int k2_2, .int 1]) (rest := [.int k2_2, .ref b_o]) ⟨hx, hb, hml, hown, hts⟩ (n_ofGlass1 l G b_o b_ro b_rf b_im b_ke b_tp b_nl b_op b_ar b_pi b_pa b_ws b_hw b_se b_re b_pt b_ip b_ah b_be b_me b_tr b_ld b_wn H.size u_th u_sa u_fd u_td u_fr u_to u_so u_fa u_bd u_nc u_co u_le u_pd u_od k2_la k2_bk u_ce k2_ho k2_wy k2_bt u_ps k2_tg u_sn u_ic u_wd u_id k2_2 u_wo k2_va k2_su u_st v_ro h_u_td h_u_fr h_u_to h_u_bd h_u_nc h_u_co h_u_pd i_2 i_3 h_u_ce i_4 i_5 i_6 h_u_ps h_u_ic h_u_id ⟨by omega, by omega⟩ (r_ro)) (cwV 2 hts gV_X12_134 rfl rfl rfl hv_X12_ofGlass ⟨Nat.le_of_ble_eq_true rfl, Nat.le_of_ble_eq_true rfl⟩) (g5_preV hPc hK hDc hN hT hS hFc (ci := 12) (q0 := 0) rfl rfl) rfl rfl hl.1 rfl (lv_room (Nat.le_of_ble_eq_true rfl)) dX12_passes_30 ⟨Nat.le_of_ble_eq_true rfl, Nat.le_of_ble_eq_true rfl⟩) hS (fun q _ h => hFc q h) hFc (fun r u t H locs ht hvm hw hB hz1 hk1 hS => ?_)
      obtain ⟨hP1, hD1⟩ := hB
      have hP1 := g5_ht ht hP1
      obtain ⟨z61, (i_60 : 0 ≤ z61.toInt ∧ z61.toInt ≤ 5), y62, rfl⟩ := hw
      have hJ9 := va_join (wr := [(b_se, (arJ G 13 k2_se)), (b_re, (arJ G 400 k2_re))]) hP hD [2, 3] [0, 1] rfl rfl (by decide +kernel) (by decide +kernel) hk1 hFc hP1 hD1
      clear hP hD hPc hDc hFc ht hvm hz1 hk1 hP1 hD1
      obtain ⟨hP, hD⟩ := hJ9
      refine g5_rs [(b_se, (arJ G 13 k2_se)), (b_re, (arJ G 400 k2_re)), (b_o, (oc12 u_th u_sa b_rf b_ro b_im b_ke u_fd b_tp u_td u_fr u_to u_so u_wo u_fa u_bd u_nc b_nl u_co b_op b_ar u_le b_pi b_pa u_pd u_od b_ws b_hw k2_la b_se b_re k2_bk k2_va k2_su u_ce k2_ho k2_wy k2_bt u_ps b_pt k2_tg u_sn b_ip u_ic b_ah b_be b_me u_wd b_tr b_ld u_st b_wn u_id)), (b_ro, (arI G 5740 v_ro))] hP hD ?_
      clear hP hD
      intro hP hD
      refine g5_ti (v := z61) y62 ?_
      refine lv_aload_n hx hb dX12_passes_33 rfl (lv_at hl 1 rfl) ?_
      refine lv_iload_n hx hb dX12_passes_34 rfl (lv_at hl 0 rfl) ?_
      refine lv_iconst (v := 2) hx hb dX12_passes_35 (by decide +kernel) ?_
      obtain ⟨hPc, hDc, hFc⟩ := g5_sub3 (wc := [(b_o, (oc12 u_th u_sa b_rf b_ro b_im b_ke u_fd b_tp u_td u_fr u_to u_so u_wo u_fa u_bd u_nc b_nl u_co b_op b_ar u_le b_pi b_pa u_pd u_od b_ws b_hw k2_la b_se b_re k2_bk k2_va k2_su u_ce k2_ho k2_wy k2_bt u_ps b_pt k2_tg u_sn b_ip u_ic b_ah b_be b_me u_wd b_tr b_ld u_st b_wn u_id)), (b_ro, (arI G 5740 v_ro))]) hP hD hS hA [2, 3] (by decide +kernel) rfl
      refine va_calli (va_runV (As := [.int k2_2, .int 2]) (rest := [.int z61, .int k2_2, .ref b_o]) ⟨hx, hb, hml, hown, hts⟩ (n_ofGlass2 l G b_o b_ro b_rf b_im b_ke b_tp b_nl b_op b_ar b_pi b_pa b_ws b_hw b_se b_re b_pt b_ip b_ah b_be b_me b_tr b_ld b_wn H.size u_th u_sa u_fd u_td u_fr u_to u_so u_fa u_bd u_nc u_co u_le u_pd u_od k2_la k2_bk u_ce k2_ho k2_wy k2_bt u_ps k2_tg u_sn u_ic u_wd u_id k2_2 u_wo k2_va k2_su u_st v_ro h_u_td h_u_fr h_u_to h_u_bd h_u_nc h_u_co h_u_pd i_2 i_3 h_u_ce i_4 i_5 i_6 h_u_ps h_u_ic h_u_id ⟨by omega, by omega⟩ (r_ro)) (cwV 2 hts gV_X12_134 rfl rfl rfl hv_X12_ofGlass ⟨Nat.le_of_ble_eq_true rfl, Nat.le_of_ble_eq_true rfl⟩) (g5_preV hPc hK hDc hN hT hS hFc (ci := 12) (q0 := 0) rfl rfl) rfl rfl hl.1 rfl (lv_room (Nat.le_of_ble_eq_true rfl)) dX12_passes_36 ⟨Nat.le_of_ble_eq_true rfl, Nat.le_of_ble_eq_true rfl⟩) hS (fun q _ h => hFc q h) hFc (fun r u t H locs ht hvm hw hB hz1 hk1 hS => ?_)
      obtain ⟨hP1, hD1⟩ := hB
      have hP1 := g5_ht ht hP1
      obtain ⟨z64, (i_63 : 0 ≤ z64.toInt ∧ z64.toInt ≤ 23), y65, rfl⟩ := hw
      have hJ9 := va_join (wr := [(b_se, (arJ G 13 k2_se)), (b_re, (arJ G 400 k2_re))]) hP hD [2, 3] [0, 1] rfl rfl (by decide +kernel) (by decide +kernel) hk1 hFc hP1 hD1
      clear hP hD hPc hDc hFc ht hvm hz1 hk1 hP1 hD1
      obtain ⟨hP, hD⟩ := hJ9
      refine g5_rs [(b_se, (arJ G 13 k2_se)), (b_re, (arJ G 400 k2_re)), (b_o, (oc12 u_th u_sa b_rf b_ro b_im b_ke u_fd b_tp u_td u_fr u_to u_so u_wo u_fa u_bd u_nc b_nl u_co b_op b_ar u_le b_pi b_pa u_pd u_od b_ws b_hw k2_la b_se b_re k2_bk k2_va k2_su u_ce k2_ho k2_wy k2_bt u_ps b_pt k2_tg u_sn b_ip u_ic b_ah b_be b_me u_wd b_tr b_ld u_st b_wn u_id)), (b_ro, (arI G 5740 v_ro))] hP hD ?_
      clear hP hD
      intro hP hD
      refine g5_ti (v := z64) y65 ?_
      refine lv_aload_n hx hb dX12_passes_39 rfl (lv_at hl 1 rfl) ?_
      refine lv_iload_n hx hb dX12_passes_40 rfl (lv_at hl 0 rfl) ?_
      refine lv_iconst (v := 3) hx hb dX12_passes_41 (by decide +kernel) ?_
      obtain ⟨hPc, hDc, hFc⟩ := g5_sub3 (wc := [(b_o, (oc12 u_th u_sa b_rf b_ro b_im b_ke u_fd b_tp u_td u_fr u_to u_so u_wo u_fa u_bd u_nc b_nl u_co b_op b_ar u_le b_pi b_pa u_pd u_od b_ws b_hw k2_la b_se b_re k2_bk k2_va k2_su u_ce k2_ho k2_wy k2_bt u_ps b_pt k2_tg u_sn b_ip u_ic b_ah b_be b_me u_wd b_tr b_ld u_st b_wn u_id)), (b_ro, (arI G 5740 v_ro))]) hP hD hS hA [2, 3] (by decide +kernel) rfl
      refine va_calli (va_runV (As := [.int k2_2, .int 3]) (rest := [.int z64, .int z61, .int k2_2, .ref b_o]) ⟨hx, hb, hml, hown, hts⟩ (n_ofGlass3 l G b_o b_ro b_rf b_im b_ke b_tp b_nl b_op b_ar b_pi b_pa b_ws b_hw b_se b_re b_pt b_ip b_ah b_be b_me b_tr b_ld b_wn H.size u_th u_sa u_fd u_td u_fr u_to u_so u_fa u_bd u_nc u_co u_le u_pd u_od k2_la k2_bk u_ce k2_ho k2_wy k2_bt u_ps k2_tg u_sn u_ic u_wd u_id k2_2 u_wo k2_va k2_su u_st v_ro h_u_td h_u_fr h_u_to h_u_bd h_u_nc h_u_co h_u_pd i_2 i_3 h_u_ce i_4 i_5 i_6 h_u_ps h_u_ic h_u_id ⟨by omega, by omega⟩ (r_ro)) (cwV 2 hts gV_X12_134 rfl rfl rfl hv_X12_ofGlass ⟨Nat.le_of_ble_eq_true rfl, Nat.le_of_ble_eq_true rfl⟩) (g5_preV hPc hK hDc hN hT hS hFc (ci := 12) (q0 := 0) rfl rfl) rfl rfl hl.1 rfl (lv_room (Nat.le_of_ble_eq_true rfl)) dX12_passes_42 ⟨Nat.le_of_ble_eq_true rfl, Nat.le_of_ble_eq_true rfl⟩) hS (fun q _ h => hFc q h) hFc (fun r u t H locs ht hvm hw hB hz1 hk1 hS => ?_)
      obtain ⟨hP1, hD1⟩ := hB
      have hP1 := g5_ht ht hP1
      obtain ⟨z67, (i_66 : 0 ≤ z67.toInt ∧ z67.toInt ≤ 10), y68, rfl⟩ := hw
      have hJ9 := va_join (wr := [(b_se, (arJ G 13 k2_se)), (b_re, (arJ G 400 k2_re))]) hP hD [2, 3] [0, 1] rfl rfl (by decide +kernel) (by decide +kernel) hk1 hFc hP1 hD1
      clear hP hD hPc hDc hFc ht hvm hz1 hk1 hP1 hD1
      obtain ⟨hP, hD⟩ := hJ9
      refine g5_rs [(b_se, (arJ G 13 k2_se)), (b_re, (arJ G 400 k2_re)), (b_o, (oc12 u_th u_sa b_rf b_ro b_im b_ke u_fd b_tp u_td u_fr u_to u_so u_wo u_fa u_bd u_nc b_nl u_co b_op b_ar u_le b_pi b_pa u_pd u_od b_ws b_hw k2_la b_se b_re k2_bk k2_va k2_su u_ce k2_ho k2_wy k2_bt u_ps b_pt k2_tg u_sn b_ip u_ic b_ah b_be b_me u_wd b_tr b_ld u_st b_wn u_id)), (b_ro, (arI G 5740 v_ro))] hP hD ?_
      clear hP hD
      intro hP hD
      refine g5_ti (v := z67) y68 ?_
      refine lv_aload_n hx hb dX12_passes_45 rfl (lv_at hl 1 rfl) ?_
      refine lv_iload_n hx hb dX12_passes_46 rfl (lv_at hl 0 rfl) ?_
      refine lv_iconst (v := 4) hx hb dX12_passes_47 (by decide +kernel) ?_
      obtain ⟨hPc, hDc, hFc⟩ := g5_sub3 (wc := [(b_o, (oc12 u_th u_sa b_rf b_ro b_im b_ke u_fd b_tp u_td u_fr u_to u_so u_wo u_fa u_bd u_nc b_nl u_co b_op b_ar u_le b_pi b_pa u_pd u_od b_ws b_hw k2_la b_se b_re k2_bk k2_va k2_su u_ce k2_ho k2_wy k2_bt u_ps b_pt k2_tg u_sn b_ip u_ic b_ah b_be b_me u_wd b_tr b_ld u_st b_wn u_id)), (b_ro, (arI G 5740 v_ro))]) hP hD hS hA [2, 3] (by decide +kernel) rfl
      refine va_calli (va_runV (As := [.int k2_2, .int 4]) (rest := [.int z67, .int z64, .int z61, .int k2_2, .ref b_o]) ⟨hx, hb, hml, hown, hts⟩ (n_ofGlass l G b_o b_ro b_rf b_im b_ke b_tp b_nl b_op b_ar b_pi b_pa b_ws b_hw b_se b_re b_pt b_ip b_ah b_be b_me b_tr b_ld b_wn H.size u_th u_sa u_fd u_td u_fr u_to u_so u_fa u_bd u_nc u_co u_le u_pd u_od k2_la k2_bk u_ce k2_ho k2_wy k2_bt u_ps k2_tg u_sn u_ic u_wd u_id k2_2 4 u_wo k2_va k2_su u_st v_ro h_u_td h_u_fr h_u_to h_u_bd h_u_nc h_u_co h_u_pd i_2 i_3 h_u_ce i_4 i_5 i_6 h_u_ps h_u_ic h_u_id ⟨by omega, by omega⟩ ⟨by decide, by decide⟩ (r_ro)) (cwV 2 hts gV_X12_134 rfl rfl rfl hv_X12_ofGlass ⟨Nat.le_of_ble_eq_true rfl, Nat.le_of_ble_eq_true rfl⟩) (g5_preV hPc hK hDc hN hT hS hFc (ci := 12) (q0 := 0) rfl rfl) rfl rfl hl.1 rfl (lv_room (Nat.le_of_ble_eq_true rfl)) dX12_passes_48 ⟨Nat.le_of_ble_eq_true rfl, Nat.le_of_ble_eq_true rfl⟩) hS (fun q _ h => hFc q h) hFc (fun r u t H locs ht hvm hw hB hz1 hk1 hS => ?_)
      obtain ⟨hP1, hD1⟩ := hB
      have hP1 := g5_ht ht hP1
      obtain ⟨z69, y70, rfl⟩ := hw
      have hJ9 := va_join (wr := [(b_se, (arJ G 13 k2_se)), (b_re, (arJ G 400 k2_re))]) hP hD [2, 3] [0, 1] rfl rfl (by decide +kernel) (by decide +kernel) hk1 hFc hP1 hD1
      clear hP hD hPc hDc hFc ht hvm hz1 hk1 hP1 hD1
      obtain ⟨hP, hD⟩ := hJ9
      refine g5_rs [(b_se, (arJ G 13 k2_se)), (b_re, (arJ G 400 k2_re)), (b_o, (oc12 u_th u_sa b_rf b_ro b_im b_ke u_fd b_tp u_td u_fr u_to u_so u_wo u_fa u_bd u_nc b_nl u_co b_op b_ar u_le b_pi b_pa u_pd u_od b_ws b_hw k2_la b_se b_re k2_bk k2_va k2_su u_ce k2_ho k2_wy k2_bt u_ps b_pt k2_tg u_sn b_ip u_ic b_ah b_be b_me u_wd b_tr b_ld u_st b_wn u_id)), (b_ro, (arI G 5740 v_ro))] hP hD ?_
      clear hP hD
      intro hP hD
      refine g5_ti (v := z69) y70 ?_
      refine lv_aload_n hx hb dX12_passes_51 rfl (lv_at hl 1 rfl) ?_
      refine va_get (D := G.1) (ci := 12) (v := .int k2_ho) (C := RX12) (T := TX12) (N := 52) hx hb hts inG_X12 hown hK hP 2 rfl rfl 34 (by decide +kernel) (hts _ fl_X12_352) (fun _ h9 => h9) rfl dX12_passes_52 ?_
      obtain ⟨hPc, hDc, hFc⟩ := g5_sub3 (wc := []) hP hD hS hA [] (by decide +kernel) rfl
      refine va_calli (va_runS (As := [.int z69, .int k2_ho]) (rest := [.int z67, .int z64, .int z61, .int k2_2, .ref b_o]) ⟨hx, hb, hml, hown, hts⟩ (n_is l G H.size z69 k2_ho) (va_cwS 2 hts gS_X12_387 rfl rfl rfl hs_X12_is ⟨Nat.le_of_ble_eq_true rfl, Nat.le_of_ble_eq_true rfl⟩) (g5_preS hPc hK hDc hN hT hS hFc) rfl rfl hl.1 rfl (lv_room (Nat.le_of_ble_eq_true rfl)) dX12_passes_55 ⟨Nat.le_of_ble_eq_true rfl, Nat.le_of_ble_eq_true rfl⟩) hS (fun q _ h => hFc q h) hFc (fun r u t H locs ht hvm hw hB hz1 hk1 hS => ?_)
      obtain ⟨hP1, hD1⟩ := hB
      have hP1 := g5_ht ht hP1
      obtain ⟨z72, (i_71 : 0 ≤ z72.toInt ∧ z72.toInt ≤ 1), y73, rfl⟩ := hw
      have hJ9 := g5_same hP hk1
      clear hP hPc hDc hFc ht hvm hz1 hk1 hP1 hD1
      have hP := hJ9
      clear hJ9
      refine g5_ti (v := z72) y73 ?_
      obtain ⟨hPc, hDc, hFc⟩ := g5_sub3 (wc := [(b_o, (oc12 u_th u_sa b_rf b_ro b_im b_ke u_fd b_tp u_td u_fr u_to u_so u_wo u_fa u_bd u_nc b_nl u_co b_op b_ar u_le b_pi b_pa u_pd u_od b_ws b_hw k2_la b_se b_re k2_bk k2_va k2_su u_ce k2_ho k2_wy k2_bt u_ps b_pt k2_tg u_sn b_ip u_ic b_ah b_be b_me u_wd b_tr b_ld u_st b_wn u_id)), (b_ro, (arI G 5740 v_ro)), (b_se, (arJ G 13 k2_se)), (b_re, (arJ G 400 k2_re))]) hP hD hS hA [2, 3, 0, 1] (by decide +kernel) rfl
      refine va_calli (va_runV (As := [.int k2_2, .int z61, .int z64, .int z67, .int z72]) (rest := []) ⟨hx, hb, hml, hown, hts⟩ (n_turns l G b_o b_ro b_se b_re b_rf b_im b_ke b_tp b_nl b_op b_ar b_pi b_pa b_ws b_hw b_pt b_ip b_ah b_be b_me b_tr b_ld b_wn H.size u_th u_sa u_fd u_td u_fr u_to u_so u_fa u_bd u_nc u_co u_le u_pd u_od k2_la k2_bk u_ce k2_ho k2_wy k2_bt u_ps k2_tg u_sn u_ic u_wd u_id k2_2 z61 z64 z67 z72 u_wo k2_va k2_su u_st v_ro k2_se k2_re h_u_td h_u_fr h_u_to h_u_bd h_u_nc h_u_co h_u_pd i_2 i_3 h_u_ce i_4 i_5 i_6 h_u_ps h_u_ic h_u_id i_60 i_63 i_66 i_71 (r_ro)) (cwV 5 hts gV_X12_390 rfl rfl rfl hv_X12_turns ⟨Nat.le_of_ble_eq_true rfl, Nat.le_of_ble_eq_true rfl⟩) (g5_preV hPc hK hDc hN hT hS hFc (ci := 12) (q0 := 0) rfl rfl) rfl rfl hl.1 rfl (lv_room (Nat.le_of_ble_eq_true rfl)) dX12_passes_58 ⟨Nat.le_of_ble_eq_true rfl, Nat.le_of_ble_eq_true rfl⟩) hS (fun q _ h => hFc q h) hFc (fun r u t H locs ht hvm hw hB hz1 hk1 hS => ?_)
      obtain ⟨hP1, hD1⟩ := hB
      have hP1 := g5_ht ht hP1
      obtain ⟨z80, z81, z82, z83, z84, z85, z86, z87, z88, z89, z90, (i_74 : 0 ≤ z80.toInt ∧ z80.toInt ≤ 1), (i_75 : 0 ≤ z81.toInt ∧ z81.toInt ≤ 4840), (i_76 : 0 ≤ z82.toInt ∧ z82.toInt ≤ 1), (i_77 : 0 ≤ z85.toInt ∧ z85.toInt ≤ 23), (i_78 : 0 ≤ z86.toInt ∧ z86.toInt ≤ 3), (i_79 : 0 ≤ z87.toInt ∧ z87.toInt ≤ 1000000), y91, rfl⟩ := hw
      have hJ9 := va_join (wr := []) hP hD [2, 3, 0, 1] [] rfl rfl (by decide +kernel) (by decide +kernel) hk1 hFc hP1 hD1
      clear hP hD hPc hDc hFc ht hvm hz1 hk1 hP1 hD1
      obtain ⟨hP, hD⟩ := hJ9
      refine g5_rs [(b_o, (oc12 u_th u_sa b_rf b_ro b_im b_ke u_fd b_tp u_td u_fr u_to u_so u_wo u_fa u_bd u_nc b_nl u_co b_op b_ar u_le b_pi b_pa u_pd u_od b_ws b_hw z81 b_se b_re z82 z83 z84 u_ce z85 z86 z87 u_ps b_pt z88 u_sn b_ip u_ic b_ah b_be b_me u_wd b_tr b_ld u_st b_wn u_id)), (b_ro, (arI G 5740 v_ro)), (b_se, (arJ G 13 z89)), (b_re, (arJ G 400 z90))] hP hD ?_
      clear hP hD
      intro hP hD
      refine g5_ti (v := z80) y91 ?_
      exact W.zret (v := z80) hx hb hr (g_nb (by omega) (by omega)) (fun t ht hW => ⟨⟨z80, [(b_o, (oc12 u_th u_sa b_rf b_ro b_im b_ke u_fd b_tp u_td u_fr u_to u_so u_wo u_fa u_bd u_nc b_nl u_co b_op b_ar u_le b_pi b_pa u_pd u_od b_ws b_hw z81 b_se b_re z82 z83 z84 u_ce z85 z86 z87 u_ps b_pt z88 u_sn b_ip u_ic b_ah b_be b_me u_wd b_tr b_ld u_st b_wn u_id)), (b_ro, (arI G 5740 v_ro)), (b_se, (arJ G 13 z89)), (b_re, (arJ G 400 z90))], rfl, ⟨z80, z81, z82, z83, z84, z85, z86, z87, z88, z89, z90, i_74, i_75, i_76, i_77, i_78, i_79, rfl, rfl⟩, by rw [ht]; exact hP.sub [0, 1, 2, 3] rfl, hD.sub [0, 1, 2, 3] (by decide +kernel) rfl⟩, hS.F ht⟩) hS.2.2 dX12_passes_61
theorem dgX12_go_0 : ∀ r ∈ ([(0, (.aload_n 0, 1)), (1, (.iload_n 1, 1)), (2, (.putfield 349, 3)), (5, (.aload_n 0, 1)), (6, (.iload_n 2, 1)), (7, (.putfield 355, 3)), (10, (.aload_n 0, 1)), (11, (.iload_n 3, 1)), (12, (.putfield 352, 3)), (15, (.aload_n 0, 1)), (16, (.ldc_w 367, 3)), (19, (.putfield 361, 3)), (22, (.aload_n 0, 1)), (23, (.iconst 0, 1)), (24, (.putfield 358, 3)), (27, (.aload_n 0, 1)), (28, (.iconst 0, 1)), (29, (.putfield 368, 3)), (32, (.aload_n 0, 1)), (33, (.iconst (-1), 1)), (34, (.putfield 371, 3)), (37, (.iconst 1, 1)), (38, (.istore 5, 2)), (40, (.iload 5, 2)), (42, (.ifCond .eq 125, 3)), (45, (.aload_n 0, 1)), (46, (.getfield 358, 3)), (49, (.sipush 200, 3)), (52, (.if_icmp .ge 115, 3)), (55, (.aload_n 0, 1)), (56, (.getfield 349, 3)), (59, (.aload_n 0, 1)), (60, (.getfield 355, 3)), (63, (.invokestatic 374, 3)), (66, (.istore 6, 2)), (68, (.iload 6, 2)), (70, (.iconst (-1), 1)), (71, (.if_icmp .eq 25, 3)), (74, (.aload_n 0, 1)), (75, (.iload 6, 2))] : List (Nat × (Instr × Nat))), decode cX12_go r.1 = .ok r.2 := by decide +kernel
theorem dX12_go_0 : decode cX12_go 0 = .ok (.aload_n 0, 1) := dgX12_go_0 (0, (.aload_n 0, 1)) (List.mem_of_getElem? (i := 0) rfl)
theorem dX12_go_1 : decode cX12_go 1 = .ok (.iload_n 1, 1) := dgX12_go_0 (1, (.iload_n 1, 1)) (List.mem_of_getElem? (i := 1) rfl)
theorem dX12_go_2 : decode cX12_go 2 = .ok (.putfield 349, 3) := dgX12_go_0 (2, (.putfield 349, 3)) (List.mem_of_getElem? (i := 2) rfl)
theorem dX12_go_5 : decode cX12_go 5 = .ok (.aload_n 0, 1) := dgX12_go_0 (5, (.aload_n 0, 1)) (List.mem_of_getElem? (i := 3) rfl)
theorem dX12_go_6 : decode cX12_go 6 = .ok (.iload_n 2, 1) := dgX12_go_0 (6, (.iload_n 2, 1)) (List.mem_of_getElem? (i := 4) rfl)
theorem dX12_go_7 : decode cX12_go 7 = .ok (.putfield 355, 3) := dgX12_go_0 (7, (.putfield 355, 3)) (List.mem_of_getElem? (i := 5) rfl)
theorem dX12_go_10 : decode cX12_go 10 = .ok (.aload_n 0, 1) := dgX12_go_0 (10, (.aload_n 0, 1)) (List.mem_of_getElem? (i := 6) rfl)
theorem dX12_go_11 : decode cX12_go 11 = .ok (.iload_n 3, 1) := dgX12_go_0 (11, (.iload_n 3, 1)) (List.mem_of_getElem? (i := 7) rfl)
theorem dX12_go_12 : decode cX12_go 12 = .ok (.putfield 352, 3) := dgX12_go_0 (12, (.putfield 352, 3)) (List.mem_of_getElem? (i := 8) rfl)
theorem dX12_go_15 : decode cX12_go 15 = .ok (.aload_n 0, 1) := dgX12_go_0 (15, (.aload_n 0, 1)) (List.mem_of_getElem? (i := 9) rfl)
theorem dX12_go_16 : decode cX12_go 16 = .ok (.ldc_w 367, 3) := dgX12_go_0 (16, (.ldc_w 367, 3)) (List.mem_of_getElem? (i := 10) rfl)
theorem dX12_go_19 : decode cX12_go 19 = .ok (.putfield 361, 3) := dgX12_go_0 (19, (.putfield 361, 3)) (List.mem_of_getElem? (i := 11) rfl)
theorem dX12_go_22 : decode cX12_go 22 = .ok (.aload_n 0, 1) := dgX12_go_0 (22, (.aload_n 0, 1)) (List.mem_of_getElem? (i := 12) rfl)
theorem dX12_go_23 : decode cX12_go 23 = .ok (.iconst 0, 1) := dgX12_go_0 (23, (.iconst 0, 1)) (List.mem_of_getElem? (i := 13) rfl)
theorem dX12_go_24 : decode cX12_go 24 = .ok (.putfield 358, 3) := dgX12_go_0 (24, (.putfield 358, 3)) (List.mem_of_getElem? (i := 14) rfl)
theorem dX12_go_27 : decode cX12_go 27 = .ok (.aload_n 0, 1) := dgX12_go_0 (27, (.aload_n 0, 1)) (List.mem_of_getElem? (i := 15) rfl)
theorem dX12_go_28 : decode cX12_go 28 = .ok (.iconst 0, 1) := dgX12_go_0 (28, (.iconst 0, 1)) (List.mem_of_getElem? (i := 16) rfl)
theorem dX12_go_29 : decode cX12_go 29 = .ok (.putfield 368, 3) := dgX12_go_0 (29, (.putfield 368, 3)) (List.mem_of_getElem? (i := 17) rfl)
theorem dX12_go_32 : decode cX12_go 32 = .ok (.aload_n 0, 1) := dgX12_go_0 (32, (.aload_n 0, 1)) (List.mem_of_getElem? (i := 18) rfl)
theorem dX12_go_33 : decode cX12_go 33 = .ok (.iconst (-1), 1) := dgX12_go_0 (33, (.iconst (-1), 1)) (List.mem_of_getElem? (i := 19) rfl)
theorem dX12_go_34 : decode cX12_go 34 = .ok (.putfield 371, 3) := dgX12_go_0 (34, (.putfield 371, 3)) (List.mem_of_getElem? (i := 20) rfl)
theorem dX12_go_37 : decode cX12_go 37 = .ok (.iconst 1, 1) := dgX12_go_0 (37, (.iconst 1, 1)) (List.mem_of_getElem? (i := 21) rfl)
theorem dX12_go_38 : decode cX12_go 38 = .ok (.istore 5, 2) := dgX12_go_0 (38, (.istore 5, 2)) (List.mem_of_getElem? (i := 22) rfl)
theorem dX12_go_40 : decode cX12_go 40 = .ok (.iload 5, 2) := dgX12_go_0 (40, (.iload 5, 2)) (List.mem_of_getElem? (i := 23) rfl)
theorem dX12_go_42 : decode cX12_go 42 = .ok (.ifCond .eq 125, 3) := dgX12_go_0 (42, (.ifCond .eq 125, 3)) (List.mem_of_getElem? (i := 24) rfl)
theorem dX12_go_45 : decode cX12_go 45 = .ok (.aload_n 0, 1) := dgX12_go_0 (45, (.aload_n 0, 1)) (List.mem_of_getElem? (i := 25) rfl)
theorem dX12_go_46 : decode cX12_go 46 = .ok (.getfield 358, 3) := dgX12_go_0 (46, (.getfield 358, 3)) (List.mem_of_getElem? (i := 26) rfl)
theorem dX12_go_49 : decode cX12_go 49 = .ok (.sipush 200, 3) := dgX12_go_0 (49, (.sipush 200, 3)) (List.mem_of_getElem? (i := 27) rfl)
theorem dX12_go_52 : decode cX12_go 52 = .ok (.if_icmp .ge 115, 3) := dgX12_go_0 (52, (.if_icmp .ge 115, 3)) (List.mem_of_getElem? (i := 28) rfl)
theorem dX12_go_55 : decode cX12_go 55 = .ok (.aload_n 0, 1) := dgX12_go_0 (55, (.aload_n 0, 1)) (List.mem_of_getElem? (i := 29) rfl)
theorem dX12_go_56 : decode cX12_go 56 = .ok (.getfield 349, 3) := dgX12_go_0 (56, (.getfield 349, 3)) (List.mem_of_getElem? (i := 30) rfl)
theorem dX12_go_59 : decode cX12_go 59 = .ok (.aload_n 0, 1) := dgX12_go_0 (59, (.aload_n 0, 1)) (List.mem_of_getElem? (i := 31) rfl)
theorem dX12_go_60 : decode cX12_go 60 = .ok (.getfield 355, 3) := dgX12_go_0 (60, (.getfield 355, 3)) (List.mem_of_getElem? (i := 32) rfl)
theorem dX12_go_63 : decode cX12_go 63 = .ok (.invokestatic 374, 3) := dgX12_go_0 (63, (.invokestatic 374, 3)) (List.mem_of_getElem? (i := 33) rfl)
theorem dX12_go_66 : decode cX12_go 66 = .ok (.istore 6, 2) := dgX12_go_0 (66, (.istore 6, 2)) (List.mem_of_getElem? (i := 34) rfl)
theorem dX12_go_68 : decode cX12_go 68 = .ok (.iload 6, 2) := dgX12_go_0 (68, (.iload 6, 2)) (List.mem_of_getElem? (i := 35) rfl)
theorem dX12_go_70 : decode cX12_go 70 = .ok (.iconst (-1), 1) := dgX12_go_0 (70, (.iconst (-1), 1)) (List.mem_of_getElem? (i := 36) rfl)
theorem dX12_go_71 : decode cX12_go 71 = .ok (.if_icmp .eq 25, 3) := dgX12_go_0 (71, (.if_icmp .eq 25, 3)) (List.mem_of_getElem? (i := 37) rfl)
theorem dX12_go_74 : decode cX12_go 74 = .ok (.aload_n 0, 1) := dgX12_go_0 (74, (.aload_n 0, 1)) (List.mem_of_getElem? (i := 38) rfl)
theorem dX12_go_75 : decode cX12_go 75 = .ok (.iload 6, 2) := dgX12_go_0 (75, (.iload 6, 2)) (List.mem_of_getElem? (i := 39) rfl)
theorem dgX12_go_1 : ∀ r ∈ ([(77, (.ifCond .ge 7, 3)), (80, (.iconst 0, 1)), (81, (.goto 5, 3)), (84, (.iload 6, 2)), (86, (.invokevirtual 160, 3)), (89, (.ifCond .ne 7, 3)), (92, (.iconst 1, 1)), (93, (.goto 4, 3)), (96, (.iconst 0, 1)), (97, (.istore 5, 2)), (99, (.iload 5, 2)), (101, (.ifCond .eq 63, 3)), (104, (.aload_n 0, 1)), (105, (.iload 6, 2)), (107, (.putfield 349, 3)), (110, (.aload_n 0, 1)), (111, (.getfield 82, 3)), (114, (.aload_n 0, 1)), (115, (.getfield 358, 3)), (118, (.bipush 64, 2)), (120, (.aload_n 0, 1)), (121, (.getfield 352, 3)), (124, (.imul, 1)), (125, (.aload_n 0, 1)), (126, (.getfield 349, 3)), (129, (.iadd, 1)), (130, (.iastore, 1)), (131, (.aload_n 0, 1)), (132, (.dup, 1)), (133, (.getfield 358, 3)), (136, (.iconst 1, 1)), (137, (.iadd, 1)), (138, (.putfield 358, 3)), (141, (.aload_n 0, 1)), (142, (.invokevirtual 377, 3)), (145, (.ifCond .eq 16, 3)), (148, (.aload_n 0, 1)), (149, (.iload 4, 2)), (151, (.invokevirtual 380, 3)), (154, (.ifCond .eq 7, 3))] : List (Nat × (Instr × Nat))), decode cX12_go r.1 = .ok r.2 := by decide +kernel
theorem dX12_go_77 : decode cX12_go 77 = .ok (.ifCond .ge 7, 3) := dgX12_go_1 (77, (.ifCond .ge 7, 3)) (List.mem_of_getElem? (i := 0) rfl)
theorem dX12_go_84 : decode cX12_go 84 = .ok (.iload 6, 2) := dgX12_go_1 (84, (.iload 6, 2)) (List.mem_of_getElem? (i := 3) rfl)
theorem dX12_go_86 : decode cX12_go 86 = .ok (.invokevirtual 160, 3) := dgX12_go_1 (86, (.invokevirtual 160, 3)) (List.mem_of_getElem? (i := 4) rfl)
theorem dX12_go_89 : decode cX12_go 89 = .ok (.ifCond .ne 7, 3) := dgX12_go_1 (89, (.ifCond .ne 7, 3)) (List.mem_of_getElem? (i := 5) rfl)
theorem dX12_go_92 : decode cX12_go 92 = .ok (.iconst 1, 1) := dgX12_go_1 (92, (.iconst 1, 1)) (List.mem_of_getElem? (i := 6) rfl)
theorem dX12_go_93 : decode cX12_go 93 = .ok (.goto 4, 3) := dgX12_go_1 (93, (.goto 4, 3)) (List.mem_of_getElem? (i := 7) rfl)
theorem dX12_go_96 : decode cX12_go 96 = .ok (.iconst 0, 1) := dgX12_go_1 (96, (.iconst 0, 1)) (List.mem_of_getElem? (i := 8) rfl)
theorem dX12_go_97 : decode cX12_go 97 = .ok (.istore 5, 2) := dgX12_go_1 (97, (.istore 5, 2)) (List.mem_of_getElem? (i := 9) rfl)
theorem dX12_go_99 : decode cX12_go 99 = .ok (.iload 5, 2) := dgX12_go_1 (99, (.iload 5, 2)) (List.mem_of_getElem? (i := 10) rfl)
theorem dX12_go_101 : decode cX12_go 101 = .ok (.ifCond .eq 63, 3) := dgX12_go_1 (101, (.ifCond .eq 63, 3)) (List.mem_of_getElem? (i := 11) rfl)
theorem dX12_go_104 : decode cX12_go 104 = .ok (.aload_n 0, 1) := dgX12_go_1 (104, (.aload_n 0, 1)) (List.mem_of_getElem? (i := 12) rfl)
theorem dX12_go_105 : decode cX12_go 105 = .ok (.iload 6, 2) := dgX12_go_1 (105, (.iload 6, 2)) (List.mem_of_getElem? (i := 13) rfl)
theorem dX12_go_107 : decode cX12_go 107 = .ok (.putfield 349, 3) := dgX12_go_1 (107, (.putfield 349, 3)) (List.mem_of_getElem? (i := 14) rfl)
theorem dX12_go_110 : decode cX12_go 110 = .ok (.aload_n 0, 1) := dgX12_go_1 (110, (.aload_n 0, 1)) (List.mem_of_getElem? (i := 15) rfl)
theorem dX12_go_111 : decode cX12_go 111 = .ok (.getfield 82, 3) := dgX12_go_1 (111, (.getfield 82, 3)) (List.mem_of_getElem? (i := 16) rfl)
theorem dX12_go_114 : decode cX12_go 114 = .ok (.aload_n 0, 1) := dgX12_go_1 (114, (.aload_n 0, 1)) (List.mem_of_getElem? (i := 17) rfl)
theorem dX12_go_115 : decode cX12_go 115 = .ok (.getfield 358, 3) := dgX12_go_1 (115, (.getfield 358, 3)) (List.mem_of_getElem? (i := 18) rfl)
theorem dX12_go_118 : decode cX12_go 118 = .ok (.bipush 64, 2) := dgX12_go_1 (118, (.bipush 64, 2)) (List.mem_of_getElem? (i := 19) rfl)
theorem dX12_go_120 : decode cX12_go 120 = .ok (.aload_n 0, 1) := dgX12_go_1 (120, (.aload_n 0, 1)) (List.mem_of_getElem? (i := 20) rfl)
theorem dX12_go_121 : decode cX12_go 121 = .ok (.getfield 352, 3) := dgX12_go_1 (121, (.getfield 352, 3)) (List.mem_of_getElem? (i := 21) rfl)
theorem dX12_go_124 : decode cX12_go 124 = .ok (.imul, 1) := dgX12_go_1 (124, (.imul, 1)) (List.mem_of_getElem? (i := 22) rfl)
theorem dX12_go_125 : decode cX12_go 125 = .ok (.aload_n 0, 1) := dgX12_go_1 (125, (.aload_n 0, 1)) (List.mem_of_getElem? (i := 23) rfl)
theorem dX12_go_126 : decode cX12_go 126 = .ok (.getfield 349, 3) := dgX12_go_1 (126, (.getfield 349, 3)) (List.mem_of_getElem? (i := 24) rfl)
theorem dX12_go_129 : decode cX12_go 129 = .ok (.iadd, 1) := dgX12_go_1 (129, (.iadd, 1)) (List.mem_of_getElem? (i := 25) rfl)
theorem dX12_go_130 : decode cX12_go 130 = .ok (.iastore, 1) := dgX12_go_1 (130, (.iastore, 1)) (List.mem_of_getElem? (i := 26) rfl)
theorem dX12_go_131 : decode cX12_go 131 = .ok (.aload_n 0, 1) := dgX12_go_1 (131, (.aload_n 0, 1)) (List.mem_of_getElem? (i := 27) rfl)
theorem dX12_go_132 : decode cX12_go 132 = .ok (.dup, 1) := dgX12_go_1 (132, (.dup, 1)) (List.mem_of_getElem? (i := 28) rfl)
theorem dX12_go_133 : decode cX12_go 133 = .ok (.getfield 358, 3) := dgX12_go_1 (133, (.getfield 358, 3)) (List.mem_of_getElem? (i := 29) rfl)
theorem dX12_go_136 : decode cX12_go 136 = .ok (.iconst 1, 1) := dgX12_go_1 (136, (.iconst 1, 1)) (List.mem_of_getElem? (i := 30) rfl)
theorem dX12_go_137 : decode cX12_go 137 = .ok (.iadd, 1) := dgX12_go_1 (137, (.iadd, 1)) (List.mem_of_getElem? (i := 31) rfl)
theorem dX12_go_138 : decode cX12_go 138 = .ok (.putfield 358, 3) := dgX12_go_1 (138, (.putfield 358, 3)) (List.mem_of_getElem? (i := 32) rfl)
theorem dX12_go_141 : decode cX12_go 141 = .ok (.aload_n 0, 1) := dgX12_go_1 (141, (.aload_n 0, 1)) (List.mem_of_getElem? (i := 33) rfl)
theorem dX12_go_142 : decode cX12_go 142 = .ok (.invokevirtual 377, 3) := dgX12_go_1 (142, (.invokevirtual 377, 3)) (List.mem_of_getElem? (i := 34) rfl)
theorem dX12_go_145 : decode cX12_go 145 = .ok (.ifCond .eq 16, 3) := dgX12_go_1 (145, (.ifCond .eq 16, 3)) (List.mem_of_getElem? (i := 35) rfl)
theorem dX12_go_148 : decode cX12_go 148 = .ok (.aload_n 0, 1) := dgX12_go_1 (148, (.aload_n 0, 1)) (List.mem_of_getElem? (i := 36) rfl)
theorem dX12_go_149 : decode cX12_go 149 = .ok (.iload 4, 2) := dgX12_go_1 (149, (.iload 4, 2)) (List.mem_of_getElem? (i := 37) rfl)
theorem dX12_go_151 : decode cX12_go 151 = .ok (.invokevirtual 380, 3) := dgX12_go_1 (151, (.invokevirtual 380, 3)) (List.mem_of_getElem? (i := 38) rfl)
theorem dX12_go_154 : decode cX12_go 154 = .ok (.ifCond .eq 7, 3) := dgX12_go_1 (154, (.ifCond .eq 7, 3)) (List.mem_of_getElem? (i := 39) rfl)
theorem dgX12_go_2 : ∀ r ∈ ([(157, (.iconst 1, 1)), (158, (.goto 4, 3)), (161, (.iconst 0, 1)), (162, (.istore 5, 2)), (164, (.goto (-124), 3)), (167, (.return_, 1))] : List (Nat × (Instr × Nat))), decode cX12_go r.1 = .ok r.2 := by decide +kernel
theorem dX12_go_157 : decode cX12_go 157 = .ok (.iconst 1, 1) := dgX12_go_2 (157, (.iconst 1, 1)) (List.mem_of_getElem? (i := 0) rfl)
theorem dX12_go_158 : decode cX12_go 158 = .ok (.goto 4, 3) := dgX12_go_2 (158, (.goto 4, 3)) (List.mem_of_getElem? (i := 1) rfl)
theorem dX12_go_161 : decode cX12_go 161 = .ok (.iconst 0, 1) := dgX12_go_2 (161, (.iconst 0, 1)) (List.mem_of_getElem? (i := 2) rfl)
theorem dX12_go_162 : decode cX12_go 162 = .ok (.istore 5, 2) := dgX12_go_2 (162, (.istore 5, 2)) (List.mem_of_getElem? (i := 3) rfl)
theorem dX12_go_164 : decode cX12_go 164 = .ok (.goto (-124), 3) := dgX12_go_2 (164, (.goto (-124), 3)) (List.mem_of_getElem? (i := 4) rfl)
theorem dX12_go_167 : decode cX12_go 167 = .ok (.return_, 1) := dgX12_go_2 (167, (.return_, 1)) (List.mem_of_getElem? (i := 5) rfl)
theorem ki_X12_367 : Cond.constant RX12 367 1000000 ∈ tblG := tg 1614 (by decide +kernel) (by decide +kernel)
theorem ml_X12_374 : Cond.methodLink RX12 374 yX12_beside ∈ tblG := tg 1615 (by decide +kernel) (by decide +kernel)
theorem st_X12_beside : Cond.static yX12_beside ∈ tblG := tg 1616 (by decide +kernel) (by decide +kernel)
theorem cd_X12_beside : Cond.code yX12_beside cX12_beside 2 (some .int) ∈ tblG := tg 1617 (by decide +kernel) (by decide +kernel)
theorem gW_X12_beside : GoodIn tblG (wsG yX12_beside cX12_beside 2 (some .int)) := tgi cd_X12_beside
theorem gS_X12_374 : GoodIn tblG (va_wsS RX12 374 yX12_beside (wsG yX12_beside cX12_beside 2 (some .int))) := tgS ml_X12_374 st_X12_beside ini_X12 gW_X12_beside
theorem hs_X12_beside : yX12_beside.cls ≠ "java/lang/invoke/MethodHandle" ∧ yX12_beside.cls ≠ "java/lang/invoke/VarHandle" ∧ (parseMethodDescriptor yX12_beside.desc).map (fun d => d.parameters.length) = some 2 := by decide +kernel
theorem fl_X12_82 : Cond.fieldLink RX12 82 "LateGlassModel" "point" "[I" ∈ tblG := tg 1241 (by decide +kernel) (by decide +kernel)
theorem ml_X12_377 : Cond.methodLink RX12 377 yX12_isFree ∈ tblG := tg 1618 (by decide +kernel) (by decide +kernel)
theorem im_X12_isFree : Cond.instanceMethod yX12_isFree ∈ tblG := tg 1620 (by decide +kernel) (by decide +kernel)
theorem se_X12_isFree : Cond.selects RX12 yX12_isFree yX12_isFree ∈ tblG := tg 63 (by decide +kernel) (by decide +kernel)
theorem cd_X12_isFree : Cond.code yX12_isFree cX12_isFree 2 (some .boolean) ∈ tblG := tg 1621 (by decide +kernel) (by decide +kernel)
theorem gW_X12_isFree : GoodIn tblG (wsG yX12_isFree cX12_isFree 2 (some .boolean)) := tgi cd_X12_isFree
theorem gV_X12_377 : GoodIn tblG (wsV RX12 377 RX12 yX12_isFree (wsG yX12_isFree cX12_isFree 2 (some .boolean))) := tgV ml_X12_377 im_X12_isFree se_X12_isFree ini_X12 gW_X12_isFree
theorem hv_X12_isFree : yX12_isFree.cls = RX12 ∧ yX12_isFree.cls ≠ "java/lang/invoke/MethodHandle" ∧ yX12_isFree.cls ≠ "java/lang/invoke/VarHandle" ∧ (parseMethodDescriptor yX12_isFree.desc).map (fun d => d.parameters.length) = some 0 := by decide +kernel
theorem ml_X12_380 : Cond.methodLink RX12 380 yX12_passes ∈ tblG := tg 1640 (by decide +kernel) (by decide +kernel)
theorem im_X12_passes : Cond.instanceMethod yX12_passes ∈ tblG := tg 1642 (by decide +kernel) (by decide +kernel)
theorem se_X12_passes : Cond.selects RX12 yX12_passes yX12_passes ∈ tblG := tg 68 (by decide +kernel) (by decide +kernel)
theorem cd_X12_passes : Cond.code yX12_passes cX12_passes 3 (some .boolean) ∈ tblG := tg 1643 (by decide +kernel) (by decide +kernel)
theorem gW_X12_passes : GoodIn tblG (wsG yX12_passes cX12_passes 3 (some .boolean)) := tgi cd_X12_passes
theorem gV_X12_380 : GoodIn tblG (wsV RX12 380 RX12 yX12_passes (wsG yX12_passes cX12_passes 3 (some .boolean))) := tgV ml_X12_380 im_X12_passes se_X12_passes ini_X12 gW_X12_passes
theorem hv_X12_passes : yX12_passes.cls = RX12 ∧ yX12_passes.cls ≠ "java/lang/invoke/MethodHandle" ∧ yX12_passes.cls ≠ "java/lang/invoke/VarHandle" ∧ (parseMethodDescriptor yX12_passes.desc).map (fun d => d.parameters.length) = some 1 := by decide +kernel
set_option maxHeartbeats 4000000 in
set_option maxRecDepth 100000 in
theorem n_go (l : Launch) (G : g5_G) (b_o b_ro b_se b_re b_pt b_rf b_im b_ke b_tp b_nl b_op b_ar b_pi b_pa b_ws b_hw b_ip b_ah b_be b_me b_tr b_ld b_wn : Nat) (sz : Nat) (u_th : Int32) (u_sa : Int32) (u_fd : Int32) (u_td : Int32) (u_fr : Int32) (u_to : Int32) (u_so : Int32) (u_fa : Int32) (u_bd : Int32) (u_nc : Int32) (u_co : Int32) (u_le : Int32) (u_pd : Int32) (u_od : Int32) (u_la : Int32) (u_bk : Int32) (u_ce : Int32) (u_ho : Int32) (u_wy : Int32) (u_bt : Int32) (u_ps : Int32) (u_tg : Int32) (u_sn : Int32) (u_ic : Int32) (u_wd : Int32) (u_id : Int32) (p_1 : Int32) (p_2 : Int32) (p_3 : Int32) (p_4 : Int32) (u_wo : Int64) (u_va : Int64) (u_su : Int64) (u_st : Int64) (v_ro : Nat → Int32) (v_se : Nat → Int64) (v_re : Nat → Int64) (v_pt : Nat → Int32) (h_u_td : 0 ≤ u_td.toInt ∧ u_td.toInt ≤ 400) (h_u_fr : 0 ≤ u_fr.toInt ∧ u_fr.toInt ≤ 400) (h_u_to : 0 ≤ u_to.toInt ∧ u_to.toInt ≤ 400) (h_u_bd : 0 ≤ u_bd.toInt ∧ u_bd.toInt ≤ 1) (h_u_nc : 0 ≤ u_nc.toInt ∧ u_nc.toInt ≤ 12) (h_u_co : 0 ≤ u_co.toInt ∧ u_co.toInt ≤ 400) (h_u_pd : 0 ≤ u_pd.toInt ∧ u_pd.toInt ≤ 400) (h_u_la : 0 ≤ u_la.toInt ∧ u_la.toInt ≤ 4840) (h_u_bk : 0 ≤ u_bk.toInt ∧ u_bk.toInt ≤ 1) (h_u_ce : 0 ≤ u_ce.toInt ∧ u_ce.toInt ≤ 63) (h_u_ho : 0 ≤ u_ho.toInt ∧ u_ho.toInt ≤ 23) (h_u_wy : 0 ≤ u_wy.toInt ∧ u_wy.toInt ≤ 3) (h_u_bt : 0 ≤ u_bt.toInt ∧ u_bt.toInt ≤ 1000000) (h_u_ps : 0 ≤ u_ps.toInt ∧ u_ps.toInt ≤ 200) (h_u_ic : 0 ≤ u_ic.toInt ∧ u_ic.toInt ≤ 1) (h_u_id : 0 ≤ u_id.toInt ∧ u_id.toInt ≤ 1) (h_p_1 : 0 ≤ p_1.toInt ∧ p_1.toInt ≤ 63) (h_p_2 : 0 ≤ p_2.toInt ∧ p_2.toInt ≤ 3) (h_p_3 : 0 ≤ p_3.toInt ∧ p_3.toInt ≤ 23) (r_ro : MI v_ro) (r_pt : PTI v_pt) : Met l yX12_go (wsG yX12_go cX12_go 7 none) ({ frames := 6, cells := 0, slots := 0, locals := 150 }) (va_Pc [.ref b_o, .int p_1, .int p_2, .int p_3, .int p_4] (g5_P G [(b_o, (oc12 u_th u_sa b_rf b_ro b_im b_ke u_fd b_tp u_td u_fr u_to u_so u_wo u_fa u_bd u_nc b_nl u_co b_op b_ar u_le b_pi b_pa u_pd u_od b_ws b_hw u_la b_se b_re u_bk u_va u_su u_ce u_ho u_wy u_bt u_ps b_pt u_tg u_sn b_ip u_ic b_ah b_be b_me u_wd b_tr b_ld u_st b_wn u_id)), (b_ro, (arI G 5740 v_ro)), (b_se, (arJ G 13 v_se)), (b_re, (arJ G 400 v_re)), (b_pt, (arI G 200 v_pt))] sz)) (va_Qv (fun (u : va_W) => (∃ (o_la : Int32) (o_bk : Int32) (o_va : Int64) (o_su : Int64) (o_ce : Int32) (o_ho : Int32) (o_wy : Int32) (o_bt : Int32) (o_ps : Int32) (o_tg : Int32) (o_sn : Int32) (o_se : Nat → Int64) (o_re : Nat → Int64) (o_pt : Nat → Int32), (0 ≤ o_la.toInt ∧ o_la.toInt ≤ 4840) ∧ (0 ≤ o_bk.toInt ∧ o_bk.toInt ≤ 1) ∧ (0 ≤ o_ce.toInt ∧ o_ce.toInt ≤ 63) ∧ (0 ≤ o_ho.toInt ∧ o_ho.toInt ≤ 23) ∧ (0 ≤ o_wy.toInt ∧ o_wy.toInt ≤ 3) ∧ (0 ≤ o_bt.toInt ∧ o_bt.toInt ≤ 1000000) ∧ (0 ≤ o_ps.toInt ∧ o_ps.toInt ≤ 200) ∧ (PTI o_pt) ∧ (u = [(b_o, (oc12 u_th u_sa b_rf b_ro b_im b_ke u_fd b_tp u_td u_fr u_to u_so u_wo u_fa u_bd u_nc b_nl u_co b_op b_ar u_le b_pi b_pa u_pd u_od b_ws b_hw o_la b_se b_re o_bk o_va o_su o_ce o_ho o_wy o_bt o_ps b_pt o_tg o_sn b_ip u_ic b_ah b_be b_me u_wd b_tr b_ld u_st b_wn u_id)), (b_ro, (arI G 5740 v_ro)), (b_se, (arJ G 13 o_se)), (b_re, (arJ G 400 o_re)), (b_pt, (arI G 200 o_pt))]))) (g5_B G (va_A [(b_o, (oc12 u_th u_sa b_rf b_ro b_im b_ke u_fd b_tp u_td u_fr u_to u_so u_wo u_fa u_bd u_nc b_nl u_co b_op b_ar u_le b_pi b_pa u_pd u_od b_ws b_hw u_la b_se b_re u_bk u_va u_su u_ce u_ho u_wy u_bt u_ps b_pt u_tg u_sn b_ip u_ic b_ah b_be b_me u_wd b_tr b_ld u_st b_wn u_id)), (b_ro, (arI G 5740 v_ro)), (b_se, (arJ G 13 v_se)), (b_re, (arJ G 400 v_re)), (b_pt, (arI G 200 v_pt))] sz)) (va_A [(b_o, (oc12 u_th u_sa b_rf b_ro b_im b_ke u_fd b_tp u_td u_fr u_to u_so u_wo u_fa u_bd u_nc b_nl u_co b_op b_ar u_le b_pi b_pa u_pd u_od b_ws b_hw u_la b_se b_re u_bk u_va u_su u_ce u_ho u_wy u_bt u_ps b_pt u_tg u_sn b_ip u_ic b_ah b_be b_me u_wd b_tr b_ld u_st b_wn u_id)), (b_ro, (arI G 5740 v_ro)), (b_se, (arJ G 13 v_se)), (b_re, (arJ G 400 v_re)), (b_pt, (arI G 200 v_pt))] sz)) 0 0 (va_A [(b_o, (oc12 u_th u_sa b_rf b_ro b_im b_ke u_fd b_tp u_td u_fr u_to u_so u_wo u_fa u_bd u_nc b_nl u_co b_op b_ar u_le b_pi b_pa u_pd u_od b_ws b_hw u_la b_se b_re u_bk u_va u_su u_ce u_ho u_wy u_bt u_ps b_pt u_tg u_sn b_ip u_ic b_ah b_be b_me u_wd b_tr b_ld u_st b_wn u_id)), (b_ro, (arI G 5740 v_ro)), (b_se, (arJ G 13 v_se)), (b_re, (arJ G 400 v_re)), (b_pt, (arI G 200 v_pt))] sz) := by
  refine Met.ofW (cc := cX12_go) (maxL := 7) (ret := none) (by decide +kernel) rfl ?_
  intro p e s m args below meth c s₁ B hml hv
  obtain ⟨rfl, hsz, hP, hK, hD0, hN, hT⟩ := hv
  have hx := B.exec
  have hb := B.bytes
  have hr := B.returns
  have hts : ∀ w ∈ tblG, w.before _ s = true := fun w h => atoms_spec (ws := (wsG yX12_go cX12_go 7 none)) B.pre w (List.mem_cons_of_mem _ h)
  have hown : s.vm.findClass RX12 = some m.cls := findClass_of_methodNamed B.named
  have hlocks := B.notSynchronized
  subst hsz
  have hD := hD0.self (sz := s.heap.size)
  generalize hAe : va_A [(b_o, (oc12 u_th u_sa b_rf b_ro b_im b_ke u_fd b_tp u_td u_fr u_to u_so u_wo u_fa u_bd u_nc b_nl u_co b_op b_ar u_le b_pi b_pa u_pd u_od b_ws b_hw u_la b_se b_re u_bk u_va u_su u_ce u_ho u_wy u_bt u_ps b_pt u_tg u_sn b_ip u_ic b_ah b_be b_me u_wd b_tr b_ld u_st b_wn u_id)), (b_ro, (arI G 5740 v_ro)), (b_se, (arJ G 13 v_se)), (b_re, (arJ G 400 v_re)), (b_pt, (arI G 200 v_pt))] s.heap.size = A at hD hT ⊢
  have hA : ∀ q : Nat, s.heap.size ≤ q → A q := fun q h => by rw [← hAe]; exact Or.inr h
  have hS : va_S A s.heap s.heap [] := va_S.rf
  replace hP : va_P G.1 vwCl [(b_o, (oc12 u_th u_sa b_rf b_ro b_im b_ke u_fd b_tp u_td u_fr u_to u_so u_wo u_fa u_bd u_nc b_nl u_co b_op b_ar u_le b_pi b_pa u_pd u_od b_ws b_hw u_la b_se b_re u_bk u_va u_su u_ce u_ho u_wy u_bt u_ps b_pt u_tg u_sn b_ip u_ic b_ah b_be b_me u_wd b_tr b_ld u_st b_wn u_id)), (b_ro, (arI G 5740 v_ro)), (b_se, (arJ G 13 v_se)), (b_re, (arJ G 400 v_re)), (b_pt, (arI G 200 v_pt))] s.heap := hP
  have hl := lv_entry ([.ref b_o, .int p_1, .int p_2, .int p_3, .int p_4]) (n := 7) (Nat.le_of_ble_eq_true rfl)
  rw [lg_entry_eq]
  generalize (lg_sl ([.ref b_o, .int p_1, .int p_2, .int p_3, .int p_4]) ++ List.replicate (7 - (lg_sl ([.ref b_o, .int p_1, .int p_2, .int p_3, .int p_4])).length) Slot.unset).toArray = ls at hl ⊢
  replace hl : lv_has ls 7 [(0, .ref b_o), (1, .int p_1), (2, .int p_2), (3, .int p_3), (4, .int p_4)] := hl
  refine lv_aload_n hx hb dX12_go_0 rfl (lv_at hl 0 rfl) ?_
  refine lv_iload_n hx hb dX12_go_1 rfl (lv_at hl 1 rfl) ?_
  refine va_put (D := G.1) (ci := 12) (v := .int p_1) (ty := .int) (C := RX12) (T := TX12) (N := 52) hx hb hts inG_X12 tyX12 tyX12_ok nmX12 hown hK hP hD hS 0 rfl rfl 33 (by decide +kernel) (hts _ fl_X12_349) (fun _ h9 => h9) rfl (by decide +kernel) rfl rfl (Nat.le_of_ble_eq_true rfl) dX12_go_2 ?_
  clear hP hD hS
  intro H locs hP hD hS
  refine g5_rs [(b_o, (oc12 u_th u_sa b_rf b_ro b_im b_ke u_fd b_tp u_td u_fr u_to u_so u_wo u_fa u_bd u_nc b_nl u_co b_op b_ar u_le b_pi b_pa u_pd u_od b_ws b_hw u_la b_se b_re u_bk u_va u_su p_1 u_ho u_wy u_bt u_ps b_pt u_tg u_sn b_ip u_ic b_ah b_be b_me u_wd b_tr b_ld u_st b_wn u_id)), (b_ro, (arI G 5740 v_ro)), (b_se, (arJ G 13 v_se)), (b_re, (arJ G 400 v_re)), (b_pt, (arI G 200 v_pt))] hP hD ?_
  clear hP hD
  intro hP hD
  refine lv_aload_n hx hb dX12_go_5 rfl (lv_at hl 0 rfl) ?_
  refine lv_iload_n hx hb dX12_go_6 rfl (lv_at hl 2 rfl) ?_
  refine va_put (D := G.1) (ci := 12) (v := .int p_2) (ty := .int) (C := RX12) (T := TX12) (N := 52) hx hb hts inG_X12 tyX12 tyX12_ok nmX12 hown hK hP hD hS 0 rfl rfl 35 (by decide +kernel) (hts _ fl_X12_355) (fun _ h9 => h9) rfl (by decide +kernel) rfl rfl (Nat.le_of_ble_eq_true rfl) dX12_go_7 ?_
  clear hP hD hS
  intro H locs hP hD hS
  refine g5_rs [(b_o, (oc12 u_th u_sa b_rf b_ro b_im b_ke u_fd b_tp u_td u_fr u_to u_so u_wo u_fa u_bd u_nc b_nl u_co b_op b_ar u_le b_pi b_pa u_pd u_od b_ws b_hw u_la b_se b_re u_bk u_va u_su p_1 u_ho p_2 u_bt u_ps b_pt u_tg u_sn b_ip u_ic b_ah b_be b_me u_wd b_tr b_ld u_st b_wn u_id)), (b_ro, (arI G 5740 v_ro)), (b_se, (arJ G 13 v_se)), (b_re, (arJ G 400 v_re)), (b_pt, (arI G 200 v_pt))] hP hD ?_
  clear hP hD
  intro hP hD
  refine lv_aload_n hx hb dX12_go_10 rfl (lv_at hl 0 rfl) ?_
  refine lv_iload_n hx hb dX12_go_11 rfl (lv_at hl 3 rfl) ?_
  refine va_put (D := G.1) (ci := 12) (v := .int p_3) (ty := .int) (C := RX12) (T := TX12) (N := 52) hx hb hts inG_X12 tyX12 tyX12_ok nmX12 hown hK hP hD hS 0 rfl rfl 34 (by decide +kernel) (hts _ fl_X12_352) (fun _ h9 => h9) rfl (by decide +kernel) rfl rfl (Nat.le_of_ble_eq_true rfl) dX12_go_12 ?_
  clear hP hD hS
  intro H locs hP hD hS
  refine g5_rs [(b_o, (oc12 u_th u_sa b_rf b_ro b_im b_ke u_fd b_tp u_td u_fr u_to u_so u_wo u_fa u_bd u_nc b_nl u_co b_op b_ar u_le b_pi b_pa u_pd u_od b_ws b_hw u_la b_se b_re u_bk u_va u_su p_1 p_3 p_2 u_bt u_ps b_pt u_tg u_sn b_ip u_ic b_ah b_be b_me u_wd b_tr b_ld u_st b_wn u_id)), (b_ro, (arI G 5740 v_ro)), (b_se, (arJ G 13 v_se)), (b_re, (arJ G 400 v_re)), (b_pt, (arI G 200 v_pt))] hP hD ?_
  clear hP hD
  intro hP hD
  refine lv_aload_n hx hb dX12_go_15 rfl (lv_at hl 0 rfl) ?_
  refine lv_ldcw (v := 1000000) hx hb hown (hts _ ki_X12_367) dX12_go_16 ?_
  refine va_put (D := G.1) (ci := 12) (v := .int 1000000) (ty := .int) (C := RX12) (T := TX12) (N := 52) hx hb hts inG_X12 tyX12 tyX12_ok nmX12 hown hK hP hD hS 0 rfl rfl 36 (by decide +kernel) (hts _ fl_X12_361) (fun _ h9 => h9) rfl (by decide +kernel) rfl rfl (Nat.le_of_ble_eq_true rfl) dX12_go_19 ?_
  clear hP hD hS
  intro H locs hP hD hS
  refine g5_rs [(b_o, (oc12 u_th u_sa b_rf b_ro b_im b_ke u_fd b_tp u_td u_fr u_to u_so u_wo u_fa u_bd u_nc b_nl u_co b_op b_ar u_le b_pi b_pa u_pd u_od b_ws b_hw u_la b_se b_re u_bk u_va u_su p_1 p_3 p_2 1000000 u_ps b_pt u_tg u_sn b_ip u_ic b_ah b_be b_me u_wd b_tr b_ld u_st b_wn u_id)), (b_ro, (arI G 5740 v_ro)), (b_se, (arJ G 13 v_se)), (b_re, (arJ G 400 v_re)), (b_pt, (arI G 200 v_pt))] hP hD ?_
  clear hP hD
  intro hP hD
  refine lv_aload_n hx hb dX12_go_22 rfl (lv_at hl 0 rfl) ?_
  refine lv_iconst (v := 0) hx hb dX12_go_23 (by decide +kernel) ?_
  refine va_put (D := G.1) (ci := 12) (v := .int 0) (ty := .int) (C := RX12) (T := TX12) (N := 52) hx hb hts inG_X12 tyX12 tyX12_ok nmX12 hown hK hP hD hS 0 rfl rfl 37 (by decide +kernel) (hts _ fl_X12_358) (fun _ h9 => h9) rfl (by decide +kernel) rfl rfl (Nat.le_of_ble_eq_true rfl) dX12_go_24 ?_
  clear hP hD hS
  intro H locs hP hD hS
  refine g5_rs [(b_o, (oc12 u_th u_sa b_rf b_ro b_im b_ke u_fd b_tp u_td u_fr u_to u_so u_wo u_fa u_bd u_nc b_nl u_co b_op b_ar u_le b_pi b_pa u_pd u_od b_ws b_hw u_la b_se b_re u_bk u_va u_su p_1 p_3 p_2 1000000 0 b_pt u_tg u_sn b_ip u_ic b_ah b_be b_me u_wd b_tr b_ld u_st b_wn u_id)), (b_ro, (arI G 5740 v_ro)), (b_se, (arJ G 13 v_se)), (b_re, (arJ G 400 v_re)), (b_pt, (arI G 200 v_pt))] hP hD ?_
  clear hP hD
  intro hP hD
  refine lv_aload_n hx hb dX12_go_27 rfl (lv_at hl 0 rfl) ?_
  refine lv_iconst (v := 0) hx hb dX12_go_28 (by decide +kernel) ?_
  refine va_put (D := G.1) (ci := 12) (v := .int 0) (ty := .int) (C := RX12) (T := TX12) (N := 52) hx hb hts inG_X12 tyX12 tyX12_ok nmX12 hown hK hP hD hS 0 rfl rfl 39 (by decide +kernel) (hts _ fl_X12_368) (fun _ h9 => h9) rfl (by decide +kernel) rfl rfl (Nat.le_of_ble_eq_true rfl) dX12_go_29 ?_
  clear hP hD hS
  intro H locs hP hD hS
  refine g5_rs [(b_o, (oc12 u_th u_sa b_rf b_ro b_im b_ke u_fd b_tp u_td u_fr u_to u_so u_wo u_fa u_bd u_nc b_nl u_co b_op b_ar u_le b_pi b_pa u_pd u_od b_ws b_hw u_la b_se b_re u_bk u_va u_su p_1 p_3 p_2 1000000 0 b_pt 0 u_sn b_ip u_ic b_ah b_be b_me u_wd b_tr b_ld u_st b_wn u_id)), (b_ro, (arI G 5740 v_ro)), (b_se, (arJ G 13 v_se)), (b_re, (arJ G 400 v_re)), (b_pt, (arI G 200 v_pt))] hP hD ?_
  clear hP hD
  intro hP hD
  refine lv_aload_n hx hb dX12_go_32 rfl (lv_at hl 0 rfl) ?_
  refine lv_iconst (v := (-1)) hx hb dX12_go_33 (by decide +kernel) ?_
  refine va_put (D := G.1) (ci := 12) (v := .int (-1)) (ty := .int) (C := RX12) (T := TX12) (N := 52) hx hb hts inG_X12 tyX12 tyX12_ok nmX12 hown hK hP hD hS 0 rfl rfl 40 (by decide +kernel) (hts _ fl_X12_371) (fun _ h9 => h9) rfl (by decide +kernel) rfl rfl (Nat.le_of_ble_eq_true rfl) dX12_go_34 ?_
  clear hP hD hS
  intro H locs hP hD hS
  refine g5_rs [(b_o, (oc12 u_th u_sa b_rf b_ro b_im b_ke u_fd b_tp u_td u_fr u_to u_so u_wo u_fa u_bd u_nc b_nl u_co b_op b_ar u_le b_pi b_pa u_pd u_od b_ws b_hw u_la b_se b_re u_bk u_va u_su p_1 p_3 p_2 1000000 0 b_pt 0 (-1) b_ip u_ic b_ah b_be b_me u_wd b_tr b_ld u_st b_wn u_id)), (b_ro, (arI G 5740 v_ro)), (b_se, (arJ G 13 v_se)), (b_re, (arJ G 400 v_re)), (b_pt, (arI G 200 v_pt))] hP hD ?_
  clear hP hD
  intro hP hD
  refine lv_iconst (v := 1) hx hb dX12_go_37 (by decide +kernel) ?_
  refine lv_istore (lv' := [(5, .int 1), (0, .ref b_o), (1, .int p_1), (2, .int p_2), (3, .int p_3), (4, .int p_4)]) hx hb dX12_go_38 hl (by decide +kernel) rfl ?_
  clear hl
  intro ls hl
  refine g5_loop (α := (Int32) × (Int32) × (Int32) × (Int64) × (Int64) × (Int32) × (Int32) × (Int32) × (Int32) × (Int32) × (Int32) × (Int32) × (Nat → Int64) × (Nat → Int64) × (Nat → Int32)) (fun (q : (Int32) × (Int32) × (Int32) × (Int64) × (Int64) × (Int32) × (Int32) × (Int32) × (Int32) × (Int32) × (Int32) × (Int32) × (Nat → Int64) × (Nat → Int64) × (Nat → Int32)) (ls : Array Slot) (H : Heap) (locs : List Loc) => match q with | (k40_5, k40_la, k40_bk, k40_va, k40_su, k40_ce, k40_ho, k40_wy, k40_bt, k40_ps, k40_tg, k40_sn, k40_se, k40_re, k40_pt) => lv_has ls 7 [(5, .int k40_5), (0, .ref b_o), (1, .int p_1), (2, .int p_2), (3, .int p_3), (4, .int p_4)] ∧ va_P G.1 vwCl [(b_o, (oc12 u_th u_sa b_rf b_ro b_im b_ke u_fd b_tp u_td u_fr u_to u_so u_wo u_fa u_bd u_nc b_nl u_co b_op b_ar u_le b_pi b_pa u_pd u_od b_ws b_hw k40_la b_se b_re k40_bk k40_va k40_su k40_ce k40_ho k40_wy k40_bt k40_ps b_pt k40_tg k40_sn b_ip u_ic b_ah b_be b_me u_wd b_tr b_ld u_st b_wn u_id)), (b_ro, (arI G 5740 v_ro)), (b_se, (arJ G 13 k40_se)), (b_re, (arJ G 400 k40_re)), (b_pt, (arI G 200 k40_pt))] H ∧ va_D A [(b_o, (oc12 u_th u_sa b_rf b_ro b_im b_ke u_fd b_tp u_td u_fr u_to u_so u_wo u_fa u_bd u_nc b_nl u_co b_op b_ar u_le b_pi b_pa u_pd u_od b_ws b_hw k40_la b_se b_re k40_bk k40_va k40_su k40_ce k40_ho k40_wy k40_bt k40_ps b_pt k40_tg k40_sn b_ip u_ic b_ah b_be b_me u_wd b_tr b_ld u_st b_wn u_id)), (b_ro, (arI G 5740 v_ro)), (b_se, (arJ G 13 k40_se)), (b_re, (arJ G 400 k40_re)), (b_pt, (arI G 200 k40_pt))] ∧ va_S A s.heap H locs ∧ (0 ≤ k40_5.toInt ∧ k40_5.toInt ≤ 1) ∧ (0 ≤ k40_la.toInt ∧ k40_la.toInt ≤ 4840) ∧ (0 ≤ k40_bk.toInt ∧ k40_bk.toInt ≤ 1) ∧ (0 ≤ k40_ce.toInt ∧ k40_ce.toInt ≤ 63) ∧ (0 ≤ k40_ho.toInt ∧ k40_ho.toInt ≤ 23) ∧ (0 ≤ k40_wy.toInt ∧ k40_wy.toInt ≤ 3) ∧ (0 ≤ k40_bt.toInt ∧ k40_bt.toInt ≤ 1000000) ∧ (0 ≤ k40_ps.toInt ∧ k40_ps.toInt ≤ 200) ∧ (PTI k40_pt)) (fun (q : (Int32) × (Int32) × (Int32) × (Int64) × (Int64) × (Int32) × (Int32) × (Int32) × (Int32) × (Int32) × (Int32) × (Int32) × (Nat → Int64) × (Nat → Int64) × (Nat → Int32)) => match q with | (k40_5, k40_la, k40_bk, k40_va, k40_su, k40_ce, k40_ho, k40_wy, k40_bt, k40_ps, k40_tg, k40_sn, k40_se, k40_re, k40_pt) => Int.toNat (2 * (200 - k40_ps.toInt) + k40_5.toInt)) (1, u_la, u_bk, u_va, u_su, p_1, p_3, p_2, 1000000, 0, 0, (-1), v_se, v_re, v_pt) ⟨lv_sub hl [0, 1, 2, 3, 4, 5] rfl, hP, hD, hS, ⟨by decide, by decide⟩, h_u_la, h_u_bk, h_p_1, h_p_3, h_p_2, ⟨by decide, by decide⟩, ⟨by decide, by decide⟩, r_pt⟩ ?_
  rintro ⟨k40_5, k40_la, k40_bk, k40_va, k40_su, k40_ce, k40_ho, k40_wy, k40_bt, k40_ps, k40_tg, k40_sn, k40_se, k40_re, k40_pt⟩ ls H locs ⟨hl, hP, hD, hS, (i_1 : 0 ≤ k40_5.toInt ∧ k40_5.toInt ≤ 1), (i_2 : 0 ≤ k40_la.toInt ∧ k40_la.toInt ≤ 4840), (i_3 : 0 ≤ k40_bk.toInt ∧ k40_bk.toInt ≤ 1), (i_4 : 0 ≤ k40_ce.toInt ∧ k40_ce.toInt ≤ 63), (i_5 : 0 ≤ k40_ho.toInt ∧ k40_ho.toInt ≤ 23), (i_6 : 0 ≤ k40_wy.toInt ∧ k40_wy.toInt ≤ 3), (i_7 : 0 ≤ k40_bt.toInt ∧ k40_bt.toInt ≤ 1000000), (i_8 : 0 ≤ k40_ps.toInt ∧ k40_ps.toInt ≤ 200), (i_9 : PTI k40_pt)⟩ ih_40_10
  replace hl : lv_has ls 7 [(5, .int k40_5), (0, .ref b_o), (1, .int p_1), (2, .int p_2), (3, .int p_3), (4, .int p_4)] := hl
  refine g5_rs [(b_o, (oc12 u_th u_sa b_rf b_ro b_im b_ke u_fd b_tp u_td u_fr u_to u_so u_wo u_fa u_bd u_nc b_nl u_co b_op b_ar u_le b_pi b_pa u_pd u_od b_ws b_hw k40_la b_se b_re k40_bk k40_va k40_su k40_ce k40_ho k40_wy k40_bt k40_ps b_pt k40_tg k40_sn b_ip u_ic b_ah b_be b_me u_wd b_tr b_ld u_st b_wn u_id)), (b_ro, (arI G 5740 v_ro)), (b_se, (arJ G 13 k40_se)), (b_re, (arJ G 400 k40_re)), (b_pt, (arI G 200 k40_pt))] hP hD ?_
  clear hP hD
  intro hP hD
  refine lv_iload hx hb dX12_go_40 (lv_at hl 0 rfl) ?_
  refine lv_if_eq (tgt := 167) hx hb dX12_go_42 (by decide +kernel) (fun c_11 => ?_) (fun c_11 => ?_)
  ·
    have i_11 : k40_5.toInt = 0 := g5_eq (a := k40_5.toInt) (b := 0) rfl (by decide +kernel) c_11
    exact W.vret hx hb hr (fun t ht hW => ⟨⟨[(b_o, (oc12 u_th u_sa b_rf b_ro b_im b_ke u_fd b_tp u_td u_fr u_to u_so u_wo u_fa u_bd u_nc b_nl u_co b_op b_ar u_le b_pi b_pa u_pd u_od b_ws b_hw k40_la b_se b_re k40_bk k40_va k40_su k40_ce k40_ho k40_wy k40_bt k40_ps b_pt k40_tg k40_sn b_ip u_ic b_ah b_be b_me u_wd b_tr b_ld u_st b_wn u_id)), (b_ro, (arI G 5740 v_ro)), (b_se, (arJ G 13 k40_se)), (b_re, (arJ G 400 k40_re)), (b_pt, (arI G 200 k40_pt))], rfl, ⟨k40_la, k40_bk, k40_va, k40_su, k40_ce, k40_ho, k40_wy, k40_bt, k40_ps, k40_tg, k40_sn, k40_se, k40_re, k40_pt, i_2, i_3, i_4, i_5, i_6, i_7, i_8, i_9, rfl⟩, by rw [ht]; exact hP.sub [0, 1, 2, 3, 4] rfl, hD.sub [0, 1, 2, 3, 4] (by decide +kernel) rfl⟩, hS.F ht⟩) hS.2.2 dX12_go_167
  ·
    have n_11 : gNe (k40_5.toInt) (0) := g5_eqN (a := k40_5.toInt) (b := 0) rfl (by decide +kernel) c_11
    have i_11 : k40_5.toInt ≥ 1 := by have z := g5_eqN (a := k40_5.toInt) (b := 0) (by rfl) (by decide +kernel) c_11; omega
    refine lv_aload_n hx hb dX12_go_45 rfl (lv_at hl 1 rfl) ?_
    refine va_get (D := G.1) (ci := 12) (v := .int k40_ps) (C := RX12) (T := TX12) (N := 52) hx hb hts inG_X12 hown hK hP 0 rfl rfl 37 (by decide +kernel) (hts _ fl_X12_358) (fun _ h9 => h9) rfl dX12_go_46 ?_
    refine lv_sipush (v := 200) hx hb dX12_go_49 (by decide +kernel) ?_
    refine lv_icmp_ge (tgt := 167) hx hb dX12_go_52 (by decide +kernel) (fun c_12 => ?_) (fun c_12 => ?_)
    ·
      have i_12 : k40_ps.toInt ≥ 200 := g5_ge (a := k40_ps.toInt) (b := 200) rfl (by decide +kernel) c_12
      exact W.vret hx hb hr (fun t ht hW => ⟨⟨[(b_o, (oc12 u_th u_sa b_rf b_ro b_im b_ke u_fd b_tp u_td u_fr u_to u_so u_wo u_fa u_bd u_nc b_nl u_co b_op b_ar u_le b_pi b_pa u_pd u_od b_ws b_hw k40_la b_se b_re k40_bk k40_va k40_su k40_ce k40_ho k40_wy k40_bt k40_ps b_pt k40_tg k40_sn b_ip u_ic b_ah b_be b_me u_wd b_tr b_ld u_st b_wn u_id)), (b_ro, (arI G 5740 v_ro)), (b_se, (arJ G 13 k40_se)), (b_re, (arJ G 400 k40_re)), (b_pt, (arI G 200 k40_pt))], rfl, ⟨k40_la, k40_bk, k40_va, k40_su, k40_ce, k40_ho, k40_wy, k40_bt, k40_ps, k40_tg, k40_sn, k40_se, k40_re, k40_pt, i_2, i_3, i_4, i_5, i_6, i_7, i_8, i_9, rfl⟩, by rw [ht]; exact hP.sub [0, 1, 2, 3, 4] rfl, hD.sub [0, 1, 2, 3, 4] (by decide +kernel) rfl⟩, hS.F ht⟩) hS.2.2 dX12_go_167
    ·
      have i_12 : k40_ps.toInt < 200 := g5_geN (a := k40_ps.toInt) (b := 200) rfl (by decide +kernel) c_12
      refine lv_aload_n hx hb dX12_go_55 rfl (lv_at hl 1 rfl) ?_
      refine va_get (D := G.1) (ci := 12) (v := .int k40_ce) (C := RX12) (T := TX12) (N := 52) hx hb hts inG_X12 hown hK hP 0 rfl rfl 33 (by decide +kernel) (hts _ fl_X12_349) (fun _ h9 => h9) rfl dX12_go_56 ?_
      refine lv_aload_n hx hb dX12_go_59 rfl (lv_at hl 1 rfl) ?_
      refine va_get (D := G.1) (ci := 12) (v := .int k40_wy) (C := RX12) (T := TX12) (N := 52) hx hb hts inG_X12 hown hK hP 0 rfl rfl 35 (by decide +kernel) (hts _ fl_X12_355) (fun _ h9 => h9) rfl dX12_go_60 ?_
      obtain ⟨hPc, hDc, hFc⟩ := g5_sub3 (wc := []) hP hD hS hA [] (by decide +kernel) rfl
      refine va_calli (va_runS (As := [.int k40_ce, .int k40_wy]) (rest := []) ⟨hx, hb, hml, hown, hts⟩ (n_beside l G H.size k40_ce k40_wy i_4) (va_cwS 2 hts gS_X12_374 rfl rfl rfl hs_X12_beside ⟨Nat.le_of_ble_eq_true rfl, Nat.le_of_ble_eq_true rfl⟩) (g5_preS hPc hK hDc hN hT hS hFc) rfl rfl hl.1 rfl (lv_room (Nat.le_of_ble_eq_true rfl)) dX12_go_63 ⟨Nat.le_of_ble_eq_true rfl, Nat.le_of_ble_eq_true rfl⟩) hS (fun q _ h => hFc q h) hFc (fun r u t H locs ht hvm hw hB hz1 hk1 hS => ?_)
      obtain ⟨hP1, hD1⟩ := hB
      have hP1 := g5_ht ht hP1
      obtain ⟨z14, (i_13 : -1 ≤ z14.toInt ∧ z14.toInt ≤ 63), y15, rfl⟩ := hw
      have hJ9 := g5_same hP hk1
      clear hP hPc hDc hFc ht hvm hz1 hk1 hP1 hD1
      have hP := hJ9
      clear hJ9
      refine g5_ti (v := z14) y15 ?_
      refine lv_istore (lv' := [(6, .int z14), (5, .int k40_5), (0, .ref b_o), (1, .int p_1), (2, .int p_2), (3, .int p_3), (4, .int p_4)]) hx hb dX12_go_66 hl (by decide +kernel) rfl ?_
      clear hl
      intro ls hl
      refine lv_iload hx hb dX12_go_68 (lv_at hl 0 rfl) ?_
      refine lv_iconst (v := (-1)) hx hb dX12_go_70 (by decide +kernel) ?_
      refine lv_icmp_eq (tgt := 96) hx hb dX12_go_71 (by decide +kernel) (fun c_16 => ?_) (fun c_16 => ?_)
      ·
        have i_16 : z14.toInt = (-1) := g5_eq (a := z14.toInt) (b := (-1)) rfl (by decide +kernel) c_16
        refine lv_iconst (v := 0) hx hb dX12_go_96 (by decide +kernel) ?_
        refine lv_istore (lv' := [(5, .int 0), (6, .int z14), (0, .ref b_o), (1, .int p_1), (2, .int p_2), (3, .int p_3), (4, .int p_4)]) hx hb dX12_go_97 hl (by decide +kernel) rfl ?_
        clear hl
        intro ls hl
        refine lv_iload hx hb dX12_go_99 (lv_at hl 0 rfl) ?_
        refine lv_if_eq (tgt := 164) hx hb dX12_go_101 (by decide +kernel) (fun c_17 => ?_) (fun c_17 => ?_)
        ·
          refine lv_goto (tgt := 40) hx hb dX12_go_164 (by decide +kernel) ?_
          exact ih_40_10 (0, k40_la, k40_bk, k40_va, k40_su, k40_ce, k40_ho, k40_wy, k40_bt, k40_ps, k40_tg, k40_sn, k40_se, k40_re, k40_pt) ls H locs (show Int.toNat (2 * (200 - k40_ps.toInt) + (0 : Int32).toInt) < Int.toNat (2 * (200 - k40_ps.toInt) + k40_5.toInt) by have zc_k40_5 : (0 : Int32).toInt = 0 := (by decide +kernel); omega) ⟨lv_sub hl [0, 2, 3, 4, 5, 6] rfl, hP, hD, hS, ⟨by decide, by decide⟩, i_2, i_3, i_4, i_5, i_6, i_7, i_8, i_9⟩
        ·
          exact absurd c_17 (by decide +kernel)
      ·
        have n_16 : gNe (z14.toInt) ((-1)) := g5_eqN (a := z14.toInt) (b := (-1)) rfl (by decide +kernel) c_16
        have i_16 : z14.toInt ≥ 0 := by have z := g5_eqN (a := z14.toInt) (b := (-1)) (by rfl) (by decide +kernel) c_16; omega
        refine lv_aload_n hx hb dX12_go_74 rfl (lv_at hl 2 rfl) ?_
        refine lv_iload hx hb dX12_go_75 (lv_at hl 0 rfl) ?_
        refine lv_if_ge (tgt := 84) hx hb dX12_go_77 (by decide +kernel) (fun c_18 => ?_) (fun c_18 => ?_)
        ·
          have i_18 : z14.toInt ≥ 0 := g5_ge (a := z14.toInt) (b := 0) rfl (by decide +kernel) c_18
          refine lv_iload hx hb dX12_go_84 (lv_at hl 0 rfl) ?_
          obtain ⟨hPc, hDc, hFc⟩ := g5_sub3 (wc := [(b_o, (oc12 u_th u_sa b_rf b_ro b_im b_ke u_fd b_tp u_td u_fr u_to u_so u_wo u_fa u_bd u_nc b_nl u_co b_op b_ar u_le b_pi b_pa u_pd u_od b_ws b_hw k40_la b_se b_re k40_bk k40_va k40_su k40_ce k40_ho k40_wy k40_bt k40_ps b_pt k40_tg k40_sn b_ip u_ic b_ah b_be b_me u_wd b_tr b_ld u_st b_wn u_id)), (b_ro, (arI G 5740 v_ro))]) hP hD hS hA [0, 1] (by decide +kernel) rfl
          refine va_calli (va_runV (As := [.int z14]) (rest := []) ⟨hx, hb, hml, hown, hts⟩ (n_isWall l G b_o b_ro b_rf b_im b_ke b_tp b_nl b_op b_ar b_pi b_pa b_ws b_hw b_se b_re b_pt b_ip b_ah b_be b_me b_tr b_ld b_wn H.size u_th u_sa u_fd u_td u_fr u_to u_so u_fa u_bd u_nc u_co u_le u_pd u_od k40_la k40_bk k40_ce k40_ho k40_wy k40_bt k40_ps k40_tg k40_sn u_ic u_wd u_id z14 u_wo k40_va k40_su u_st v_ro h_u_td h_u_fr h_u_to h_u_bd h_u_nc h_u_co h_u_pd i_2 i_3 i_4 i_5 i_6 i_7 i_8 h_u_ic h_u_id ⟨by omega, by omega⟩ (r_ro)) (cwV 1 hts gV_X12_160 rfl rfl rfl hv_X12_isWall ⟨Nat.le_of_ble_eq_true rfl, Nat.le_of_ble_eq_true rfl⟩) (g5_preV hPc hK hDc hN hT hS hFc (ci := 12) (q0 := 0) rfl rfl) rfl rfl hl.1 rfl (lv_room (Nat.le_of_ble_eq_true rfl)) dX12_go_86 ⟨Nat.le_of_ble_eq_true rfl, Nat.le_of_ble_eq_true rfl⟩) hS (fun q _ h => hFc q h) hFc (fun r u t H locs ht hvm hw hB hz1 hk1 hS => ?_)
          obtain ⟨hP1, hD1⟩ := hB
          have hP1 := g5_ht ht hP1
          obtain ⟨z20, (i_19 : 0 ≤ z20.toInt ∧ z20.toInt ≤ 1), y21, rfl⟩ := hw
          have hJ9 := va_join (wr := [(b_se, (arJ G 13 k40_se)), (b_re, (arJ G 400 k40_re)), (b_pt, (arI G 200 k40_pt))]) hP hD [0, 1] [2, 3, 4] rfl rfl (by decide +kernel) (by decide +kernel) hk1 hFc hP1 hD1
          clear hP hD hPc hDc hFc ht hvm hz1 hk1 hP1 hD1
          obtain ⟨hP, hD⟩ := hJ9
          refine g5_rs [(b_se, (arJ G 13 k40_se)), (b_re, (arJ G 400 k40_re)), (b_pt, (arI G 200 k40_pt)), (b_o, (oc12 u_th u_sa b_rf b_ro b_im b_ke u_fd b_tp u_td u_fr u_to u_so u_wo u_fa u_bd u_nc b_nl u_co b_op b_ar u_le b_pi b_pa u_pd u_od b_ws b_hw k40_la b_se b_re k40_bk k40_va k40_su k40_ce k40_ho k40_wy k40_bt k40_ps b_pt k40_tg k40_sn b_ip u_ic b_ah b_be b_me u_wd b_tr b_ld u_st b_wn u_id)), (b_ro, (arI G 5740 v_ro))] hP hD ?_
          clear hP hD
          intro hP hD
          refine g5_ti (v := z20) y21 ?_
          refine lv_if_ne (tgt := 96) hx hb dX12_go_89 (by decide +kernel) (fun c_22 => ?_) (fun c_22 => ?_)
          ·
            have n_22 : gNe (z20.toInt) (0) := g5_ne (a := z20.toInt) (b := 0) rfl (by decide +kernel) c_22
            have i_22 : z20.toInt ≥ 1 := by have z := g5_ne (a := z20.toInt) (b := 0) (by rfl) (by decide +kernel) c_22; omega
            refine lv_iconst (v := 0) hx hb dX12_go_96 (by decide +kernel) ?_
            refine lv_istore (lv' := [(5, .int 0), (6, .int z14), (0, .ref b_o), (1, .int p_1), (2, .int p_2), (3, .int p_3), (4, .int p_4)]) hx hb dX12_go_97 hl (by decide +kernel) rfl ?_
            clear hl
            intro ls hl
            refine lv_iload hx hb dX12_go_99 (lv_at hl 0 rfl) ?_
            refine lv_if_eq (tgt := 164) hx hb dX12_go_101 (by decide +kernel) (fun c_23 => ?_) (fun c_23 => ?_)
            ·
              refine lv_goto (tgt := 40) hx hb dX12_go_164 (by decide +kernel) ?_
              exact ih_40_10 (0, k40_la, k40_bk, k40_va, k40_su, k40_ce, k40_ho, k40_wy, k40_bt, k40_ps, k40_tg, k40_sn, k40_se, k40_re, k40_pt) ls H locs (show Int.toNat (2 * (200 - k40_ps.toInt) + (0 : Int32).toInt) < Int.toNat (2 * (200 - k40_ps.toInt) + k40_5.toInt) by have zc_k40_5 : (0 : Int32).toInt = 0 := (by decide +kernel); omega) ⟨lv_sub hl [0, 2, 3, 4, 5, 6] rfl, hP.sub [3, 4, 0, 1, 2] rfl, hD.sub [3, 4, 0, 1, 2] (by decide +kernel) rfl, hS, ⟨by decide, by decide⟩, i_2, i_3, i_4, i_5, i_6, i_7, i_8, i_9⟩
            ·
              exact absurd c_23 (by decide +kernel)
          ·
            have i_22 : z20.toInt = 0 := g5_neN (a := z20.toInt) (b := 0) rfl (by decide +kernel) c_22
            refine lv_iconst (v := 1) hx hb dX12_go_92 (by decide +kernel) ?_
            refine lv_goto (tgt := 97) hx hb dX12_go_93 (by decide +kernel) ?_
            refine lv_istore (lv' := [(5, .int 1), (6, .int z14), (0, .ref b_o), (1, .int p_1), (2, .int p_2), (3, .int p_3), (4, .int p_4)]) hx hb dX12_go_97 hl (by decide +kernel) rfl ?_
            clear hl
            intro ls hl
            refine lv_iload hx hb dX12_go_99 (lv_at hl 0 rfl) ?_
            refine lv_if_eq (tgt := 164) hx hb dX12_go_101 (by decide +kernel) (fun c_24 => ?_) (fun c_24 => ?_)
            ·
              exact absurd c_24 (by decide +kernel)
            ·
              refine lv_aload_n hx hb dX12_go_104 rfl (lv_at hl 2 rfl) ?_
              refine lv_iload hx hb dX12_go_105 (lv_at hl 1 rfl) ?_
              refine va_put (D := G.1) (ci := 12) (v := .int z14) (ty := .int) (C := RX12) (T := TX12) (N := 52) hx hb hts inG_X12 tyX12 tyX12_ok nmX12 hown hK hP hD hS 3 rfl rfl 33 (by decide +kernel) (hts _ fl_X12_349) (fun _ h9 => h9) rfl (by decide +kernel) rfl rfl (Nat.le_of_ble_eq_true rfl) dX12_go_107 ?_
              clear hP hD hS
              intro H locs hP hD hS
              refine g5_rs [(b_se, (arJ G 13 k40_se)), (b_re, (arJ G 400 k40_re)), (b_pt, (arI G 200 k40_pt)), (b_o, (oc12 u_th u_sa b_rf b_ro b_im b_ke u_fd b_tp u_td u_fr u_to u_so u_wo u_fa u_bd u_nc b_nl u_co b_op b_ar u_le b_pi b_pa u_pd u_od b_ws b_hw k40_la b_se b_re k40_bk k40_va k40_su z14 k40_ho k40_wy k40_bt k40_ps b_pt k40_tg k40_sn b_ip u_ic b_ah b_be b_me u_wd b_tr b_ld u_st b_wn u_id)), (b_ro, (arI G 5740 v_ro))] hP hD ?_
              clear hP hD
              intro hP hD
              refine lv_aload_n hx hb dX12_go_110 rfl (lv_at hl 2 rfl) ?_
              refine va_get (D := G.1) (ci := 12) (v := .ref b_pt) (C := RX12) (T := TX12) (N := 52) hx hb hts inG_X12 hown hK hP 3 rfl rfl 38 (by decide +kernel) (hts _ fl_X12_82) (fun _ h9 => h9) rfl dX12_go_111 ?_
              refine lv_aload_n hx hb dX12_go_114 rfl (lv_at hl 2 rfl) ?_
              refine va_get (D := G.1) (ci := 12) (v := .int k40_ps) (C := RX12) (T := TX12) (N := 52) hx hb hts inG_X12 hown hK hP 3 rfl rfl 37 (by decide +kernel) (hts _ fl_X12_358) (fun _ h9 => h9) rfl dX12_go_115 ?_
              refine lv_bipush (v := 64) hx hb dX12_go_118 (by decide +kernel) ?_
              refine lv_aload_n hx hb dX12_go_120 rfl (lv_at hl 2 rfl) ?_
              refine va_get (D := G.1) (ci := 12) (v := .int k40_ho) (C := RX12) (T := TX12) (N := 52) hx hb hts inG_X12 hown hK hP 3 rfl rfl 34 (by decide +kernel) (hts _ fl_X12_352) (fun _ h9 => h9) rfl dX12_go_121 ?_
              refine lv_imul hx hb dX12_go_124 ?_
              have t_25 : (64 * k40_ho).toInt = 64 * k40_ho.toInt := g5_imul (a := 64) (b := k40_ho.toInt) (by decide +kernel) (by rfl) (by omega) (by omega)
              refine lv_aload_n hx hb dX12_go_125 rfl (lv_at hl 2 rfl) ?_
              refine va_get (D := G.1) (ci := 12) (v := .int z14) (C := RX12) (T := TX12) (N := 52) hx hb hts inG_X12 hown hK hP 3 rfl rfl 33 (by decide +kernel) (hts _ fl_X12_349) (fun _ h9 => h9) rfl dX12_go_126 ?_
              refine lv_iadd hx hb dX12_go_129 ?_
              have t_26 : ((64 * k40_ho) + z14).toInt = (64 * k40_ho).toInt + z14.toInt := g5_iadd (a := (64 * k40_ho).toInt) (b := z14.toInt) (by rfl) (by rfl) (by omega) (by omega)
              refine va_iast hx hb hK hP hD hS 2 0 rfl rfl (i := k40_ps) (x := ((64 * k40_ho) + z14)) (vp_in_iff.mpr ⟨by omega, by omega⟩) dX12_go_130 ?_
              clear hP hD hS
              intro H locs hP hD hS
              refine g5_rs [(b_se, (arJ G 13 k40_se)), (b_re, (arJ G 400 k40_re)), (b_pt, (arI G 200 (upd k40_pt k40_ps.toNatClampNeg ((64 * k40_ho) + z14)))), (b_o, (oc12 u_th u_sa b_rf b_ro b_im b_ke u_fd b_tp u_td u_fr u_to u_so u_wo u_fa u_bd u_nc b_nl u_co b_op b_ar u_le b_pi b_pa u_pd u_od b_ws b_hw k40_la b_se b_re k40_bk k40_va k40_su z14 k40_ho k40_wy k40_bt k40_ps b_pt k40_tg k40_sn b_ip u_ic b_ah b_be b_me u_wd b_tr b_ld u_st b_wn u_id)), (b_ro, (arI G 5740 v_ro))] hP hD ?_
              clear hP hD
              intro hP hD
              refine lv_aload_n hx hb dX12_go_131 rfl (lv_at hl 2 rfl) ?_
              refine lv_dup hx hb dX12_go_132 rfl ?_
              refine va_get (D := G.1) (ci := 12) (v := .int k40_ps) (C := RX12) (T := TX12) (N := 52) hx hb hts inG_X12 hown hK hP 3 rfl rfl 37 (by decide +kernel) (hts _ fl_X12_358) (fun _ h9 => h9) rfl dX12_go_133 ?_
              refine lv_iconst (v := 1) hx hb dX12_go_136 (by decide +kernel) ?_
              refine lv_iadd hx hb dX12_go_137 ?_
              have t_27 : (k40_ps + 1).toInt = k40_ps.toInt + 1 := g5_iadd (a := k40_ps.toInt) (b := 1) (by rfl) (by decide +kernel) (by omega) (by omega)
              refine va_put (D := G.1) (ci := 12) (v := .int (k40_ps + 1)) (ty := .int) (C := RX12) (T := TX12) (N := 52) hx hb hts inG_X12 tyX12 tyX12_ok nmX12 hown hK hP hD hS 3 rfl rfl 37 (by decide +kernel) (hts _ fl_X12_358) (fun _ h9 => h9) rfl (by decide +kernel) rfl rfl (Nat.le_of_ble_eq_true rfl) dX12_go_138 ?_
              clear hP hD hS
              intro H locs hP hD hS
              refine g5_rs [(b_se, (arJ G 13 k40_se)), (b_re, (arJ G 400 k40_re)), (b_pt, (arI G 200 (upd k40_pt k40_ps.toNatClampNeg ((64 * k40_ho) + z14)))), (b_o, (oc12 u_th u_sa b_rf b_ro b_im b_ke u_fd b_tp u_td u_fr u_to u_so u_wo u_fa u_bd u_nc b_nl u_co b_op b_ar u_le b_pi b_pa u_pd u_od b_ws b_hw k40_la b_se b_re k40_bk k40_va k40_su z14 k40_ho k40_wy k40_bt (k40_ps + 1) b_pt k40_tg k40_sn b_ip u_ic b_ah b_be b_me u_wd b_tr b_ld u_st b_wn u_id)), (b_ro, (arI G 5740 v_ro))] hP hD ?_
              clear hP hD
              intro hP hD
              refine lv_aload_n hx hb dX12_go_141 rfl (lv_at hl 2 rfl) ?_
              obtain ⟨hPc, hDc, hFc⟩ := g5_sub3 (wc := [(b_o, (oc12 u_th u_sa b_rf b_ro b_im b_ke u_fd b_tp u_td u_fr u_to u_so u_wo u_fa u_bd u_nc b_nl u_co b_op b_ar u_le b_pi b_pa u_pd u_od b_ws b_hw k40_la b_se b_re k40_bk k40_va k40_su z14 k40_ho k40_wy k40_bt (k40_ps + 1) b_pt k40_tg k40_sn b_ip u_ic b_ah b_be b_me u_wd b_tr b_ld u_st b_wn u_id)), (b_ro, (arI G 5740 v_ro)), (b_se, (arJ G 13 k40_se)), (b_re, (arJ G 400 k40_re))]) hP hD hS hA [3, 4, 0, 1] (by decide +kernel) rfl
              refine va_calli (va_runV (As := []) (rest := []) ⟨hx, hb, hml, hown, hts⟩ (n_isFree l G b_o b_ro b_se b_re b_rf b_im b_ke b_tp b_nl b_op b_ar b_pi b_pa b_ws b_hw b_pt b_ip b_ah b_be b_me b_tr b_ld b_wn H.size u_th u_sa u_fd u_td u_fr u_to u_so u_fa u_bd u_nc u_co u_le u_pd u_od k40_la k40_bk z14 k40_ho k40_wy k40_bt (k40_ps + 1) k40_tg k40_sn u_ic u_wd u_id u_wo k40_va k40_su u_st v_ro k40_se k40_re h_u_td h_u_fr h_u_to h_u_bd h_u_nc h_u_co h_u_pd i_2 i_3 ⟨by omega, by omega⟩ i_5 i_6 i_7 ⟨by omega, by omega⟩ h_u_ic h_u_id (r_ro)) (cwV 0 hts gV_X12_377 rfl rfl rfl hv_X12_isFree ⟨Nat.le_of_ble_eq_true rfl, Nat.le_of_ble_eq_true rfl⟩) (g5_preV hPc hK hDc hN hT hS hFc (ci := 12) (q0 := 0) rfl rfl) rfl rfl hl.1 rfl (lv_room (Nat.le_of_ble_eq_true rfl)) dX12_go_142 ⟨Nat.le_of_ble_eq_true rfl, Nat.le_of_ble_eq_true rfl⟩) hS (fun q _ h => hFc q h) hFc (fun r u t H locs ht hvm hw hB hz1 hk1 hS => ?_)
              obtain ⟨hP1, hD1⟩ := hB
              have hP1 := g5_ht ht hP1
              obtain ⟨z31, z32, z33, z34, z35, z36, z37, z38, (i_28 : 0 ≤ z31.toInt ∧ z31.toInt ≤ 1), (i_29 : 0 ≤ z32.toInt ∧ z32.toInt ≤ 4840), (i_30 : 0 ≤ z33.toInt ∧ z33.toInt ≤ 1), y39, rfl⟩ := hw
              have hJ9 := va_join (wr := [(b_pt, (arI G 200 (upd k40_pt k40_ps.toNatClampNeg ((64 * k40_ho) + z14))))]) hP hD [3, 4, 0, 1] [2] rfl rfl (by decide +kernel) (by decide +kernel) hk1 hFc hP1 hD1
              clear hP hD hPc hDc hFc ht hvm hz1 hk1 hP1 hD1
              obtain ⟨hP, hD⟩ := hJ9
              refine g5_rs [(b_pt, (arI G 200 (upd k40_pt k40_ps.toNatClampNeg ((64 * k40_ho) + z14)))), (b_o, (oc12 u_th u_sa b_rf b_ro b_im b_ke u_fd b_tp u_td u_fr u_to u_so u_wo u_fa u_bd u_nc b_nl u_co b_op b_ar u_le b_pi b_pa u_pd u_od b_ws b_hw z32 b_se b_re z33 z34 z35 z14 k40_ho k40_wy k40_bt (k40_ps + 1) b_pt k40_tg z36 b_ip u_ic b_ah b_be b_me u_wd b_tr b_ld u_st b_wn u_id)), (b_ro, (arI G 5740 v_ro)), (b_se, (arJ G 13 z37)), (b_re, (arJ G 400 z38))] hP hD ?_
              clear hP hD
              intro hP hD
              refine g5_ti (v := z31) y39 ?_
              refine lv_if_eq (tgt := 161) hx hb dX12_go_145 (by decide +kernel) (fun c_40 => ?_) (fun c_40 => ?_)
              ·
                have i_40 : z31.toInt = 0 := g5_eq (a := z31.toInt) (b := 0) rfl (by decide +kernel) c_40
                refine lv_iconst (v := 0) hx hb dX12_go_161 (by decide +kernel) ?_
                refine lv_istore (lv' := [(5, .int 0), (6, .int z14), (0, .ref b_o), (1, .int p_1), (2, .int p_2), (3, .int p_3), (4, .int p_4)]) hx hb dX12_go_162 hl (by decide +kernel) rfl ?_
                clear hl
                intro ls hl
                refine lv_goto (tgt := 40) hx hb dX12_go_164 (by decide +kernel) ?_
                exact ih_40_10 (0, z32, z33, z34, z35, z14, k40_ho, k40_wy, k40_bt, (k40_ps + 1), k40_tg, z36, z37, z38, (upd k40_pt k40_ps.toNatClampNeg ((64 * k40_ho) + z14))) ls H locs (show Int.toNat (2 * (200 - (k40_ps + 1).toInt) + (0 : Int32).toInt) < Int.toNat (2 * (200 - k40_ps.toInt) + k40_5.toInt) by have zc_k40_5 : (0 : Int32).toInt = 0 := (by decide +kernel); omega) ⟨lv_sub hl [0, 2, 3, 4, 5, 6] rfl, hP.sub [1, 2, 3, 4, 0] rfl, hD.sub [1, 2, 3, 4, 0] (by decide +kernel) rfl, hS, ⟨by decide, by decide⟩, i_29, i_30, ⟨by omega, by omega⟩, i_5, i_6, i_7, ⟨by omega, by omega⟩, pt_upd i_9 (by omega)⟩
              ·
                have n_40 : gNe (z31.toInt) (0) := g5_eqN (a := z31.toInt) (b := 0) rfl (by decide +kernel) c_40
                have i_40 : z31.toInt ≥ 1 := by have z := g5_eqN (a := z31.toInt) (b := 0) (by rfl) (by decide +kernel) c_40; omega
                refine lv_aload_n hx hb dX12_go_148 rfl (lv_at hl 2 rfl) ?_
                refine lv_iload hx hb dX12_go_149 (lv_at hl 6 rfl) ?_
                obtain ⟨hPc, hDc, hFc⟩ := g5_sub3 (wc := [(b_o, (oc12 u_th u_sa b_rf b_ro b_im b_ke u_fd b_tp u_td u_fr u_to u_so u_wo u_fa u_bd u_nc b_nl u_co b_op b_ar u_le b_pi b_pa u_pd u_od b_ws b_hw z32 b_se b_re z33 z34 z35 z14 k40_ho k40_wy k40_bt (k40_ps + 1) b_pt k40_tg z36 b_ip u_ic b_ah b_be b_me u_wd b_tr b_ld u_st b_wn u_id)), (b_ro, (arI G 5740 v_ro)), (b_se, (arJ G 13 z37)), (b_re, (arJ G 400 z38))]) hP hD hS hA [1, 2, 3, 4] (by decide +kernel) rfl
                refine va_calli (va_runV (As := [.int p_4]) (rest := []) ⟨hx, hb, hml, hown, hts⟩ (n_passes l G b_o b_ro b_se b_re b_rf b_im b_ke b_tp b_nl b_op b_ar b_pi b_pa b_ws b_hw b_pt b_ip b_ah b_be b_me b_tr b_ld b_wn H.size u_th u_sa u_fd u_td u_fr u_to u_so u_fa u_bd u_nc u_co u_le u_pd u_od z32 z33 z14 k40_ho k40_wy k40_bt (k40_ps + 1) k40_tg z36 u_ic u_wd u_id p_4 u_wo z34 z35 u_st v_ro z37 z38 h_u_td h_u_fr h_u_to h_u_bd h_u_nc h_u_co h_u_pd i_29 i_30 ⟨by omega, by omega⟩ i_5 i_6 i_7 ⟨by omega, by omega⟩ h_u_ic h_u_id (r_ro)) (cwV 1 hts gV_X12_380 rfl rfl rfl hv_X12_passes ⟨Nat.le_of_ble_eq_true rfl, Nat.le_of_ble_eq_true rfl⟩) (g5_preV hPc hK hDc hN hT hS hFc (ci := 12) (q0 := 0) rfl rfl) rfl rfl hl.1 rfl (lv_room (Nat.le_of_ble_eq_true rfl)) dX12_go_151 ⟨Nat.le_of_ble_eq_true rfl, Nat.le_of_ble_eq_true rfl⟩) hS (fun q _ h => hFc q h) hFc (fun r u t H locs ht hvm hw hB hz1 hk1 hS => ?_)
                obtain ⟨hP1, hD1⟩ := hB
                have hP1 := g5_ht ht hP1
                obtain ⟨z47, z48, z49, z50, z51, z52, z53, z54, z55, z56, z57, (i_41 : 0 ≤ z47.toInt ∧ z47.toInt ≤ 1), (i_42 : 0 ≤ z48.toInt ∧ z48.toInt ≤ 4840), (i_43 : 0 ≤ z49.toInt ∧ z49.toInt ≤ 1), (i_44 : 0 ≤ z52.toInt ∧ z52.toInt ≤ 23), (i_45 : 0 ≤ z53.toInt ∧ z53.toInt ≤ 3), (i_46 : 0 ≤ z54.toInt ∧ z54.toInt ≤ 1000000), y58, rfl⟩ := hw
                have hJ9 := va_join (wr := [(b_pt, (arI G 200 (upd k40_pt k40_ps.toNatClampNeg ((64 * k40_ho) + z14))))]) hP hD [1, 2, 3, 4] [0] rfl rfl (by decide +kernel) (by decide +kernel) hk1 hFc hP1 hD1
                clear hP hD hPc hDc hFc ht hvm hz1 hk1 hP1 hD1
                obtain ⟨hP, hD⟩ := hJ9
                refine g5_rs [(b_pt, (arI G 200 (upd k40_pt k40_ps.toNatClampNeg ((64 * k40_ho) + z14)))), (b_o, (oc12 u_th u_sa b_rf b_ro b_im b_ke u_fd b_tp u_td u_fr u_to u_so u_wo u_fa u_bd u_nc b_nl u_co b_op b_ar u_le b_pi b_pa u_pd u_od b_ws b_hw z48 b_se b_re z49 z50 z51 z14 z52 z53 z54 (k40_ps + 1) b_pt z55 z36 b_ip u_ic b_ah b_be b_me u_wd b_tr b_ld u_st b_wn u_id)), (b_ro, (arI G 5740 v_ro)), (b_se, (arJ G 13 z56)), (b_re, (arJ G 400 z57))] hP hD ?_
                clear hP hD
                intro hP hD
                refine g5_ti (v := z47) y58 ?_
                refine lv_if_eq (tgt := 161) hx hb dX12_go_154 (by decide +kernel) (fun c_59 => ?_) (fun c_59 => ?_)
                ·
                  have i_59 : z47.toInt = 0 := g5_eq (a := z47.toInt) (b := 0) rfl (by decide +kernel) c_59
                  refine lv_iconst (v := 0) hx hb dX12_go_161 (by decide +kernel) ?_
                  refine lv_istore (lv' := [(5, .int 0), (6, .int z14), (0, .ref b_o), (1, .int p_1), (2, .int p_2), (3, .int p_3), (4, .int p_4)]) hx hb dX12_go_162 hl (by decide +kernel) rfl ?_
                  clear hl
                  intro ls hl
                  refine lv_goto (tgt := 40) hx hb dX12_go_164 (by decide +kernel) ?_
                  exact ih_40_10 (0, z48, z49, z50, z51, z14, z52, z53, z54, (k40_ps + 1), z55, z36, z56, z57, (upd k40_pt k40_ps.toNatClampNeg ((64 * k40_ho) + z14))) ls H locs (show Int.toNat (2 * (200 - (k40_ps + 1).toInt) + (0 : Int32).toInt) < Int.toNat (2 * (200 - k40_ps.toInt) + k40_5.toInt) by have zc_k40_5 : (0 : Int32).toInt = 0 := (by decide +kernel); omega) ⟨lv_sub hl [0, 2, 3, 4, 5, 6] rfl, hP.sub [1, 2, 3, 4, 0] rfl, hD.sub [1, 2, 3, 4, 0] (by decide +kernel) rfl, hS, ⟨by decide, by decide⟩, i_42, i_43, ⟨by omega, by omega⟩, i_44, i_45, i_46, ⟨by omega, by omega⟩, pt_upd i_9 (by omega)⟩
                ·
                  have n_59 : gNe (z47.toInt) (0) := g5_eqN (a := z47.toInt) (b := 0) rfl (by decide +kernel) c_59
                  have i_59 : z47.toInt ≥ 1 := by have z := g5_eqN (a := z47.toInt) (b := 0) (by rfl) (by decide +kernel) c_59; omega
                  refine lv_iconst (v := 1) hx hb dX12_go_157 (by decide +kernel) ?_
                  refine lv_goto (tgt := 162) hx hb dX12_go_158 (by decide +kernel) ?_
                  refine lv_istore (lv' := [(5, .int 1), (6, .int z14), (0, .ref b_o), (1, .int p_1), (2, .int p_2), (3, .int p_3), (4, .int p_4)]) hx hb dX12_go_162 hl (by decide +kernel) rfl ?_
                  clear hl
                  intro ls hl
                  refine lv_goto (tgt := 40) hx hb dX12_go_164 (by decide +kernel) ?_
                  exact ih_40_10 (1, z48, z49, z50, z51, z14, z52, z53, z54, (k40_ps + 1), z55, z36, z56, z57, (upd k40_pt k40_ps.toNatClampNeg ((64 * k40_ho) + z14))) ls H locs (show Int.toNat (2 * (200 - (k40_ps + 1).toInt) + (1 : Int32).toInt) < Int.toNat (2 * (200 - k40_ps.toInt) + k40_5.toInt) by have zc_k40_5 : (1 : Int32).toInt = 1 := (by decide +kernel); omega) ⟨lv_sub hl [0, 2, 3, 4, 5, 6] rfl, hP.sub [1, 2, 3, 4, 0] rfl, hD.sub [1, 2, 3, 4, 0] (by decide +kernel) rfl, hS, ⟨by decide, by decide⟩, i_42, i_43, ⟨by omega, by omega⟩, i_44, i_45, i_46, ⟨by omega, by omega⟩, pt_upd i_9 (by omega)⟩
        ·
          have i_18 : z14.toInt < 0 := g5_geN (a := z14.toInt) (b := 0) rfl (by decide +kernel) c_18
          omega
set_option maxHeartbeats 4000000 in
set_option maxRecDepth 100000 in
theorem n_whereIsX (l : Launch) (G : g5_G) (b_o b_ro b_rf b_im b_ke b_tp b_nl b_op b_ar b_pi b_pa b_ws b_hw b_se b_re b_pt b_ip b_ah b_be b_me b_tr b_ld b_wn : Nat) (sz : Nat) (u_th : Int32) (u_sa : Int32) (u_fd : Int32) (u_td : Int32) (u_fr : Int32) (u_to : Int32) (u_so : Int32) (u_fa : Int32) (u_bd : Int32) (u_nc : Int32) (u_co : Int32) (u_le : Int32) (u_pd : Int32) (u_od : Int32) (u_la : Int32) (u_bk : Int32) (u_ce : Int32) (u_ho : Int32) (u_wy : Int32) (u_bt : Int32) (u_ps : Int32) (u_tg : Int32) (u_sn : Int32) (u_ic : Int32) (u_wd : Int32) (u_id : Int32) (p_1 : Int32) (p_2 : Int32) (u_wo : Int64) (u_va : Int64) (u_su : Int64) (u_st : Int64) (v_ro : Nat → Int32) (h_u_td : 0 ≤ u_td.toInt ∧ u_td.toInt ≤ 400) (h_u_fr : 0 ≤ u_fr.toInt ∧ u_fr.toInt ≤ 400) (h_u_to : 0 ≤ u_to.toInt ∧ u_to.toInt ≤ 400) (h_u_bd : 0 ≤ u_bd.toInt ∧ u_bd.toInt ≤ 1) (h_u_nc : 0 ≤ u_nc.toInt ∧ u_nc.toInt ≤ 12) (h_u_co : 0 ≤ u_co.toInt ∧ u_co.toInt ≤ 400) (h_u_pd : 0 ≤ u_pd.toInt ∧ u_pd.toInt ≤ 400) (h_u_la : 0 ≤ u_la.toInt ∧ u_la.toInt ≤ 4840) (h_u_bk : 0 ≤ u_bk.toInt ∧ u_bk.toInt ≤ 1) (h_u_ce : 0 ≤ u_ce.toInt ∧ u_ce.toInt ≤ 63) (h_u_ho : 0 ≤ u_ho.toInt ∧ u_ho.toInt ≤ 23) (h_u_wy : 0 ≤ u_wy.toInt ∧ u_wy.toInt ≤ 3) (h_u_bt : 0 ≤ u_bt.toInt ∧ u_bt.toInt ≤ 1000000) (h_u_ps : 0 ≤ u_ps.toInt ∧ u_ps.toInt ≤ 200) (h_u_ic : 0 ≤ u_ic.toInt ∧ u_ic.toInt ≤ 1) (h_u_id : 0 ≤ u_id.toInt ∧ u_id.toInt ≤ 1) (h_p_1 : 0 ≤ p_1.toInt ∧ p_1.toInt ≤ 4) (h_p_2 : 0 ≤ p_2.toInt ∧ p_2.toInt ≤ 23) (r_ro : MI v_ro) : Met l yX12_whereIs (wsG yX12_whereIs cX12_whereIs 3 (some .int)) ({ frames := 0, cells := 0, slots := 0, locals := 0 }) (va_Pc [.ref b_o, .int p_1, .int p_2] (g5_P G [(b_o, (oc12 u_th u_sa b_rf b_ro b_im b_ke u_fd b_tp u_td u_fr u_to u_so u_wo u_fa u_bd u_nc b_nl u_co b_op b_ar u_le b_pi b_pa u_pd u_od b_ws b_hw u_la b_se b_re u_bk u_va u_su u_ce u_ho u_wy u_bt u_ps b_pt u_tg u_sn b_ip u_ic b_ah b_be b_me u_wd b_tr b_ld u_st b_wn u_id)), (b_ro, (arI G 5740 v_ro))] sz)) (va_Qi (fun (r : Int32) (u : va_W) => (∃ (o_r : Int32), ((-1) ≤ o_r.toInt ∧ o_r.toInt ≤ 63) ∧ (o_r.toInt = (v_ro ((110 + (24 * p_1)) + p_2).toNatClampNeg).toInt) ∧ (r = o_r) ∧ (u = [(b_o, (oc12 u_th u_sa b_rf b_ro b_im b_ke u_fd b_tp u_td u_fr u_to u_so u_wo u_fa u_bd u_nc b_nl u_co b_op b_ar u_le b_pi b_pa u_pd u_od b_ws b_hw u_la b_se b_re u_bk u_va u_su u_ce u_ho u_wy u_bt u_ps b_pt u_tg u_sn b_ip u_ic b_ah b_be b_me u_wd b_tr b_ld u_st b_wn u_id)), (b_ro, (arI G 5740 v_ro))]))) (g5_B G (va_A [(b_o, (oc12 u_th u_sa b_rf b_ro b_im b_ke u_fd b_tp u_td u_fr u_to u_so u_wo u_fa u_bd u_nc b_nl u_co b_op b_ar u_le b_pi b_pa u_pd u_od b_ws b_hw u_la b_se b_re u_bk u_va u_su u_ce u_ho u_wy u_bt u_ps b_pt u_tg u_sn b_ip u_ic b_ah b_be b_me u_wd b_tr b_ld u_st b_wn u_id)), (b_ro, (arI G 5740 v_ro))] sz)) (va_A [(b_o, (oc12 u_th u_sa b_rf b_ro b_im b_ke u_fd b_tp u_td u_fr u_to u_so u_wo u_fa u_bd u_nc b_nl u_co b_op b_ar u_le b_pi b_pa u_pd u_od b_ws b_hw u_la b_se b_re u_bk u_va u_su u_ce u_ho u_wy u_bt u_ps b_pt u_tg u_sn b_ip u_ic b_ah b_be b_me u_wd b_tr b_ld u_st b_wn u_id)), (b_ro, (arI G 5740 v_ro))] sz)) 0 0 (va_A [(b_o, (oc12 u_th u_sa b_rf b_ro b_im b_ke u_fd b_tp u_td u_fr u_to u_so u_wo u_fa u_bd u_nc b_nl u_co b_op b_ar u_le b_pi b_pa u_pd u_od b_ws b_hw u_la b_se b_re u_bk u_va u_su u_ce u_ho u_wy u_bt u_ps b_pt u_tg u_sn b_ip u_ic b_ah b_be b_me u_wd b_tr b_ld u_st b_wn u_id)), (b_ro, (arI G 5740 v_ro))] sz) := by
  refine Met.ofW (cc := cX12_whereIs) (maxL := 3) (ret := (some .int)) (by decide) rfl ?_
  intro p e s m args below meth c s₁ B hml hv
  obtain ⟨rfl, hsz, hP, hK, hD0, hN, hT⟩ := hv
  have hx := B.exec
  have hb := B.bytes
  have hr := B.returns
  have hts : ∀ w ∈ tblG, w.before _ s = true := fun w h => atoms_spec (ws := (wsG yX12_whereIs cX12_whereIs 3 (some .int))) B.pre w (List.mem_cons_of_mem _ h)
  have hown : s.vm.findClass RX12 = some m.cls := findClass_of_methodNamed B.named
  have hlocks := B.notSynchronized
  subst hsz
  have hD := hD0.self (sz := s.heap.size)
  generalize hAe : va_A [(b_o, (oc12 u_th u_sa b_rf b_ro b_im b_ke u_fd b_tp u_td u_fr u_to u_so u_wo u_fa u_bd u_nc b_nl u_co b_op b_ar u_le b_pi b_pa u_pd u_od b_ws b_hw u_la b_se b_re u_bk u_va u_su u_ce u_ho u_wy u_bt u_ps b_pt u_tg u_sn b_ip u_ic b_ah b_be b_me u_wd b_tr b_ld u_st b_wn u_id)), (b_ro, (arI G 5740 v_ro))] s.heap.size = A at hD hT ⊢
  have hA : ∀ q : Nat, s.heap.size ≤ q → A q := fun q h => by rw [← hAe]; exact Or.inr h
  have hS : va_S A s.heap s.heap [] := va_S.rf
  have hP : va_P G.1 vwCl [(b_o, (oc12 u_th u_sa b_rf b_ro b_im b_ke u_fd b_tp u_td u_fr u_to u_so u_wo u_fa u_bd u_nc b_nl u_co b_op b_ar u_le b_pi b_pa u_pd u_od b_ws b_hw u_la b_se b_re u_bk u_va u_su u_ce u_ho u_wy u_bt u_ps b_pt u_tg u_sn b_ip u_ic b_ah b_be b_me u_wd b_tr b_ld u_st b_wn u_id)), (b_ro, (arI G 5740 v_ro))] s.heap := hP
  have hl := lv_entry ([.ref b_o, .int p_1, .int p_2]) (n := 3) (Nat.le_of_ble_eq_true rfl)
  rw [lg_entry_eq]
  generalize (lg_sl ([.ref b_o, .int p_1, .int p_2]) ++ List.replicate (3 - (lg_sl ([.ref b_o, .int p_1, .int p_2])).length) Slot.unset).toArray = ls at hl ⊢
  have hl : lv_has ls 3 [(0, .ref b_o), (1, .int p_1), (2, .int p_2)] := hl
  refine lv_aload_n hx hb dX12_whereIs_0 rfl (lv_at hl 0 rfl) ?_
  refine va_get (D := G.1) (ci := 12) (v := .ref b_ro) (C := RX12) (T := TX12) (N := 52) hx hb hts inG_X12 hown hK hP 0 rfl rfl 3 (by decide) (hts _ fl_X12_13) (fun _ h9 => h9) rfl dX12_whereIs_1 ?_
  refine lv_bipush (v := 110) hx hb dX12_whereIs_4 (by decide) ?_
  refine lv_bipush (v := 24) hx hb dX12_whereIs_6 (by decide) ?_
  refine lv_iload_n hx hb dX12_whereIs_8 rfl (lv_at hl 1 rfl) ?_
  refine lv_imul hx hb dX12_whereIs_9 ?_
  have t_1 : (24 * p_1).toInt = 24 * p_1.toInt := g5_imul (a := 24) (b := p_1.toInt) (by decide) (by rfl) (by omega) (by omega)
  refine lv_iadd hx hb dX12_whereIs_10 ?_
  have t_2 : (110 + (24 * p_1)).toInt = 110 + (24 * p_1).toInt := g5_iadd (a := 110) (b := (24 * p_1).toInt) (by decide) (by rfl) (by omega) (by omega)
  refine lv_iload_n hx hb dX12_whereIs_11 rfl (lv_at hl 2 rfl) ?_
  refine lv_iadd hx hb dX12_whereIs_12 ?_
  have t_3 : ((110 + (24 * p_1)) + p_2).toInt = (110 + (24 * p_1)).toInt + p_2.toInt := g5_iadd (a := (110 + (24 * p_1)).toInt) (b := p_2.toInt) (by rfl) (by rfl) (by omega) (by omega)
  refine va_iald hx hb hK hP 1 0 rfl rfl (i := ((110 + (24 * p_1)) + p_2)) (vp_in_iff.mpr ⟨by omega, by omega⟩) dX12_whereIs_13 ?_
  have hv_4 : (-1) ≤ (v_ro ((110 + (24 * p_1)) + p_2).toNatClampNeg).toInt ∧ (v_ro ((110 + (24 * p_1)) + p_2).toNatClampNeg).toInt ≤ 63 := mi_110 r_ro (by have zz := g5_clamp ((110 + (24 * p_1)) + p_2); omega) (by have zz := g5_clamp ((110 + (24 * p_1)) + p_2); omega)
  exact W.iret (v := (v_ro ((110 + (24 * p_1)) + p_2).toNatClampNeg)) hx hb hr (fun t ht hW => ⟨⟨(v_ro ((110 + (24 * p_1)) + p_2).toNatClampNeg), [(b_o, (oc12 u_th u_sa b_rf b_ro b_im b_ke u_fd b_tp u_td u_fr u_to u_so u_wo u_fa u_bd u_nc b_nl u_co b_op b_ar u_le b_pi b_pa u_pd u_od b_ws b_hw u_la b_se b_re u_bk u_va u_su u_ce u_ho u_wy u_bt u_ps b_pt u_tg u_sn b_ip u_ic b_ah b_be b_me u_wd b_tr b_ld u_st b_wn u_id)), (b_ro, (arI G 5740 v_ro))], rfl, ⟨(v_ro ((110 + (24 * p_1)) + p_2).toNatClampNeg), ⟨by omega, by omega⟩, rfl, rfl, rfl⟩, by rw [ht]; exact hP.sub [0, 1] rfl, hD.sub [0, 1] (by decide) rfl⟩, hS.F ht⟩) hS.2.2 dX12_whereIs_14
theorem dgX12_look_0 : ∀ r ∈ ([(0, (.aload_n 0, 1)), (1, (.iconst 0, 1)), (2, (.putfield 107, 3)), (5, (.iload_n 1, 1)), (6, (.iload_n 2, 1)), (7, (.iload_n 3, 1)), (8, (.invokestatic 397, 3)), (11, (.ifCond .ne 5, 3)), (14, (.iconst (-1), 1)), (15, (.ireturn, 1)), (16, (.aload_n 0, 1)), (17, (.iload_n 1, 1)), (18, (.iload_n 2, 1)), (19, (.iload_n 3, 1)), (20, (.iconst 0, 1)), (21, (.invokevirtual 401, 3)), (24, (.iload 4, 2)), (26, (.tableswitch 80 0 4 #[34, 39, 44, 70, 75], 34)), (60, (.aload_n 0, 1)), (61, (.getfield 371, 3)), (64, (.ireturn, 1)), (65, (.aload_n 0, 1)), (66, (.getfield 358, 3)), (69, (.ireturn, 1)), (70, (.aload_n 0, 1)), (71, (.getfield 358, 3)), (74, (.ifCond .ne 7, 3)), (77, (.iconst (-1), 1)), (78, (.goto 17, 3)), (81, (.aload_n 0, 1)), (82, (.getfield 82, 3)), (85, (.aload_n 0, 1)), (86, (.getfield 358, 3)), (89, (.iconst 1, 1)), (90, (.isub, 1)), (91, (.iaload, 1)), (92, (.bipush 64, 2)), (94, (.idiv, 1)), (95, (.ireturn, 1)), (96, (.aload_n 0, 1))] : List (Nat × (Instr × Nat))), decode cX12_look r.1 = .ok r.2 := by decide +kernel
theorem dX12_look_0 : decode cX12_look 0 = .ok (.aload_n 0, 1) := dgX12_look_0 (0, (.aload_n 0, 1)) (List.mem_of_getElem? (i := 0) rfl)
theorem dX12_look_1 : decode cX12_look 1 = .ok (.iconst 0, 1) := dgX12_look_0 (1, (.iconst 0, 1)) (List.mem_of_getElem? (i := 1) rfl)
theorem dX12_look_2 : decode cX12_look 2 = .ok (.putfield 107, 3) := dgX12_look_0 (2, (.putfield 107, 3)) (List.mem_of_getElem? (i := 2) rfl)
theorem dX12_look_5 : decode cX12_look 5 = .ok (.iload_n 1, 1) := dgX12_look_0 (5, (.iload_n 1, 1)) (List.mem_of_getElem? (i := 3) rfl)
theorem dX12_look_6 : decode cX12_look 6 = .ok (.iload_n 2, 1) := dgX12_look_0 (6, (.iload_n 2, 1)) (List.mem_of_getElem? (i := 4) rfl)
theorem dX12_look_7 : decode cX12_look 7 = .ok (.iload_n 3, 1) := dgX12_look_0 (7, (.iload_n 3, 1)) (List.mem_of_getElem? (i := 5) rfl)
theorem dX12_look_8 : decode cX12_look 8 = .ok (.invokestatic 397, 3) := dgX12_look_0 (8, (.invokestatic 397, 3)) (List.mem_of_getElem? (i := 6) rfl)
theorem dX12_look_11 : decode cX12_look 11 = .ok (.ifCond .ne 5, 3) := dgX12_look_0 (11, (.ifCond .ne 5, 3)) (List.mem_of_getElem? (i := 7) rfl)
theorem dX12_look_14 : decode cX12_look 14 = .ok (.iconst (-1), 1) := dgX12_look_0 (14, (.iconst (-1), 1)) (List.mem_of_getElem? (i := 8) rfl)
theorem dX12_look_15 : decode cX12_look 15 = .ok (.ireturn, 1) := dgX12_look_0 (15, (.ireturn, 1)) (List.mem_of_getElem? (i := 9) rfl)
theorem dX12_look_16 : decode cX12_look 16 = .ok (.aload_n 0, 1) := dgX12_look_0 (16, (.aload_n 0, 1)) (List.mem_of_getElem? (i := 10) rfl)
theorem dX12_look_17 : decode cX12_look 17 = .ok (.iload_n 1, 1) := dgX12_look_0 (17, (.iload_n 1, 1)) (List.mem_of_getElem? (i := 11) rfl)
theorem dX12_look_18 : decode cX12_look 18 = .ok (.iload_n 2, 1) := dgX12_look_0 (18, (.iload_n 2, 1)) (List.mem_of_getElem? (i := 12) rfl)
theorem dX12_look_19 : decode cX12_look 19 = .ok (.iload_n 3, 1) := dgX12_look_0 (19, (.iload_n 3, 1)) (List.mem_of_getElem? (i := 13) rfl)
theorem dX12_look_20 : decode cX12_look 20 = .ok (.iconst 0, 1) := dgX12_look_0 (20, (.iconst 0, 1)) (List.mem_of_getElem? (i := 14) rfl)
theorem dX12_look_21 : decode cX12_look 21 = .ok (.invokevirtual 401, 3) := dgX12_look_0 (21, (.invokevirtual 401, 3)) (List.mem_of_getElem? (i := 15) rfl)
theorem dX12_look_24 : decode cX12_look 24 = .ok (.iload 4, 2) := dgX12_look_0 (24, (.iload 4, 2)) (List.mem_of_getElem? (i := 16) rfl)
theorem dX12_look_26 : decode cX12_look 26 = .ok (.tableswitch 80 0 4 #[34, 39, 44, 70, 75], 34) := dgX12_look_0 (26, (.tableswitch 80 0 4 #[34, 39, 44, 70, 75], 34)) (List.mem_of_getElem? (i := 17) rfl)
theorem dX12_look_60 : decode cX12_look 60 = .ok (.aload_n 0, 1) := dgX12_look_0 (60, (.aload_n 0, 1)) (List.mem_of_getElem? (i := 18) rfl)
theorem dX12_look_61 : decode cX12_look 61 = .ok (.getfield 371, 3) := dgX12_look_0 (61, (.getfield 371, 3)) (List.mem_of_getElem? (i := 19) rfl)
theorem dX12_look_64 : decode cX12_look 64 = .ok (.ireturn, 1) := dgX12_look_0 (64, (.ireturn, 1)) (List.mem_of_getElem? (i := 20) rfl)
theorem dX12_look_65 : decode cX12_look 65 = .ok (.aload_n 0, 1) := dgX12_look_0 (65, (.aload_n 0, 1)) (List.mem_of_getElem? (i := 21) rfl)
theorem dX12_look_66 : decode cX12_look 66 = .ok (.getfield 358, 3) := dgX12_look_0 (66, (.getfield 358, 3)) (List.mem_of_getElem? (i := 22) rfl)
theorem dX12_look_69 : decode cX12_look 69 = .ok (.ireturn, 1) := dgX12_look_0 (69, (.ireturn, 1)) (List.mem_of_getElem? (i := 23) rfl)
theorem dX12_look_70 : decode cX12_look 70 = .ok (.aload_n 0, 1) := dgX12_look_0 (70, (.aload_n 0, 1)) (List.mem_of_getElem? (i := 24) rfl)
theorem dX12_look_71 : decode cX12_look 71 = .ok (.getfield 358, 3) := dgX12_look_0 (71, (.getfield 358, 3)) (List.mem_of_getElem? (i := 25) rfl)
theorem dX12_look_74 : decode cX12_look 74 = .ok (.ifCond .ne 7, 3) := dgX12_look_0 (74, (.ifCond .ne 7, 3)) (List.mem_of_getElem? (i := 26) rfl)
theorem dX12_look_77 : decode cX12_look 77 = .ok (.iconst (-1), 1) := dgX12_look_0 (77, (.iconst (-1), 1)) (List.mem_of_getElem? (i := 27) rfl)
theorem dX12_look_78 : decode cX12_look 78 = .ok (.goto 17, 3) := dgX12_look_0 (78, (.goto 17, 3)) (List.mem_of_getElem? (i := 28) rfl)
theorem dX12_look_81 : decode cX12_look 81 = .ok (.aload_n 0, 1) := dgX12_look_0 (81, (.aload_n 0, 1)) (List.mem_of_getElem? (i := 29) rfl)
theorem dX12_look_82 : decode cX12_look 82 = .ok (.getfield 82, 3) := dgX12_look_0 (82, (.getfield 82, 3)) (List.mem_of_getElem? (i := 30) rfl)
theorem dX12_look_85 : decode cX12_look 85 = .ok (.aload_n 0, 1) := dgX12_look_0 (85, (.aload_n 0, 1)) (List.mem_of_getElem? (i := 31) rfl)
theorem dX12_look_86 : decode cX12_look 86 = .ok (.getfield 358, 3) := dgX12_look_0 (86, (.getfield 358, 3)) (List.mem_of_getElem? (i := 32) rfl)
theorem dX12_look_89 : decode cX12_look 89 = .ok (.iconst 1, 1) := dgX12_look_0 (89, (.iconst 1, 1)) (List.mem_of_getElem? (i := 33) rfl)
theorem dX12_look_90 : decode cX12_look 90 = .ok (.isub, 1) := dgX12_look_0 (90, (.isub, 1)) (List.mem_of_getElem? (i := 34) rfl)
theorem dX12_look_91 : decode cX12_look 91 = .ok (.iaload, 1) := dgX12_look_0 (91, (.iaload, 1)) (List.mem_of_getElem? (i := 35) rfl)
theorem dX12_look_92 : decode cX12_look 92 = .ok (.bipush 64, 2) := dgX12_look_0 (92, (.bipush 64, 2)) (List.mem_of_getElem? (i := 36) rfl)
theorem dX12_look_94 : decode cX12_look 94 = .ok (.idiv, 1) := dgX12_look_0 (94, (.idiv, 1)) (List.mem_of_getElem? (i := 37) rfl)
theorem dX12_look_95 : decode cX12_look 95 = .ok (.ireturn, 1) := dgX12_look_0 (95, (.ireturn, 1)) (List.mem_of_getElem? (i := 38) rfl)
theorem dX12_look_96 : decode cX12_look 96 = .ok (.aload_n 0, 1) := dgX12_look_0 (96, (.aload_n 0, 1)) (List.mem_of_getElem? (i := 39) rfl)
theorem dgX12_look_1 : ∀ r ∈ ([(97, (.getfield 361, 3)), (100, (.ireturn, 1)), (101, (.aload_n 0, 1)), (102, (.getfield 368, 3)), (105, (.ireturn, 1)), (106, (.iconst (-1), 1)), (107, (.ireturn, 1))] : List (Nat × (Instr × Nat))), decode cX12_look r.1 = .ok r.2 := by decide +kernel
theorem dX12_look_97 : decode cX12_look 97 = .ok (.getfield 361, 3) := dgX12_look_1 (97, (.getfield 361, 3)) (List.mem_of_getElem? (i := 0) rfl)
theorem dX12_look_100 : decode cX12_look 100 = .ok (.ireturn, 1) := dgX12_look_1 (100, (.ireturn, 1)) (List.mem_of_getElem? (i := 1) rfl)
theorem dX12_look_101 : decode cX12_look 101 = .ok (.aload_n 0, 1) := dgX12_look_1 (101, (.aload_n 0, 1)) (List.mem_of_getElem? (i := 2) rfl)
theorem dX12_look_102 : decode cX12_look 102 = .ok (.getfield 368, 3) := dgX12_look_1 (102, (.getfield 368, 3)) (List.mem_of_getElem? (i := 3) rfl)
theorem dX12_look_105 : decode cX12_look 105 = .ok (.ireturn, 1) := dgX12_look_1 (105, (.ireturn, 1)) (List.mem_of_getElem? (i := 4) rfl)
theorem dX12_look_106 : decode cX12_look 106 = .ok (.iconst (-1), 1) := dgX12_look_1 (106, (.iconst (-1), 1)) (List.mem_of_getElem? (i := 5) rfl)
theorem dX12_look_107 : decode cX12_look 107 = .ok (.ireturn, 1) := dgX12_look_1 (107, (.ireturn, 1)) (List.mem_of_getElem? (i := 6) rfl)
theorem ml_X12_401 : Cond.methodLink RX12 401 yX12_go ∈ tblG := tg 1610 (by decide +kernel) (by decide +kernel)
theorem im_X12_go : Cond.instanceMethod yX12_go ∈ tblG := tg 1612 (by decide +kernel) (by decide +kernel)
theorem se_X12_go : Cond.selects RX12 yX12_go yX12_go ∈ tblG := tg 62 (by decide +kernel) (by decide +kernel)
theorem cd_X12_go : Cond.code yX12_go cX12_go 7 none ∈ tblG := tg 1613 (by decide +kernel) (by decide +kernel)
theorem gW_X12_go : GoodIn tblG (wsG yX12_go cX12_go 7 none) := tgi cd_X12_go
theorem gV_X12_401 : GoodIn tblG (wsV RX12 401 RX12 yX12_go (wsG yX12_go cX12_go 7 none)) := tgV ml_X12_401 im_X12_go se_X12_go ini_X12 gW_X12_go
theorem hv_X12_go : yX12_go.cls = RX12 ∧ yX12_go.cls ≠ "java/lang/invoke/MethodHandle" ∧ yX12_go.cls ≠ "java/lang/invoke/VarHandle" ∧ (parseMethodDescriptor yX12_go.desc).map (fun d => d.parameters.length) = some 4 := by decide +kernel
set_option maxHeartbeats 4000000 in
set_option maxRecDepth 100000 in
theorem n_look (l : Launch) (G : g5_G) (b_o b_ro b_se b_re b_pt b_rf b_im b_ke b_tp b_nl b_op b_ar b_pi b_pa b_ws b_hw b_ip b_ah b_be b_me b_tr b_ld b_wn : Nat) (sz : Nat) (u_th : Int32) (u_sa : Int32) (u_fd : Int32) (u_td : Int32) (u_fr : Int32) (u_to : Int32) (u_so : Int32) (u_fa : Int32) (u_bd : Int32) (u_nc : Int32) (u_co : Int32) (u_le : Int32) (u_pd : Int32) (u_od : Int32) (u_la : Int32) (u_bk : Int32) (u_ce : Int32) (u_ho : Int32) (u_wy : Int32) (u_bt : Int32) (u_ps : Int32) (u_tg : Int32) (u_sn : Int32) (u_ic : Int32) (u_wd : Int32) (u_id : Int32) (p_1 : Int32) (p_2 : Int32) (p_3 : Int32) (p_4 : Int32) (u_wo : Int64) (u_va : Int64) (u_su : Int64) (u_st : Int64) (v_ro : Nat → Int32) (v_se : Nat → Int64) (v_re : Nat → Int64) (v_pt : Nat → Int32) (h_u_td : 0 ≤ u_td.toInt ∧ u_td.toInt ≤ 400) (h_u_fr : 0 ≤ u_fr.toInt ∧ u_fr.toInt ≤ 400) (h_u_to : 0 ≤ u_to.toInt ∧ u_to.toInt ≤ 400) (h_u_bd : 0 ≤ u_bd.toInt ∧ u_bd.toInt ≤ 1) (h_u_nc : 0 ≤ u_nc.toInt ∧ u_nc.toInt ≤ 12) (h_u_co : 0 ≤ u_co.toInt ∧ u_co.toInt ≤ 400) (h_u_pd : 0 ≤ u_pd.toInt ∧ u_pd.toInt ≤ 400) (h_u_la : 0 ≤ u_la.toInt ∧ u_la.toInt ≤ 4840) (h_u_bk : 0 ≤ u_bk.toInt ∧ u_bk.toInt ≤ 1) (h_u_ce : 0 ≤ u_ce.toInt ∧ u_ce.toInt ≤ 63) (h_u_ho : 0 ≤ u_ho.toInt ∧ u_ho.toInt ≤ 23) (h_u_wy : 0 ≤ u_wy.toInt ∧ u_wy.toInt ≤ 3) (h_u_bt : 0 ≤ u_bt.toInt ∧ u_bt.toInt ≤ 1000000) (h_u_ps : 0 ≤ u_ps.toInt ∧ u_ps.toInt ≤ 200) (h_u_ic : 0 ≤ u_ic.toInt ∧ u_ic.toInt ≤ 1) (h_u_id : 0 ≤ u_id.toInt ∧ u_id.toInt ≤ 1) (r_ro : MI v_ro) (r_pt : PTI v_pt) : Met l yX12_look (wsG yX12_look cX12_look 5 (some .int)) ({ frames := 7, cells := 0, slots := 0, locals := 176 }) (va_Pc [.ref b_o, .int p_1, .int p_2, .int p_3, .int p_4] (g5_P G [(b_o, (oc12 u_th u_sa b_rf b_ro b_im b_ke u_fd b_tp u_td u_fr u_to u_so u_wo u_fa u_bd u_nc b_nl u_co b_op b_ar u_le b_pi b_pa u_pd u_od b_ws b_hw u_la b_se b_re u_bk u_va u_su u_ce u_ho u_wy u_bt u_ps b_pt u_tg u_sn b_ip u_ic b_ah b_be b_me u_wd b_tr b_ld u_st b_wn u_id)), (b_ro, (arI G 5740 v_ro)), (b_se, (arJ G 13 v_se)), (b_re, (arJ G 400 v_re)), (b_pt, (arI G 200 v_pt))] sz)) (va_Qi (fun (r : Int32) (u : va_W) => (∃ (o_r : Int32) (o_th : Int32) (o_la : Int32) (o_bk : Int32) (o_va : Int64) (o_su : Int64) (o_ce : Int32) (o_ho : Int32) (o_wy : Int32) (o_bt : Int32) (o_ps : Int32) (o_tg : Int32) (o_sn : Int32) (o_se : Nat → Int64) (o_re : Nat → Int64) (o_pt : Nat → Int32), (0 ≤ o_la.toInt ∧ o_la.toInt ≤ 4840) ∧ (0 ≤ o_bk.toInt ∧ o_bk.toInt ≤ 1) ∧ (0 ≤ o_ce.toInt ∧ o_ce.toInt ≤ 63) ∧ (0 ≤ o_ho.toInt ∧ o_ho.toInt ≤ 23) ∧ (0 ≤ o_wy.toInt ∧ o_wy.toInt ≤ 3) ∧ (0 ≤ o_bt.toInt ∧ o_bt.toInt ≤ 1000000) ∧ (0 ≤ o_ps.toInt ∧ o_ps.toInt ≤ 200) ∧ (PTI o_pt) ∧ (r = o_r) ∧ (u = [(b_o, (oc12 o_th u_sa b_rf b_ro b_im b_ke u_fd b_tp u_td u_fr u_to u_so u_wo u_fa u_bd u_nc b_nl u_co b_op b_ar u_le b_pi b_pa u_pd u_od b_ws b_hw o_la b_se b_re o_bk o_va o_su o_ce o_ho o_wy o_bt o_ps b_pt o_tg o_sn b_ip u_ic b_ah b_be b_me u_wd b_tr b_ld u_st b_wn u_id)), (b_ro, (arI G 5740 v_ro)), (b_se, (arJ G 13 o_se)), (b_re, (arJ G 400 o_re)), (b_pt, (arI G 200 o_pt))]))) (g5_B G (va_A [(b_o, (oc12 u_th u_sa b_rf b_ro b_im b_ke u_fd b_tp u_td u_fr u_to u_so u_wo u_fa u_bd u_nc b_nl u_co b_op b_ar u_le b_pi b_pa u_pd u_od b_ws b_hw u_la b_se b_re u_bk u_va u_su u_ce u_ho u_wy u_bt u_ps b_pt u_tg u_sn b_ip u_ic b_ah b_be b_me u_wd b_tr b_ld u_st b_wn u_id)), (b_ro, (arI G 5740 v_ro)), (b_se, (arJ G 13 v_se)), (b_re, (arJ G 400 v_re)), (b_pt, (arI G 200 v_pt))] sz)) (va_A [(b_o, (oc12 u_th u_sa b_rf b_ro b_im b_ke u_fd b_tp u_td u_fr u_to u_so u_wo u_fa u_bd u_nc b_nl u_co b_op b_ar u_le b_pi b_pa u_pd u_od b_ws b_hw u_la b_se b_re u_bk u_va u_su u_ce u_ho u_wy u_bt u_ps b_pt u_tg u_sn b_ip u_ic b_ah b_be b_me u_wd b_tr b_ld u_st b_wn u_id)), (b_ro, (arI G 5740 v_ro)), (b_se, (arJ G 13 v_se)), (b_re, (arJ G 400 v_re)), (b_pt, (arI G 200 v_pt))] sz)) 0 0 (va_A [(b_o, (oc12 u_th u_sa b_rf b_ro b_im b_ke u_fd b_tp u_td u_fr u_to u_so u_wo u_fa u_bd u_nc b_nl u_co b_op b_ar u_le b_pi b_pa u_pd u_od b_ws b_hw u_la b_se b_re u_bk u_va u_su u_ce u_ho u_wy u_bt u_ps b_pt u_tg u_sn b_ip u_ic b_ah b_be b_me u_wd b_tr b_ld u_st b_wn u_id)), (b_ro, (arI G 5740 v_ro)), (b_se, (arJ G 13 v_se)), (b_re, (arJ G 400 v_re)), (b_pt, (arI G 200 v_pt))] sz) := by
  refine Met.ofW (cc := cX12_look) (maxL := 5) (ret := (some .int)) (by decide +kernel) rfl ?_
  intro p e s m args below meth c s₁ B hml hv
  obtain ⟨rfl, hsz, hP, hK, hD0, hN, hT⟩ := hv
  have hx := B.exec
  have hb := B.bytes
  have hr := B.returns
  have hts : ∀ w ∈ tblG, w.before _ s = true := fun w h => atoms_spec (ws := (wsG yX12_look cX12_look 5 (some .int))) B.pre w (List.mem_cons_of_mem _ h)
  have hown : s.vm.findClass RX12 = some m.cls := findClass_of_methodNamed B.named
  have hlocks := B.notSynchronized
  subst hsz
  have hD := hD0.self (sz := s.heap.size)
  generalize hAe : va_A [(b_o, (oc12 u_th u_sa b_rf b_ro b_im b_ke u_fd b_tp u_td u_fr u_to u_so u_wo u_fa u_bd u_nc b_nl u_co b_op b_ar u_le b_pi b_pa u_pd u_od b_ws b_hw u_la b_se b_re u_bk u_va u_su u_ce u_ho u_wy u_bt u_ps b_pt u_tg u_sn b_ip u_ic b_ah b_be b_me u_wd b_tr b_ld u_st b_wn u_id)), (b_ro, (arI G 5740 v_ro)), (b_se, (arJ G 13 v_se)), (b_re, (arJ G 400 v_re)), (b_pt, (arI G 200 v_pt))] s.heap.size = A at hD hT ⊢
  have hA : ∀ q : Nat, s.heap.size ≤ q → A q := fun q h => by rw [← hAe]; exact Or.inr h
  have hS : va_S A s.heap s.heap [] := va_S.rf
  replace hP : va_P G.1 vwCl [(b_o, (oc12 u_th u_sa b_rf b_ro b_im b_ke u_fd b_tp u_td u_fr u_to u_so u_wo u_fa u_bd u_nc b_nl u_co b_op b_ar u_le b_pi b_pa u_pd u_od b_ws b_hw u_la b_se b_re u_bk u_va u_su u_ce u_ho u_wy u_bt u_ps b_pt u_tg u_sn b_ip u_ic b_ah b_be b_me u_wd b_tr b_ld u_st b_wn u_id)), (b_ro, (arI G 5740 v_ro)), (b_se, (arJ G 13 v_se)), (b_re, (arJ G 400 v_re)), (b_pt, (arI G 200 v_pt))] s.heap := hP
  have hl := lv_entry ([.ref b_o, .int p_1, .int p_2, .int p_3, .int p_4]) (n := 5) (Nat.le_of_ble_eq_true rfl)
  rw [lg_entry_eq]
  generalize (lg_sl ([.ref b_o, .int p_1, .int p_2, .int p_3, .int p_4]) ++ List.replicate (5 - (lg_sl ([.ref b_o, .int p_1, .int p_2, .int p_3, .int p_4])).length) Slot.unset).toArray = ls at hl ⊢
  replace hl : lv_has ls 5 [(0, .ref b_o), (1, .int p_1), (2, .int p_2), (3, .int p_3), (4, .int p_4)] := hl
  refine lv_aload_n hx hb dX12_look_0 rfl (lv_at hl 0 rfl) ?_
  refine lv_iconst (v := 0) hx hb dX12_look_1 (by decide +kernel) ?_
  refine va_put (D := G.1) (ci := 12) (v := .int 0) (ty := .int) (C := RX12) (T := TX12) (N := 52) hx hb hts inG_X12 tyX12 tyX12_ok nmX12 hown hK hP hD hS 0 rfl rfl 0 (by decide +kernel) (hts _ fl_X12_107) (fun _ h9 => h9) rfl (by decide +kernel) rfl rfl (Nat.le_of_ble_eq_true rfl) dX12_look_2 ?_
  clear hP hD hS
  intro H locs hP hD hS
  refine g5_rs [(b_o, (oc12 0 u_sa b_rf b_ro b_im b_ke u_fd b_tp u_td u_fr u_to u_so u_wo u_fa u_bd u_nc b_nl u_co b_op b_ar u_le b_pi b_pa u_pd u_od b_ws b_hw u_la b_se b_re u_bk u_va u_su u_ce u_ho u_wy u_bt u_ps b_pt u_tg u_sn b_ip u_ic b_ah b_be b_me u_wd b_tr b_ld u_st b_wn u_id)), (b_ro, (arI G 5740 v_ro)), (b_se, (arJ G 13 v_se)), (b_re, (arJ G 400 v_re)), (b_pt, (arI G 200 v_pt))] hP hD ?_
  clear hP hD
  intro hP hD
  refine lv_iload_n hx hb dX12_look_5 rfl (lv_at hl 1 rfl) ?_
  refine lv_iload_n hx hb dX12_look_6 rfl (lv_at hl 2 rfl) ?_
  refine lv_iload_n hx hb dX12_look_7 rfl (lv_at hl 3 rfl) ?_
  obtain ⟨hPc, hDc, hFc⟩ := g5_sub3 (wc := []) hP hD hS hA [] (by decide +kernel) rfl
  refine va_calli (va_runS (As := [.int p_1, .int p_2, .int p_3]) (rest := []) ⟨hx, hb, hml, hown, hts⟩ (n_isLook l G H.size p_1 p_2 p_3) (va_cwS 3 hts gS_X12_397 rfl rfl rfl hs_X12_isLook ⟨Nat.le_of_ble_eq_true rfl, Nat.le_of_ble_eq_true rfl⟩) (g5_preS hPc hK hDc hN hT hS hFc) rfl rfl hl.1 rfl (lv_room (Nat.le_of_ble_eq_true rfl)) dX12_look_8 ⟨Nat.le_of_ble_eq_true rfl, Nat.le_of_ble_eq_true rfl⟩) hS (fun q _ h => hFc q h) hFc (fun r u t H locs ht hvm hw hB hz1 hk1 hS => ?_)
  obtain ⟨hP1, hD1⟩ := hB
  have hP1 := g5_ht ht hP1
  rcases hw with ⟨(i_1 : 0 ≤ p_1.toInt ∧ p_1.toInt ≤ 63), (i_2 : 0 ≤ p_2.toInt ∧ p_2.toInt ≤ 3), (i_3 : 0 ≤ p_3.toInt ∧ p_3.toInt ≤ 23), rfl, rfl⟩ | ⟨rfl, rfl⟩
  ·
    have hJ9 := g5_same hP hk1
    clear hP hPc hDc hFc ht hvm hz1 hk1 hP1 hD1
    have hP := hJ9
    clear hJ9
    refine lv_if_ne (tgt := 16) hx hb dX12_look_11 (by decide +kernel) (fun c_4 => ?_) (fun c_4 => ?_)
    ·
      refine lv_aload_n hx hb dX12_look_16 rfl (lv_at hl 0 rfl) ?_
      refine lv_iload_n hx hb dX12_look_17 rfl (lv_at hl 1 rfl) ?_
      refine lv_iload_n hx hb dX12_look_18 rfl (lv_at hl 2 rfl) ?_
      refine lv_iload_n hx hb dX12_look_19 rfl (lv_at hl 3 rfl) ?_
      refine lv_iconst (v := 0) hx hb dX12_look_20 (by decide +kernel) ?_
      obtain ⟨hPc, hDc, hFc⟩ := g5_sub3 (wc := [(b_o, (oc12 0 u_sa b_rf b_ro b_im b_ke u_fd b_tp u_td u_fr u_to u_so u_wo u_fa u_bd u_nc b_nl u_co b_op b_ar u_le b_pi b_pa u_pd u_od b_ws b_hw u_la b_se b_re u_bk u_va u_su u_ce u_ho u_wy u_bt u_ps b_pt u_tg u_sn b_ip u_ic b_ah b_be b_me u_wd b_tr b_ld u_st b_wn u_id)), (b_ro, (arI G 5740 v_ro)), (b_se, (arJ G 13 v_se)), (b_re, (arJ G 400 v_re)), (b_pt, (arI G 200 v_pt))]) hP hD hS hA [0, 1, 2, 3, 4] (by decide +kernel) rfl
      refine va_callv (va_runV (As := [.int p_1, .int p_2, .int p_3, .int 0]) (rest := []) ⟨hx, hb, hml, hown, hts⟩ (n_go l G b_o b_ro b_se b_re b_pt b_rf b_im b_ke b_tp b_nl b_op b_ar b_pi b_pa b_ws b_hw b_ip b_ah b_be b_me b_tr b_ld b_wn H.size 0 u_sa u_fd u_td u_fr u_to u_so u_fa u_bd u_nc u_co u_le u_pd u_od u_la u_bk u_ce u_ho u_wy u_bt u_ps u_tg u_sn u_ic u_wd u_id p_1 p_2 p_3 0 u_wo u_va u_su u_st v_ro v_se v_re v_pt h_u_td h_u_fr h_u_to h_u_bd h_u_nc h_u_co h_u_pd h_u_la h_u_bk h_u_ce h_u_ho h_u_wy h_u_bt h_u_ps h_u_ic h_u_id i_1 i_2 i_3 (r_ro) (r_pt)) (cwV 4 hts gV_X12_401 rfl rfl rfl hv_X12_go ⟨Nat.le_of_ble_eq_true rfl, Nat.le_of_ble_eq_true rfl⟩) (g5_preV hPc hK hDc hN hT hS hFc (ci := 12) (q0 := 0) rfl rfl) rfl rfl hl.1 rfl (lv_room (Nat.le_of_ble_eq_true rfl)) dX12_look_21 ⟨Nat.le_of_ble_eq_true rfl, Nat.le_of_ble_eq_true rfl⟩) hS (fun q _ h => hFc q h) hFc (fun u t H locs ht hvm hw hB hz1 hk1 hS => ?_)
      obtain ⟨hP1, hD1⟩ := hB
      have hP1 := g5_ht ht hP1
      obtain ⟨z13, z14, z15, z16, z17, z18, z19, z20, z21, z22, z23, z24, z25, z26, (i_5 : 0 ≤ z13.toInt ∧ z13.toInt ≤ 4840), (i_6 : 0 ≤ z14.toInt ∧ z14.toInt ≤ 1), (i_7 : 0 ≤ z17.toInt ∧ z17.toInt ≤ 63), (i_8 : 0 ≤ z18.toInt ∧ z18.toInt ≤ 23), (i_9 : 0 ≤ z19.toInt ∧ z19.toInt ≤ 3), (i_10 : 0 ≤ z20.toInt ∧ z20.toInt ≤ 1000000), (i_11 : 0 ≤ z21.toInt ∧ z21.toInt ≤ 200), (i_12 : PTI z26), rfl⟩ := hw
      have hJ9 := va_join (wr := []) hP hD [0, 1, 2, 3, 4] [] rfl rfl (by decide +kernel) (by decide +kernel) hk1 hFc hP1 hD1
      clear hP hD hPc hDc hFc ht hvm hz1 hk1 hP1 hD1
      obtain ⟨hP, hD⟩ := hJ9
      refine g5_rs [(b_o, (oc12 0 u_sa b_rf b_ro b_im b_ke u_fd b_tp u_td u_fr u_to u_so u_wo u_fa u_bd u_nc b_nl u_co b_op b_ar u_le b_pi b_pa u_pd u_od b_ws b_hw z13 b_se b_re z14 z15 z16 z17 z18 z19 z20 z21 b_pt z22 z23 b_ip u_ic b_ah b_be b_me u_wd b_tr b_ld u_st b_wn u_id)), (b_ro, (arI G 5740 v_ro)), (b_se, (arJ G 13 z24)), (b_re, (arJ G 400 z25)), (b_pt, (arI G 200 z26))] hP hD ?_
      clear hP hD
      intro hP hD
      refine lv_iload hx hb dX12_look_24 (lv_at hl 4 rfl) ?_
      rcases (show p_4.toInt = 0 ∨ p_4.toInt = 1 ∨ p_4.toInt = 2 ∨ p_4.toInt = 3 ∨ p_4.toInt = 4 ∨ p_4.toInt < 0 ∨ p_4.toInt > 4 by omega) with s_27 | s_27 | s_27 | s_27 | s_27 | s_27 | s_27
      ·
        have i_27 : p_4.toInt = 0 := by omega
        refine lv_tableIn (tgt := 60) hx hb dX12_look_26 (by omega) (by omega) (by rw [s_27]; rfl) (by decide +kernel) ?_
        refine lv_aload_n hx hb dX12_look_60 rfl (lv_at hl 0 rfl) ?_
        refine va_get (D := G.1) (ci := 12) (v := .int z23) (C := RX12) (T := TX12) (N := 52) hx hb hts inG_X12 hown hK hP 0 rfl rfl 40 (by decide +kernel) (hts _ fl_X12_371) (fun _ h9 => h9) rfl dX12_look_61 ?_
        exact W.iret (v := z23) hx hb hr (fun t ht hW => ⟨⟨z23, [(b_o, (oc12 0 u_sa b_rf b_ro b_im b_ke u_fd b_tp u_td u_fr u_to u_so u_wo u_fa u_bd u_nc b_nl u_co b_op b_ar u_le b_pi b_pa u_pd u_od b_ws b_hw z13 b_se b_re z14 z15 z16 z17 z18 z19 z20 z21 b_pt z22 z23 b_ip u_ic b_ah b_be b_me u_wd b_tr b_ld u_st b_wn u_id)), (b_ro, (arI G 5740 v_ro)), (b_se, (arJ G 13 z24)), (b_re, (arJ G 400 z25)), (b_pt, (arI G 200 z26))], rfl, ⟨z23, 0, z13, z14, z15, z16, z17, z18, z19, z20, z21, z22, z23, z24, z25, z26, i_5, i_6, i_7, i_8, i_9, i_10, i_11, i_12, rfl, rfl⟩, by rw [ht]; exact hP.sub [0, 1, 2, 3, 4] rfl, hD.sub [0, 1, 2, 3, 4] (by decide +kernel) rfl⟩, hS.F ht⟩) hS.2.2 dX12_look_64
      ·
        have i_27 : p_4.toInt = 1 := by omega
        refine lv_tableIn (tgt := 65) hx hb dX12_look_26 (by omega) (by omega) (by rw [s_27]; rfl) (by decide +kernel) ?_
        refine lv_aload_n hx hb dX12_look_65 rfl (lv_at hl 0 rfl) ?_
        refine va_get (D := G.1) (ci := 12) (v := .int z21) (C := RX12) (T := TX12) (N := 52) hx hb hts inG_X12 hown hK hP 0 rfl rfl 37 (by decide +kernel) (hts _ fl_X12_358) (fun _ h9 => h9) rfl dX12_look_66 ?_
        exact W.iret (v := z21) hx hb hr (fun t ht hW => ⟨⟨z21, [(b_o, (oc12 0 u_sa b_rf b_ro b_im b_ke u_fd b_tp u_td u_fr u_to u_so u_wo u_fa u_bd u_nc b_nl u_co b_op b_ar u_le b_pi b_pa u_pd u_od b_ws b_hw z13 b_se b_re z14 z15 z16 z17 z18 z19 z20 z21 b_pt z22 z23 b_ip u_ic b_ah b_be b_me u_wd b_tr b_ld u_st b_wn u_id)), (b_ro, (arI G 5740 v_ro)), (b_se, (arJ G 13 z24)), (b_re, (arJ G 400 z25)), (b_pt, (arI G 200 z26))], rfl, ⟨z21, 0, z13, z14, z15, z16, z17, z18, z19, z20, z21, z22, z23, z24, z25, z26, i_5, i_6, i_7, i_8, i_9, i_10, i_11, i_12, rfl, rfl⟩, by rw [ht]; exact hP.sub [0, 1, 2, 3, 4] rfl, hD.sub [0, 1, 2, 3, 4] (by decide +kernel) rfl⟩, hS.F ht⟩) hS.2.2 dX12_look_69
      ·
        have i_27 : p_4.toInt = 2 := by omega
        refine lv_tableIn (tgt := 70) hx hb dX12_look_26 (by omega) (by omega) (by rw [s_27]; rfl) (by decide +kernel) ?_
        refine lv_aload_n hx hb dX12_look_70 rfl (lv_at hl 0 rfl) ?_
        refine va_get (D := G.1) (ci := 12) (v := .int z21) (C := RX12) (T := TX12) (N := 52) hx hb hts inG_X12 hown hK hP 0 rfl rfl 37 (by decide +kernel) (hts _ fl_X12_358) (fun _ h9 => h9) rfl dX12_look_71 ?_
        refine lv_if_ne (tgt := 81) hx hb dX12_look_74 (by decide +kernel) (fun c_28 => ?_) (fun c_28 => ?_)
        ·
          have n_28 : gNe (z21.toInt) (0) := g5_ne (a := z21.toInt) (b := 0) rfl (by decide +kernel) c_28
          have i_28 : z21.toInt ≥ 1 := by have z := g5_ne (a := z21.toInt) (b := 0) (by rfl) (by decide +kernel) c_28; omega
          refine lv_aload_n hx hb dX12_look_81 rfl (lv_at hl 0 rfl) ?_
          refine va_get (D := G.1) (ci := 12) (v := .ref b_pt) (C := RX12) (T := TX12) (N := 52) hx hb hts inG_X12 hown hK hP 0 rfl rfl 38 (by decide +kernel) (hts _ fl_X12_82) (fun _ h9 => h9) rfl dX12_look_82 ?_
          refine lv_aload_n hx hb dX12_look_85 rfl (lv_at hl 0 rfl) ?_
          refine va_get (D := G.1) (ci := 12) (v := .int z21) (C := RX12) (T := TX12) (N := 52) hx hb hts inG_X12 hown hK hP 0 rfl rfl 37 (by decide +kernel) (hts _ fl_X12_358) (fun _ h9 => h9) rfl dX12_look_86 ?_
          refine lv_iconst (v := 1) hx hb dX12_look_89 (by decide +kernel) ?_
          refine lv_isub hx hb dX12_look_90 ?_
          have t_29 : (z21 - 1).toInt = z21.toInt - 1 := g5_isub (a := z21.toInt) (b := 1) (by rfl) (by decide +kernel) (by omega) (by omega)
          refine va_iald hx hb hK hP 4 0 rfl rfl (i := (z21 - 1)) (vp_in_iff.mpr ⟨by omega, by omega⟩) dX12_look_91 ?_
          have hr_30 : 0 ≤ (z26 (z21 - 1).toNatClampNeg).toInt ∧ (z26 (z21 - 1).toNatClampNeg).toInt ≤ 1535 := i_12 ((z21 - 1).toNatClampNeg)
          refine lv_bipush (v := 64) hx hb dX12_look_92 (by decide +kernel) ?_
          refine lv_idiv hx hb dX12_look_94 (by decide +kernel) ?_
          have t_31 : ((z26 (z21 - 1).toNatClampNeg) / 64).toInt = (z26 (z21 - 1).toNatClampNeg).toInt / 64 := g5_idiv (a := (z26 (z21 - 1).toNatClampNeg).toInt) (b := 64) rfl (by decide +kernel) (by omega) (by decide +kernel)
          exact W.iret (v := ((z26 (z21 - 1).toNatClampNeg) / 64)) hx hb hr (fun t ht hW => ⟨⟨((z26 (z21 - 1).toNatClampNeg) / 64), [(b_o, (oc12 0 u_sa b_rf b_ro b_im b_ke u_fd b_tp u_td u_fr u_to u_so u_wo u_fa u_bd u_nc b_nl u_co b_op b_ar u_le b_pi b_pa u_pd u_od b_ws b_hw z13 b_se b_re z14 z15 z16 z17 z18 z19 z20 z21 b_pt z22 z23 b_ip u_ic b_ah b_be b_me u_wd b_tr b_ld u_st b_wn u_id)), (b_ro, (arI G 5740 v_ro)), (b_se, (arJ G 13 z24)), (b_re, (arJ G 400 z25)), (b_pt, (arI G 200 z26))], rfl, ⟨((z26 (z21 - 1).toNatClampNeg) / 64), 0, z13, z14, z15, z16, z17, z18, z19, z20, z21, z22, z23, z24, z25, z26, i_5, i_6, i_7, i_8, i_9, i_10, i_11, i_12, rfl, rfl⟩, by rw [ht]; exact hP.sub [0, 1, 2, 3, 4] rfl, hD.sub [0, 1, 2, 3, 4] (by decide +kernel) rfl⟩, hS.F ht⟩) hS.2.2 dX12_look_95
        ·
          have i_28 : z21.toInt = 0 := g5_neN (a := z21.toInt) (b := 0) rfl (by decide +kernel) c_28
          refine lv_iconst (v := (-1)) hx hb dX12_look_77 (by decide +kernel) ?_
          refine lv_goto (tgt := 95) hx hb dX12_look_78 (by decide +kernel) ?_
          exact W.iret (v := (-1)) hx hb hr (fun t ht hW => ⟨⟨(-1), [(b_o, (oc12 0 u_sa b_rf b_ro b_im b_ke u_fd b_tp u_td u_fr u_to u_so u_wo u_fa u_bd u_nc b_nl u_co b_op b_ar u_le b_pi b_pa u_pd u_od b_ws b_hw z13 b_se b_re z14 z15 z16 z17 z18 z19 z20 z21 b_pt z22 z23 b_ip u_ic b_ah b_be b_me u_wd b_tr b_ld u_st b_wn u_id)), (b_ro, (arI G 5740 v_ro)), (b_se, (arJ G 13 z24)), (b_re, (arJ G 400 z25)), (b_pt, (arI G 200 z26))], rfl, ⟨(-1), 0, z13, z14, z15, z16, z17, z18, z19, z20, z21, z22, z23, z24, z25, z26, i_5, i_6, i_7, i_8, i_9, i_10, i_11, i_12, rfl, rfl⟩, by rw [ht]; exact hP.sub [0, 1, 2, 3, 4] rfl, hD.sub [0, 1, 2, 3, 4] (by decide +kernel) rfl⟩, hS.F ht⟩) hS.2.2 dX12_look_95
      ·
        have i_27 : p_4.toInt = 3 := by omega
        refine lv_tableIn (tgt := 96) hx hb dX12_look_26 (by omega) (by omega) (by rw [s_27]; rfl) (by decide +kernel) ?_
        refine lv_aload_n hx hb dX12_look_96 rfl (lv_at hl 0 rfl) ?_
        refine va_get (D := G.1) (ci := 12) (v := .int z20) (C := RX12) (T := TX12) (N := 52) hx hb hts inG_X12 hown hK hP 0 rfl rfl 36 (by decide +kernel) (hts _ fl_X12_361) (fun _ h9 => h9) rfl dX12_look_97 ?_
        exact W.iret (v := z20) hx hb hr (fun t ht hW => ⟨⟨z20, [(b_o, (oc12 0 u_sa b_rf b_ro b_im b_ke u_fd b_tp u_td u_fr u_to u_so u_wo u_fa u_bd u_nc b_nl u_co b_op b_ar u_le b_pi b_pa u_pd u_od b_ws b_hw z13 b_se b_re z14 z15 z16 z17 z18 z19 z20 z21 b_pt z22 z23 b_ip u_ic b_ah b_be b_me u_wd b_tr b_ld u_st b_wn u_id)), (b_ro, (arI G 5740 v_ro)), (b_se, (arJ G 13 z24)), (b_re, (arJ G 400 z25)), (b_pt, (arI G 200 z26))], rfl, ⟨z20, 0, z13, z14, z15, z16, z17, z18, z19, z20, z21, z22, z23, z24, z25, z26, i_5, i_6, i_7, i_8, i_9, i_10, i_11, i_12, rfl, rfl⟩, by rw [ht]; exact hP.sub [0, 1, 2, 3, 4] rfl, hD.sub [0, 1, 2, 3, 4] (by decide +kernel) rfl⟩, hS.F ht⟩) hS.2.2 dX12_look_100
      ·
        have i_27 : p_4.toInt = 4 := by omega
        refine lv_tableIn (tgt := 101) hx hb dX12_look_26 (by omega) (by omega) (by rw [s_27]; rfl) (by decide +kernel) ?_
        refine lv_aload_n hx hb dX12_look_101 rfl (lv_at hl 0 rfl) ?_
        refine va_get (D := G.1) (ci := 12) (v := .int z22) (C := RX12) (T := TX12) (N := 52) hx hb hts inG_X12 hown hK hP 0 rfl rfl 39 (by decide +kernel) (hts _ fl_X12_368) (fun _ h9 => h9) rfl dX12_look_102 ?_
        exact W.iret (v := z22) hx hb hr (fun t ht hW => ⟨⟨z22, [(b_o, (oc12 0 u_sa b_rf b_ro b_im b_ke u_fd b_tp u_td u_fr u_to u_so u_wo u_fa u_bd u_nc b_nl u_co b_op b_ar u_le b_pi b_pa u_pd u_od b_ws b_hw z13 b_se b_re z14 z15 z16 z17 z18 z19 z20 z21 b_pt z22 z23 b_ip u_ic b_ah b_be b_me u_wd b_tr b_ld u_st b_wn u_id)), (b_ro, (arI G 5740 v_ro)), (b_se, (arJ G 13 z24)), (b_re, (arJ G 400 z25)), (b_pt, (arI G 200 z26))], rfl, ⟨z22, 0, z13, z14, z15, z16, z17, z18, z19, z20, z21, z22, z23, z24, z25, z26, i_5, i_6, i_7, i_8, i_9, i_10, i_11, i_12, rfl, rfl⟩, by rw [ht]; exact hP.sub [0, 1, 2, 3, 4] rfl, hD.sub [0, 1, 2, 3, 4] (by decide +kernel) rfl⟩, hS.F ht⟩) hS.2.2 dX12_look_105
      ·
        have i_27 : p_4.toInt < 0 := by omega
        refine lv_tableOut (tgt := 106) hx hb dX12_look_26 (by omega) (by decide +kernel) ?_
        refine lv_iconst (v := (-1)) hx hb dX12_look_106 (by decide +kernel) ?_
        exact W.iret (v := (-1)) hx hb hr (fun t ht hW => ⟨⟨(-1), [(b_o, (oc12 0 u_sa b_rf b_ro b_im b_ke u_fd b_tp u_td u_fr u_to u_so u_wo u_fa u_bd u_nc b_nl u_co b_op b_ar u_le b_pi b_pa u_pd u_od b_ws b_hw z13 b_se b_re z14 z15 z16 z17 z18 z19 z20 z21 b_pt z22 z23 b_ip u_ic b_ah b_be b_me u_wd b_tr b_ld u_st b_wn u_id)), (b_ro, (arI G 5740 v_ro)), (b_se, (arJ G 13 z24)), (b_re, (arJ G 400 z25)), (b_pt, (arI G 200 z26))], rfl, ⟨(-1), 0, z13, z14, z15, z16, z17, z18, z19, z20, z21, z22, z23, z24, z25, z26, i_5, i_6, i_7, i_8, i_9, i_10, i_11, i_12, rfl, rfl⟩, by rw [ht]; exact hP.sub [0, 1, 2, 3, 4] rfl, hD.sub [0, 1, 2, 3, 4] (by decide +kernel) rfl⟩, hS.F ht⟩) hS.2.2 dX12_look_107
      ·
        have i_27 : p_4.toInt > 4 := by omega
        refine lv_tableOut (tgt := 106) hx hb dX12_look_26 (by omega) (by decide +kernel) ?_
        refine lv_iconst (v := (-1)) hx hb dX12_look_106 (by decide +kernel) ?_
        exact W.iret (v := (-1)) hx hb hr (fun t ht hW => ⟨⟨(-1), [(b_o, (oc12 0 u_sa b_rf b_ro b_im b_ke u_fd b_tp u_td u_fr u_to u_so u_wo u_fa u_bd u_nc b_nl u_co b_op b_ar u_le b_pi b_pa u_pd u_od b_ws b_hw z13 b_se b_re z14 z15 z16 z17 z18 z19 z20 z21 b_pt z22 z23 b_ip u_ic b_ah b_be b_me u_wd b_tr b_ld u_st b_wn u_id)), (b_ro, (arI G 5740 v_ro)), (b_se, (arJ G 13 z24)), (b_re, (arJ G 400 z25)), (b_pt, (arI G 200 z26))], rfl, ⟨(-1), 0, z13, z14, z15, z16, z17, z18, z19, z20, z21, z22, z23, z24, z25, z26, i_5, i_6, i_7, i_8, i_9, i_10, i_11, i_12, rfl, rfl⟩, by rw [ht]; exact hP.sub [0, 1, 2, 3, 4] rfl, hD.sub [0, 1, 2, 3, 4] (by decide +kernel) rfl⟩, hS.F ht⟩) hS.2.2 dX12_look_107
    ·
      exact absurd c_4 (by decide +kernel)
  ·
    have hJ9 := g5_same hP hk1
    clear hP hPc hDc hFc ht hvm hz1 hk1 hP1 hD1
    have hP := hJ9
    clear hJ9
    refine lv_if_ne (tgt := 16) hx hb dX12_look_11 (by decide +kernel) (fun c_32 => ?_) (fun c_32 => ?_)
    ·
      exact absurd c_32 (by decide +kernel)
    ·
      refine lv_iconst (v := (-1)) hx hb dX12_look_14 (by decide +kernel) ?_
      exact W.iret (v := (-1)) hx hb hr (fun t ht hW => ⟨⟨(-1), [(b_o, (oc12 0 u_sa b_rf b_ro b_im b_ke u_fd b_tp u_td u_fr u_to u_so u_wo u_fa u_bd u_nc b_nl u_co b_op b_ar u_le b_pi b_pa u_pd u_od b_ws b_hw u_la b_se b_re u_bk u_va u_su u_ce u_ho u_wy u_bt u_ps b_pt u_tg u_sn b_ip u_ic b_ah b_be b_me u_wd b_tr b_ld u_st b_wn u_id)), (b_ro, (arI G 5740 v_ro)), (b_se, (arJ G 13 v_se)), (b_re, (arJ G 400 v_re)), (b_pt, (arI G 200 v_pt))], rfl, ⟨(-1), 0, u_la, u_bk, u_va, u_su, u_ce, u_ho, u_wy, u_bt, u_ps, u_tg, u_sn, v_se, v_re, v_pt, h_u_la, h_u_bk, h_u_ce, h_u_ho, h_u_wy, h_u_bt, h_u_ps, r_pt, rfl, rfl⟩, by rw [ht]; exact hP.sub [0, 1, 2, 3, 4] rfl, hD.sub [0, 1, 2, 3, 4] (by decide +kernel) rfl⟩, hS.F ht⟩) hS.2.2 dX12_look_15
theorem dgX12_point_0 : ∀ r ∈ ([(0, (.aload_n 0, 1)), (1, (.iconst 0, 1)), (2, (.putfield 107, 3)), (5, (.iload_n 1, 1)), (6, (.iload_n 2, 1)), (7, (.iload_n 3, 1)), (8, (.invokestatic 397, 3)), (11, (.ifCond .ne 5, 3)), (14, (.iconst (-1), 1)), (15, (.ireturn, 1)), (16, (.aload_n 0, 1)), (17, (.iload_n 1, 1)), (18, (.iload_n 2, 1)), (19, (.iload_n 3, 1)), (20, (.iconst 0, 1)), (21, (.invokevirtual 401, 3)), (24, (.iload 4, 2)), (26, (.i2l, 1)), (27, (.lconst 0, 1)), (28, (.aload_n 0, 1)), (29, (.getfield 358, 3)), (32, (.i2l, 1)), (33, (.lconst 1, 1)), (34, (.lsub, 1)), (35, (.invokestatic 121, 3)), (38, (.ifCond .eq 13, 3)), (41, (.aload_n 0, 1)), (42, (.getfield 82, 3)), (45, (.iload 4, 2)), (47, (.iaload, 1)), (48, (.goto 4, 3)), (51, (.iconst (-1), 1)), (52, (.ireturn, 1))] : List (Nat × (Instr × Nat))), decode cX12_point r.1 = .ok r.2 := by decide +kernel
theorem dX12_point_0 : decode cX12_point 0 = .ok (.aload_n 0, 1) := dgX12_point_0 (0, (.aload_n 0, 1)) (List.mem_of_getElem? (i := 0) rfl)
theorem dX12_point_1 : decode cX12_point 1 = .ok (.iconst 0, 1) := dgX12_point_0 (1, (.iconst 0, 1)) (List.mem_of_getElem? (i := 1) rfl)
theorem dX12_point_2 : decode cX12_point 2 = .ok (.putfield 107, 3) := dgX12_point_0 (2, (.putfield 107, 3)) (List.mem_of_getElem? (i := 2) rfl)
theorem dX12_point_5 : decode cX12_point 5 = .ok (.iload_n 1, 1) := dgX12_point_0 (5, (.iload_n 1, 1)) (List.mem_of_getElem? (i := 3) rfl)
theorem dX12_point_6 : decode cX12_point 6 = .ok (.iload_n 2, 1) := dgX12_point_0 (6, (.iload_n 2, 1)) (List.mem_of_getElem? (i := 4) rfl)
theorem dX12_point_7 : decode cX12_point 7 = .ok (.iload_n 3, 1) := dgX12_point_0 (7, (.iload_n 3, 1)) (List.mem_of_getElem? (i := 5) rfl)
theorem dX12_point_8 : decode cX12_point 8 = .ok (.invokestatic 397, 3) := dgX12_point_0 (8, (.invokestatic 397, 3)) (List.mem_of_getElem? (i := 6) rfl)
theorem dX12_point_11 : decode cX12_point 11 = .ok (.ifCond .ne 5, 3) := dgX12_point_0 (11, (.ifCond .ne 5, 3)) (List.mem_of_getElem? (i := 7) rfl)
theorem dX12_point_14 : decode cX12_point 14 = .ok (.iconst (-1), 1) := dgX12_point_0 (14, (.iconst (-1), 1)) (List.mem_of_getElem? (i := 8) rfl)
theorem dX12_point_15 : decode cX12_point 15 = .ok (.ireturn, 1) := dgX12_point_0 (15, (.ireturn, 1)) (List.mem_of_getElem? (i := 9) rfl)
theorem dX12_point_16 : decode cX12_point 16 = .ok (.aload_n 0, 1) := dgX12_point_0 (16, (.aload_n 0, 1)) (List.mem_of_getElem? (i := 10) rfl)
theorem dX12_point_17 : decode cX12_point 17 = .ok (.iload_n 1, 1) := dgX12_point_0 (17, (.iload_n 1, 1)) (List.mem_of_getElem? (i := 11) rfl)
theorem dX12_point_18 : decode cX12_point 18 = .ok (.iload_n 2, 1) := dgX12_point_0 (18, (.iload_n 2, 1)) (List.mem_of_getElem? (i := 12) rfl)
theorem dX12_point_19 : decode cX12_point 19 = .ok (.iload_n 3, 1) := dgX12_point_0 (19, (.iload_n 3, 1)) (List.mem_of_getElem? (i := 13) rfl)
theorem dX12_point_20 : decode cX12_point 20 = .ok (.iconst 0, 1) := dgX12_point_0 (20, (.iconst 0, 1)) (List.mem_of_getElem? (i := 14) rfl)
theorem dX12_point_21 : decode cX12_point 21 = .ok (.invokevirtual 401, 3) := dgX12_point_0 (21, (.invokevirtual 401, 3)) (List.mem_of_getElem? (i := 15) rfl)
theorem dX12_point_24 : decode cX12_point 24 = .ok (.iload 4, 2) := dgX12_point_0 (24, (.iload 4, 2)) (List.mem_of_getElem? (i := 16) rfl)
theorem dX12_point_26 : decode cX12_point 26 = .ok (.i2l, 1) := dgX12_point_0 (26, (.i2l, 1)) (List.mem_of_getElem? (i := 17) rfl)
theorem dX12_point_27 : decode cX12_point 27 = .ok (.lconst 0, 1) := dgX12_point_0 (27, (.lconst 0, 1)) (List.mem_of_getElem? (i := 18) rfl)
theorem dX12_point_28 : decode cX12_point 28 = .ok (.aload_n 0, 1) := dgX12_point_0 (28, (.aload_n 0, 1)) (List.mem_of_getElem? (i := 19) rfl)
theorem dX12_point_29 : decode cX12_point 29 = .ok (.getfield 358, 3) := dgX12_point_0 (29, (.getfield 358, 3)) (List.mem_of_getElem? (i := 20) rfl)
theorem dX12_point_32 : decode cX12_point 32 = .ok (.i2l, 1) := dgX12_point_0 (32, (.i2l, 1)) (List.mem_of_getElem? (i := 21) rfl)
theorem dX12_point_33 : decode cX12_point 33 = .ok (.lconst 1, 1) := dgX12_point_0 (33, (.lconst 1, 1)) (List.mem_of_getElem? (i := 22) rfl)
theorem dX12_point_34 : decode cX12_point 34 = .ok (.lsub, 1) := dgX12_point_0 (34, (.lsub, 1)) (List.mem_of_getElem? (i := 23) rfl)
theorem dX12_point_35 : decode cX12_point 35 = .ok (.invokestatic 121, 3) := dgX12_point_0 (35, (.invokestatic 121, 3)) (List.mem_of_getElem? (i := 24) rfl)
theorem dX12_point_38 : decode cX12_point 38 = .ok (.ifCond .eq 13, 3) := dgX12_point_0 (38, (.ifCond .eq 13, 3)) (List.mem_of_getElem? (i := 25) rfl)
theorem dX12_point_41 : decode cX12_point 41 = .ok (.aload_n 0, 1) := dgX12_point_0 (41, (.aload_n 0, 1)) (List.mem_of_getElem? (i := 26) rfl)
theorem dX12_point_42 : decode cX12_point 42 = .ok (.getfield 82, 3) := dgX12_point_0 (42, (.getfield 82, 3)) (List.mem_of_getElem? (i := 27) rfl)
theorem dX12_point_45 : decode cX12_point 45 = .ok (.iload 4, 2) := dgX12_point_0 (45, (.iload 4, 2)) (List.mem_of_getElem? (i := 28) rfl)
theorem dX12_point_47 : decode cX12_point 47 = .ok (.iaload, 1) := dgX12_point_0 (47, (.iaload, 1)) (List.mem_of_getElem? (i := 29) rfl)
theorem dX12_point_48 : decode cX12_point 48 = .ok (.goto 4, 3) := dgX12_point_0 (48, (.goto 4, 3)) (List.mem_of_getElem? (i := 30) rfl)
theorem dX12_point_51 : decode cX12_point 51 = .ok (.iconst (-1), 1) := dgX12_point_0 (51, (.iconst (-1), 1)) (List.mem_of_getElem? (i := 31) rfl)
theorem dX12_point_52 : decode cX12_point 52 = .ok (.ireturn, 1) := dgX12_point_0 (52, (.ireturn, 1)) (List.mem_of_getElem? (i := 32) rfl)
set_option maxHeartbeats 4000000 in
set_option maxRecDepth 100000 in
theorem n_point (l : Launch) (G : g5_G) (b_o b_ro b_se b_re b_pt b_rf b_im b_ke b_tp b_nl b_op b_ar b_pi b_pa b_ws b_hw b_ip b_ah b_be b_me b_tr b_ld b_wn : Nat) (sz : Nat) (u_th : Int32) (u_sa : Int32) (u_fd : Int32) (u_td : Int32) (u_fr : Int32) (u_to : Int32) (u_so : Int32) (u_fa : Int32) (u_bd : Int32) (u_nc : Int32) (u_co : Int32) (u_le : Int32) (u_pd : Int32) (u_od : Int32) (u_la : Int32) (u_bk : Int32) (u_ce : Int32) (u_ho : Int32) (u_wy : Int32) (u_bt : Int32) (u_ps : Int32) (u_tg : Int32) (u_sn : Int32) (u_ic : Int32) (u_wd : Int32) (u_id : Int32) (p_1 : Int32) (p_2 : Int32) (p_3 : Int32) (p_4 : Int32) (u_wo : Int64) (u_va : Int64) (u_su : Int64) (u_st : Int64) (v_ro : Nat → Int32) (v_se : Nat → Int64) (v_re : Nat → Int64) (v_pt : Nat → Int32) (h_u_td : 0 ≤ u_td.toInt ∧ u_td.toInt ≤ 400) (h_u_fr : 0 ≤ u_fr.toInt ∧ u_fr.toInt ≤ 400) (h_u_to : 0 ≤ u_to.toInt ∧ u_to.toInt ≤ 400) (h_u_bd : 0 ≤ u_bd.toInt ∧ u_bd.toInt ≤ 1) (h_u_nc : 0 ≤ u_nc.toInt ∧ u_nc.toInt ≤ 12) (h_u_co : 0 ≤ u_co.toInt ∧ u_co.toInt ≤ 400) (h_u_pd : 0 ≤ u_pd.toInt ∧ u_pd.toInt ≤ 400) (h_u_la : 0 ≤ u_la.toInt ∧ u_la.toInt ≤ 4840) (h_u_bk : 0 ≤ u_bk.toInt ∧ u_bk.toInt ≤ 1) (h_u_ce : 0 ≤ u_ce.toInt ∧ u_ce.toInt ≤ 63) (h_u_ho : 0 ≤ u_ho.toInt ∧ u_ho.toInt ≤ 23) (h_u_wy : 0 ≤ u_wy.toInt ∧ u_wy.toInt ≤ 3) (h_u_bt : 0 ≤ u_bt.toInt ∧ u_bt.toInt ≤ 1000000) (h_u_ps : 0 ≤ u_ps.toInt ∧ u_ps.toInt ≤ 200) (h_u_ic : 0 ≤ u_ic.toInt ∧ u_ic.toInt ≤ 1) (h_u_id : 0 ≤ u_id.toInt ∧ u_id.toInt ≤ 1) (r_ro : MI v_ro) (r_pt : PTI v_pt) : Met l yX12_point (wsG yX12_point cX12_point 5 (some .int)) ({ frames := 7, cells := 0, slots := 0, locals := 176 }) (va_Pc [.ref b_o, .int p_1, .int p_2, .int p_3, .int p_4] (g5_P G [(b_o, (oc12 u_th u_sa b_rf b_ro b_im b_ke u_fd b_tp u_td u_fr u_to u_so u_wo u_fa u_bd u_nc b_nl u_co b_op b_ar u_le b_pi b_pa u_pd u_od b_ws b_hw u_la b_se b_re u_bk u_va u_su u_ce u_ho u_wy u_bt u_ps b_pt u_tg u_sn b_ip u_ic b_ah b_be b_me u_wd b_tr b_ld u_st b_wn u_id)), (b_ro, (arI G 5740 v_ro)), (b_se, (arJ G 13 v_se)), (b_re, (arJ G 400 v_re)), (b_pt, (arI G 200 v_pt))] sz)) (va_Qi (fun (r : Int32) (u : va_W) => (∃ (o_r : Int32) (o_th : Int32) (o_la : Int32) (o_bk : Int32) (o_va : Int64) (o_su : Int64) (o_ce : Int32) (o_ho : Int32) (o_wy : Int32) (o_bt : Int32) (o_ps : Int32) (o_tg : Int32) (o_sn : Int32) (o_se : Nat → Int64) (o_re : Nat → Int64) (o_pt : Nat → Int32), (0 ≤ o_la.toInt ∧ o_la.toInt ≤ 4840) ∧ (0 ≤ o_bk.toInt ∧ o_bk.toInt ≤ 1) ∧ (0 ≤ o_ce.toInt ∧ o_ce.toInt ≤ 63) ∧ (0 ≤ o_ho.toInt ∧ o_ho.toInt ≤ 23) ∧ (0 ≤ o_wy.toInt ∧ o_wy.toInt ≤ 3) ∧ (0 ≤ o_bt.toInt ∧ o_bt.toInt ≤ 1000000) ∧ (0 ≤ o_ps.toInt ∧ o_ps.toInt ≤ 200) ∧ (PTI o_pt) ∧ (r = o_r) ∧ (u = [(b_o, (oc12 o_th u_sa b_rf b_ro b_im b_ke u_fd b_tp u_td u_fr u_to u_so u_wo u_fa u_bd u_nc b_nl u_co b_op b_ar u_le b_pi b_pa u_pd u_od b_ws b_hw o_la b_se b_re o_bk o_va o_su o_ce o_ho o_wy o_bt o_ps b_pt o_tg o_sn b_ip u_ic b_ah b_be b_me u_wd b_tr b_ld u_st b_wn u_id)), (b_ro, (arI G 5740 v_ro)), (b_se, (arJ G 13 o_se)), (b_re, (arJ G 400 o_re)), (b_pt, (arI G 200 o_pt))]))) (g5_B G (va_A [(b_o, (oc12 u_th u_sa b_rf b_ro b_im b_ke u_fd b_tp u_td u_fr u_to u_so u_wo u_fa u_bd u_nc b_nl u_co b_op b_ar u_le b_pi b_pa u_pd u_od b_ws b_hw u_la b_se b_re u_bk u_va u_su u_ce u_ho u_wy u_bt u_ps b_pt u_tg u_sn b_ip u_ic b_ah b_be b_me u_wd b_tr b_ld u_st b_wn u_id)), (b_ro, (arI G 5740 v_ro)), (b_se, (arJ G 13 v_se)), (b_re, (arJ G 400 v_re)), (b_pt, (arI G 200 v_pt))] sz)) (va_A [(b_o, (oc12 u_th u_sa b_rf b_ro b_im b_ke u_fd b_tp u_td u_fr u_to u_so u_wo u_fa u_bd u_nc b_nl u_co b_op b_ar u_le b_pi b_pa u_pd u_od b_ws b_hw u_la b_se b_re u_bk u_va u_su u_ce u_ho u_wy u_bt u_ps b_pt u_tg u_sn b_ip u_ic b_ah b_be b_me u_wd b_tr b_ld u_st b_wn u_id)), (b_ro, (arI G 5740 v_ro)), (b_se, (arJ G 13 v_se)), (b_re, (arJ G 400 v_re)), (b_pt, (arI G 200 v_pt))] sz)) 0 0 (va_A [(b_o, (oc12 u_th u_sa b_rf b_ro b_im b_ke u_fd b_tp u_td u_fr u_to u_so u_wo u_fa u_bd u_nc b_nl u_co b_op b_ar u_le b_pi b_pa u_pd u_od b_ws b_hw u_la b_se b_re u_bk u_va u_su u_ce u_ho u_wy u_bt u_ps b_pt u_tg u_sn b_ip u_ic b_ah b_be b_me u_wd b_tr b_ld u_st b_wn u_id)), (b_ro, (arI G 5740 v_ro)), (b_se, (arJ G 13 v_se)), (b_re, (arJ G 400 v_re)), (b_pt, (arI G 200 v_pt))] sz) := by
  refine Met.ofW (cc := cX12_point) (maxL := 5) (ret := (some .int)) (by decide +kernel) rfl ?_
  intro p e s m args below meth c s₁ B hml hv
  obtain ⟨rfl, hsz, hP, hK, hD0, hN, hT⟩ := hv
  have hx := B.exec
  have hb := B.bytes
  have hr := B.returns
  have hts : ∀ w ∈ tblG, w.before _ s = true := fun w h => atoms_spec (ws := (wsG yX12_point cX12_point 5 (some .int))) B.pre w (List.mem_cons_of_mem _ h)
  have hown : s.vm.findClass RX12 = some m.cls := findClass_of_methodNamed B.named
  have hlocks := B.notSynchronized
  subst hsz
  have hD := hD0.self (sz := s.heap.size)
  generalize hAe : va_A [(b_o, (oc12 u_th u_sa b_rf b_ro b_im b_ke u_fd b_tp u_td u_fr u_to u_so u_wo u_fa u_bd u_nc b_nl u_co b_op b_ar u_le b_pi b_pa u_pd u_od b_ws b_hw u_la b_se b_re u_bk u_va u_su u_ce u_ho u_wy u_bt u_ps b_pt u_tg u_sn b_ip u_ic b_ah b_be b_me u_wd b_tr b_ld u_st b_wn u_id)), (b_ro, (arI G 5740 v_ro)), (b_se, (arJ G 13 v_se)), (b_re, (arJ G 400 v_re)), (b_pt, (arI G 200 v_pt))] s.heap.size = A at hD hT ⊢
  have hA : ∀ q : Nat, s.heap.size ≤ q → A q := fun q h => by rw [← hAe]; exact Or.inr h
  have hS : va_S A s.heap s.heap [] := va_S.rf
  replace hP : va_P G.1 vwCl [(b_o, (oc12 u_th u_sa b_rf b_ro b_im b_ke u_fd b_tp u_td u_fr u_to u_so u_wo u_fa u_bd u_nc b_nl u_co b_op b_ar u_le b_pi b_pa u_pd u_od b_ws b_hw u_la b_se b_re u_bk u_va u_su u_ce u_ho u_wy u_bt u_ps b_pt u_tg u_sn b_ip u_ic b_ah b_be b_me u_wd b_tr b_ld u_st b_wn u_id)), (b_ro, (arI G 5740 v_ro)), (b_se, (arJ G 13 v_se)), (b_re, (arJ G 400 v_re)), (b_pt, (arI G 200 v_pt))] s.heap := hP
  have hl := lv_entry ([.ref b_o, .int p_1, .int p_2, .int p_3, .int p_4]) (n := 5) (Nat.le_of_ble_eq_true rfl)
  rw [lg_entry_eq]
  generalize (lg_sl ([.ref b_o, .int p_1, .int p_2, .int p_3, .int p_4]) ++ List.replicate (5 - (lg_sl ([.ref b_o, .int p_1, .int p_2, .int p_3, .int p_4])).length) Slot.unset).toArray = ls at hl ⊢
  replace hl : lv_has ls 5 [(0, .ref b_o), (1, .int p_1), (2, .int p_2), (3, .int p_3), (4, .int p_4)] := hl
  refine lv_aload_n hx hb dX12_point_0 rfl (lv_at hl 0 rfl) ?_
  refine lv_iconst (v := 0) hx hb dX12_point_1 (by decide +kernel) ?_
  refine va_put (D := G.1) (ci := 12) (v := .int 0) (ty := .int) (C := RX12) (T := TX12) (N := 52) hx hb hts inG_X12 tyX12 tyX12_ok nmX12 hown hK hP hD hS 0 rfl rfl 0 (by decide +kernel) (hts _ fl_X12_107) (fun _ h9 => h9) rfl (by decide +kernel) rfl rfl (Nat.le_of_ble_eq_true rfl) dX12_point_2 ?_
  clear hP hD hS
  intro H locs hP hD hS
  refine g5_rs [(b_o, (oc12 0 u_sa b_rf b_ro b_im b_ke u_fd b_tp u_td u_fr u_to u_so u_wo u_fa u_bd u_nc b_nl u_co b_op b_ar u_le b_pi b_pa u_pd u_od b_ws b_hw u_la b_se b_re u_bk u_va u_su u_ce u_ho u_wy u_bt u_ps b_pt u_tg u_sn b_ip u_ic b_ah b_be b_me u_wd b_tr b_ld u_st b_wn u_id)), (b_ro, (arI G 5740 v_ro)), (b_se, (arJ G 13 v_se)), (b_re, (arJ G 400 v_re)), (b_pt, (arI G 200 v_pt))] hP hD ?_
  clear hP hD
  intro hP hD
  refine lv_iload_n hx hb dX12_point_5 rfl (lv_at hl 1 rfl) ?_
  refine lv_iload_n hx hb dX12_point_6 rfl (lv_at hl 2 rfl) ?_
  refine lv_iload_n hx hb dX12_point_7 rfl (lv_at hl 3 rfl) ?_
  obtain ⟨hPc, hDc, hFc⟩ := g5_sub3 (wc := []) hP hD hS hA [] (by decide +kernel) rfl
  refine va_calli (va_runS (As := [.int p_1, .int p_2, .int p_3]) (rest := []) ⟨hx, hb, hml, hown, hts⟩ (n_isLook l G H.size p_1 p_2 p_3) (va_cwS 3 hts gS_X12_397 rfl rfl rfl hs_X12_isLook ⟨Nat.le_of_ble_eq_true rfl, Nat.le_of_ble_eq_true rfl⟩) (g5_preS hPc hK hDc hN hT hS hFc) rfl rfl hl.1 rfl (lv_room (Nat.le_of_ble_eq_true rfl)) dX12_point_8 ⟨Nat.le_of_ble_eq_true rfl, Nat.le_of_ble_eq_true rfl⟩) hS (fun q _ h => hFc q h) hFc (fun r u t H locs ht hvm hw hB hz1 hk1 hS => ?_)
  obtain ⟨hP1, hD1⟩ := hB
  have hP1 := g5_ht ht hP1
  rcases hw with ⟨(i_1 : 0 ≤ p_1.toInt ∧ p_1.toInt ≤ 63), (i_2 : 0 ≤ p_2.toInt ∧ p_2.toInt ≤ 3), (i_3 : 0 ≤ p_3.toInt ∧ p_3.toInt ≤ 23), rfl, rfl⟩ | ⟨rfl, rfl⟩
  ·
    have hJ9 := g5_same hP hk1
    clear hP hPc hDc hFc ht hvm hz1 hk1 hP1 hD1
    have hP := hJ9
    clear hJ9
    refine lv_if_ne (tgt := 16) hx hb dX12_point_11 (by decide +kernel) (fun c_4 => ?_) (fun c_4 => ?_)
    ·
      refine lv_aload_n hx hb dX12_point_16 rfl (lv_at hl 0 rfl) ?_
      refine lv_iload_n hx hb dX12_point_17 rfl (lv_at hl 1 rfl) ?_
      refine lv_iload_n hx hb dX12_point_18 rfl (lv_at hl 2 rfl) ?_
      refine lv_iload_n hx hb dX12_point_19 rfl (lv_at hl 3 rfl) ?_
      refine lv_iconst (v := 0) hx hb dX12_point_20 (by decide +kernel) ?_
      obtain ⟨hPc, hDc, hFc⟩ := g5_sub3 (wc := [(b_o, (oc12 0 u_sa b_rf b_ro b_im b_ke u_fd b_tp u_td u_fr u_to u_so u_wo u_fa u_bd u_nc b_nl u_co b_op b_ar u_le b_pi b_pa u_pd u_od b_ws b_hw u_la b_se b_re u_bk u_va u_su u_ce u_ho u_wy u_bt u_ps b_pt u_tg u_sn b_ip u_ic b_ah b_be b_me u_wd b_tr b_ld u_st b_wn u_id)), (b_ro, (arI G 5740 v_ro)), (b_se, (arJ G 13 v_se)), (b_re, (arJ G 400 v_re)), (b_pt, (arI G 200 v_pt))]) hP hD hS hA [0, 1, 2, 3, 4] (by decide +kernel) rfl
      refine va_callv (va_runV (As := [.int p_1, .int p_2, .int p_3, .int 0]) (rest := []) ⟨hx, hb, hml, hown, hts⟩ (n_go l G b_o b_ro b_se b_re b_pt b_rf b_im b_ke b_tp b_nl b_op b_ar b_pi b_pa b_ws b_hw b_ip b_ah b_be b_me b_tr b_ld b_wn H.size 0 u_sa u_fd u_td u_fr u_to u_so u_fa u_bd u_nc u_co u_le u_pd u_od u_la u_bk u_ce u_ho u_wy u_bt u_ps u_tg u_sn u_ic u_wd u_id p_1 p_2 p_3 0 u_wo u_va u_su u_st v_ro v_se v_re v_pt h_u_td h_u_fr h_u_to h_u_bd h_u_nc h_u_co h_u_pd h_u_la h_u_bk h_u_ce h_u_ho h_u_wy h_u_bt h_u_ps h_u_ic h_u_id i_1 i_2 i_3 (r_ro) (r_pt)) (cwV 4 hts gV_X12_401 rfl rfl rfl hv_X12_go ⟨Nat.le_of_ble_eq_true rfl, Nat.le_of_ble_eq_true rfl⟩) (g5_preV hPc hK hDc hN hT hS hFc (ci := 12) (q0 := 0) rfl rfl) rfl rfl hl.1 rfl (lv_room (Nat.le_of_ble_eq_true rfl)) dX12_point_21 ⟨Nat.le_of_ble_eq_true rfl, Nat.le_of_ble_eq_true rfl⟩) hS (fun q _ h => hFc q h) hFc (fun u t H locs ht hvm hw hB hz1 hk1 hS => ?_)
      obtain ⟨hP1, hD1⟩ := hB
      have hP1 := g5_ht ht hP1
      obtain ⟨z13, z14, z15, z16, z17, z18, z19, z20, z21, z22, z23, z24, z25, z26, (i_5 : 0 ≤ z13.toInt ∧ z13.toInt ≤ 4840), (i_6 : 0 ≤ z14.toInt ∧ z14.toInt ≤ 1), (i_7 : 0 ≤ z17.toInt ∧ z17.toInt ≤ 63), (i_8 : 0 ≤ z18.toInt ∧ z18.toInt ≤ 23), (i_9 : 0 ≤ z19.toInt ∧ z19.toInt ≤ 3), (i_10 : 0 ≤ z20.toInt ∧ z20.toInt ≤ 1000000), (i_11 : 0 ≤ z21.toInt ∧ z21.toInt ≤ 200), (i_12 : PTI z26), rfl⟩ := hw
      have hJ9 := va_join (wr := []) hP hD [0, 1, 2, 3, 4] [] rfl rfl (by decide +kernel) (by decide +kernel) hk1 hFc hP1 hD1
      clear hP hD hPc hDc hFc ht hvm hz1 hk1 hP1 hD1
      obtain ⟨hP, hD⟩ := hJ9
      refine g5_rs [(b_o, (oc12 0 u_sa b_rf b_ro b_im b_ke u_fd b_tp u_td u_fr u_to u_so u_wo u_fa u_bd u_nc b_nl u_co b_op b_ar u_le b_pi b_pa u_pd u_od b_ws b_hw z13 b_se b_re z14 z15 z16 z17 z18 z19 z20 z21 b_pt z22 z23 b_ip u_ic b_ah b_be b_me u_wd b_tr b_ld u_st b_wn u_id)), (b_ro, (arI G 5740 v_ro)), (b_se, (arJ G 13 z24)), (b_re, (arJ G 400 z25)), (b_pt, (arI G 200 z26))] hP hD ?_
      clear hP hD
      intro hP hD
      refine lv_iload hx hb dX12_point_24 (lv_at hl 4 rfl) ?_
      refine lv_i2l (v := p_4.toInt64) hx hb dX12_point_26 rfl ?_
      refine lv_lconst (v := 0) hx hb dX12_point_27 (by decide +kernel) ?_
      refine lv_aload_n hx hb dX12_point_28 rfl (lv_at hl 0 rfl) ?_
      refine va_get (D := G.1) (ci := 12) (v := .int z21) (C := RX12) (T := TX12) (N := 52) hx hb hts inG_X12 hown hK hP 0 rfl rfl 37 (by decide +kernel) (hts _ fl_X12_358) (fun _ h9 => h9) rfl dX12_point_29 ?_
      refine lv_i2l (v := z21.toInt64) hx hb dX12_point_32 rfl ?_
      refine lv_lconst (v := 1) hx hb dX12_point_33 (by decide +kernel) ?_
      refine lv_lsub hx hb dX12_point_34 ?_
      obtain ⟨hPc, hDc, hFc⟩ := g5_sub3 (wc := []) hP hD hS hA [] (by decide +kernel) rfl
      refine va_calli (va_runS (As := [.long p_4.toInt64, .long 0, .long (z21.toInt64 - 1)]) (rest := []) ⟨hx, hb, hml, hown, hts⟩ (n_in_n l G H.size p_4 z21 ⟨by omega, by omega⟩) (va_cwS 3 hts gS_X12_121 rfl rfl rfl hs_X12_in ⟨Nat.le_of_ble_eq_true rfl, Nat.le_of_ble_eq_true rfl⟩) (g5_preS hPc hK hDc hN hT hS hFc) rfl rfl hl.1 rfl (lv_room (Nat.le_of_ble_eq_true rfl)) dX12_point_35 ⟨Nat.le_of_ble_eq_true rfl, Nat.le_of_ble_eq_true rfl⟩) hS (fun q _ h => hFc q h) hFc (fun r u t H locs ht hvm hw hB hz1 hk1 hS => ?_)
      obtain ⟨hP1, hD1⟩ := hB
      have hP1 := g5_ht ht hP1
      rcases hw with ⟨(i_27 : p_4.toInt < 0 ∨ z21.toInt ≤ p_4.toInt), rfl, rfl⟩ | ⟨(i_28 : 0 ≤ p_4.toInt ∧ p_4.toInt < z21.toInt), rfl, rfl⟩
      ·
        have hJ9 := g5_same hP hk1
        clear hP hPc hDc hFc ht hvm hz1 hk1 hP1 hD1
        have hP := hJ9
        clear hJ9
        refine lv_if_eq (tgt := 51) hx hb dX12_point_38 (by decide +kernel) (fun c_29 => ?_) (fun c_29 => ?_)
        ·
          refine lv_iconst (v := (-1)) hx hb dX12_point_51 (by decide +kernel) ?_
          exact W.iret (v := (-1)) hx hb hr (fun t ht hW => ⟨⟨(-1), [(b_o, (oc12 0 u_sa b_rf b_ro b_im b_ke u_fd b_tp u_td u_fr u_to u_so u_wo u_fa u_bd u_nc b_nl u_co b_op b_ar u_le b_pi b_pa u_pd u_od b_ws b_hw z13 b_se b_re z14 z15 z16 z17 z18 z19 z20 z21 b_pt z22 z23 b_ip u_ic b_ah b_be b_me u_wd b_tr b_ld u_st b_wn u_id)), (b_ro, (arI G 5740 v_ro)), (b_se, (arJ G 13 z24)), (b_re, (arJ G 400 z25)), (b_pt, (arI G 200 z26))], rfl, ⟨(-1), 0, z13, z14, z15, z16, z17, z18, z19, z20, z21, z22, z23, z24, z25, z26, i_5, i_6, i_7, i_8, i_9, i_10, i_11, i_12, rfl, rfl⟩, by rw [ht]; exact hP.sub [0, 1, 2, 3, 4] rfl, hD.sub [0, 1, 2, 3, 4] (by decide +kernel) rfl⟩, hS.F ht⟩) hS.2.2 dX12_point_52
        ·
          exact absurd c_29 (by decide +kernel)
      ·
        have hJ9 := g5_same hP hk1
        clear hP hPc hDc hFc ht hvm hz1 hk1 hP1 hD1
        have hP := hJ9
        clear hJ9
        refine lv_if_eq (tgt := 51) hx hb dX12_point_38 (by decide +kernel) (fun c_30 => ?_) (fun c_30 => ?_)
        ·
          exact absurd c_30 (by decide +kernel)
        ·
          refine lv_aload_n hx hb dX12_point_41 rfl (lv_at hl 0 rfl) ?_
          refine va_get (D := G.1) (ci := 12) (v := .ref b_pt) (C := RX12) (T := TX12) (N := 52) hx hb hts inG_X12 hown hK hP 0 rfl rfl 38 (by decide +kernel) (hts _ fl_X12_82) (fun _ h9 => h9) rfl dX12_point_42 ?_
          refine lv_iload hx hb dX12_point_45 (lv_at hl 4 rfl) ?_
          refine va_iald hx hb hK hP 4 0 rfl rfl (i := p_4) (vp_in_iff.mpr ⟨by omega, by omega⟩) dX12_point_47 ?_
          have hr_31 : 0 ≤ (z26 p_4.toNatClampNeg).toInt ∧ (z26 p_4.toNatClampNeg).toInt ≤ 1535 := i_12 (p_4.toNatClampNeg)
          refine lv_goto (tgt := 52) hx hb dX12_point_48 (by decide +kernel) ?_
          exact W.iret (v := (z26 p_4.toNatClampNeg)) hx hb hr (fun t ht hW => ⟨⟨(z26 p_4.toNatClampNeg), [(b_o, (oc12 0 u_sa b_rf b_ro b_im b_ke u_fd b_tp u_td u_fr u_to u_so u_wo u_fa u_bd u_nc b_nl u_co b_op b_ar u_le b_pi b_pa u_pd u_od b_ws b_hw z13 b_se b_re z14 z15 z16 z17 z18 z19 z20 z21 b_pt z22 z23 b_ip u_ic b_ah b_be b_me u_wd b_tr b_ld u_st b_wn u_id)), (b_ro, (arI G 5740 v_ro)), (b_se, (arJ G 13 z24)), (b_re, (arJ G 400 z25)), (b_pt, (arI G 200 z26))], rfl, ⟨(z26 p_4.toNatClampNeg), 0, z13, z14, z15, z16, z17, z18, z19, z20, z21, z22, z23, z24, z25, z26, i_5, i_6, i_7, i_8, i_9, i_10, i_11, i_12, rfl, rfl⟩, by rw [ht]; exact hP.sub [0, 1, 2, 3, 4] rfl, hD.sub [0, 1, 2, 3, 4] (by decide +kernel) rfl⟩, hS.F ht⟩) hS.2.2 dX12_point_52
    ·
      exact absurd c_4 (by decide +kernel)
  ·
    have hJ9 := g5_same hP hk1
    clear hP hPc hDc hFc ht hvm hz1 hk1 hP1 hD1
    have hP := hJ9
    clear hJ9
    refine lv_if_ne (tgt := 16) hx hb dX12_point_11 (by decide +kernel) (fun c_32 => ?_) (fun c_32 => ?_)
    ·
      exact absurd c_32 (by decide +kernel)
    ·
      refine lv_iconst (v := (-1)) hx hb dX12_point_14 (by decide +kernel) ?_
      exact W.iret (v := (-1)) hx hb hr (fun t ht hW => ⟨⟨(-1), [(b_o, (oc12 0 u_sa b_rf b_ro b_im b_ke u_fd b_tp u_td u_fr u_to u_so u_wo u_fa u_bd u_nc b_nl u_co b_op b_ar u_le b_pi b_pa u_pd u_od b_ws b_hw u_la b_se b_re u_bk u_va u_su u_ce u_ho u_wy u_bt u_ps b_pt u_tg u_sn b_ip u_ic b_ah b_be b_me u_wd b_tr b_ld u_st b_wn u_id)), (b_ro, (arI G 5740 v_ro)), (b_se, (arJ G 13 v_se)), (b_re, (arJ G 400 v_re)), (b_pt, (arI G 200 v_pt))], rfl, ⟨(-1), 0, u_la, u_bk, u_va, u_su, u_ce, u_ho, u_wy, u_bt, u_ps, u_tg, u_sn, v_se, v_re, v_pt, h_u_la, h_u_bk, h_u_ce, h_u_ho, h_u_wy, h_u_bt, h_u_ps, r_pt, rfl, rfl⟩, by rw [ht]; exact hP.sub [0, 1, 2, 3, 4] rfl, hD.sub [0, 1, 2, 3, 4] (by decide +kernel) rfl⟩, hS.F ht⟩) hS.2.2 dX12_point_15
theorem dgX12_seenFrom_0 : ∀ r ∈ ([(0, (.iconst 0, 1)), (1, (.istore_n 3, 1)), (2, (.iconst 0, 1)), (3, (.istore 4, 2)), (5, (.iload 4, 2)), (7, (.iconst 4, 1)), (8, (.if_icmp .ge 39, 3)), (11, (.aload_n 0, 1)), (12, (.iload_n 1, 1)), (13, (.iload 4, 2)), (15, (.iload_n 2, 1)), (16, (.iconst 0, 1)), (17, (.invokevirtual 401, 3)), (20, (.iload_n 3, 1)), (21, (.aload_n 0, 1)), (22, (.getfield 371, 3)), (25, (.iconst (-1), 1)), (26, (.if_icmp .ne 7, 3)), (29, (.iconst 0, 1)), (30, (.goto 9, 3)), (33, (.iconst 1, 1)), (34, (.aload_n 0, 1)), (35, (.getfield 371, 3)), (38, (.ishl, 1)), (39, (.ior, 1)), (40, (.istore_n 3, 1)), (41, (.iinc 4 1, 3)), (44, (.goto (-39), 3)), (47, (.iload_n 3, 1)), (48, (.ireturn, 1))] : List (Nat × (Instr × Nat))), decode cX12_seenFrom r.1 = .ok r.2 := by decide +kernel
theorem dX12_seenFrom_0 : decode cX12_seenFrom 0 = .ok (.iconst 0, 1) := dgX12_seenFrom_0 (0, (.iconst 0, 1)) (List.mem_of_getElem? (i := 0) rfl)
theorem dX12_seenFrom_1 : decode cX12_seenFrom 1 = .ok (.istore_n 3, 1) := dgX12_seenFrom_0 (1, (.istore_n 3, 1)) (List.mem_of_getElem? (i := 1) rfl)
theorem dX12_seenFrom_2 : decode cX12_seenFrom 2 = .ok (.iconst 0, 1) := dgX12_seenFrom_0 (2, (.iconst 0, 1)) (List.mem_of_getElem? (i := 2) rfl)
theorem dX12_seenFrom_3 : decode cX12_seenFrom 3 = .ok (.istore 4, 2) := dgX12_seenFrom_0 (3, (.istore 4, 2)) (List.mem_of_getElem? (i := 3) rfl)
theorem dX12_seenFrom_5 : decode cX12_seenFrom 5 = .ok (.iload 4, 2) := dgX12_seenFrom_0 (5, (.iload 4, 2)) (List.mem_of_getElem? (i := 4) rfl)
theorem dX12_seenFrom_7 : decode cX12_seenFrom 7 = .ok (.iconst 4, 1) := dgX12_seenFrom_0 (7, (.iconst 4, 1)) (List.mem_of_getElem? (i := 5) rfl)
theorem dX12_seenFrom_8 : decode cX12_seenFrom 8 = .ok (.if_icmp .ge 39, 3) := dgX12_seenFrom_0 (8, (.if_icmp .ge 39, 3)) (List.mem_of_getElem? (i := 6) rfl)
theorem dX12_seenFrom_11 : decode cX12_seenFrom 11 = .ok (.aload_n 0, 1) := dgX12_seenFrom_0 (11, (.aload_n 0, 1)) (List.mem_of_getElem? (i := 7) rfl)
theorem dX12_seenFrom_12 : decode cX12_seenFrom 12 = .ok (.iload_n 1, 1) := dgX12_seenFrom_0 (12, (.iload_n 1, 1)) (List.mem_of_getElem? (i := 8) rfl)
theorem dX12_seenFrom_13 : decode cX12_seenFrom 13 = .ok (.iload 4, 2) := dgX12_seenFrom_0 (13, (.iload 4, 2)) (List.mem_of_getElem? (i := 9) rfl)
theorem dX12_seenFrom_15 : decode cX12_seenFrom 15 = .ok (.iload_n 2, 1) := dgX12_seenFrom_0 (15, (.iload_n 2, 1)) (List.mem_of_getElem? (i := 10) rfl)
theorem dX12_seenFrom_16 : decode cX12_seenFrom 16 = .ok (.iconst 0, 1) := dgX12_seenFrom_0 (16, (.iconst 0, 1)) (List.mem_of_getElem? (i := 11) rfl)
theorem dX12_seenFrom_17 : decode cX12_seenFrom 17 = .ok (.invokevirtual 401, 3) := dgX12_seenFrom_0 (17, (.invokevirtual 401, 3)) (List.mem_of_getElem? (i := 12) rfl)
theorem dX12_seenFrom_20 : decode cX12_seenFrom 20 = .ok (.iload_n 3, 1) := dgX12_seenFrom_0 (20, (.iload_n 3, 1)) (List.mem_of_getElem? (i := 13) rfl)
theorem dX12_seenFrom_21 : decode cX12_seenFrom 21 = .ok (.aload_n 0, 1) := dgX12_seenFrom_0 (21, (.aload_n 0, 1)) (List.mem_of_getElem? (i := 14) rfl)
theorem dX12_seenFrom_22 : decode cX12_seenFrom 22 = .ok (.getfield 371, 3) := dgX12_seenFrom_0 (22, (.getfield 371, 3)) (List.mem_of_getElem? (i := 15) rfl)
theorem dX12_seenFrom_25 : decode cX12_seenFrom 25 = .ok (.iconst (-1), 1) := dgX12_seenFrom_0 (25, (.iconst (-1), 1)) (List.mem_of_getElem? (i := 16) rfl)
theorem dX12_seenFrom_26 : decode cX12_seenFrom 26 = .ok (.if_icmp .ne 7, 3) := dgX12_seenFrom_0 (26, (.if_icmp .ne 7, 3)) (List.mem_of_getElem? (i := 17) rfl)
theorem dX12_seenFrom_29 : decode cX12_seenFrom 29 = .ok (.iconst 0, 1) := dgX12_seenFrom_0 (29, (.iconst 0, 1)) (List.mem_of_getElem? (i := 18) rfl)
theorem dX12_seenFrom_30 : decode cX12_seenFrom 30 = .ok (.goto 9, 3) := dgX12_seenFrom_0 (30, (.goto 9, 3)) (List.mem_of_getElem? (i := 19) rfl)
theorem dX12_seenFrom_33 : decode cX12_seenFrom 33 = .ok (.iconst 1, 1) := dgX12_seenFrom_0 (33, (.iconst 1, 1)) (List.mem_of_getElem? (i := 20) rfl)
theorem dX12_seenFrom_34 : decode cX12_seenFrom 34 = .ok (.aload_n 0, 1) := dgX12_seenFrom_0 (34, (.aload_n 0, 1)) (List.mem_of_getElem? (i := 21) rfl)
theorem dX12_seenFrom_35 : decode cX12_seenFrom 35 = .ok (.getfield 371, 3) := dgX12_seenFrom_0 (35, (.getfield 371, 3)) (List.mem_of_getElem? (i := 22) rfl)
theorem dX12_seenFrom_38 : decode cX12_seenFrom 38 = .ok (.ishl, 1) := dgX12_seenFrom_0 (38, (.ishl, 1)) (List.mem_of_getElem? (i := 23) rfl)
theorem dX12_seenFrom_39 : decode cX12_seenFrom 39 = .ok (.ior, 1) := dgX12_seenFrom_0 (39, (.ior, 1)) (List.mem_of_getElem? (i := 24) rfl)
theorem dX12_seenFrom_40 : decode cX12_seenFrom 40 = .ok (.istore_n 3, 1) := dgX12_seenFrom_0 (40, (.istore_n 3, 1)) (List.mem_of_getElem? (i := 25) rfl)
theorem dX12_seenFrom_41 : decode cX12_seenFrom 41 = .ok (.iinc 4 1, 3) := dgX12_seenFrom_0 (41, (.iinc 4 1, 3)) (List.mem_of_getElem? (i := 26) rfl)
theorem dX12_seenFrom_44 : decode cX12_seenFrom 44 = .ok (.goto (-39), 3) := dgX12_seenFrom_0 (44, (.goto (-39), 3)) (List.mem_of_getElem? (i := 27) rfl)
theorem dX12_seenFrom_47 : decode cX12_seenFrom 47 = .ok (.iload_n 3, 1) := dgX12_seenFrom_0 (47, (.iload_n 3, 1)) (List.mem_of_getElem? (i := 28) rfl)
theorem dX12_seenFrom_48 : decode cX12_seenFrom 48 = .ok (.ireturn, 1) := dgX12_seenFrom_0 (48, (.ireturn, 1)) (List.mem_of_getElem? (i := 29) rfl)
set_option maxHeartbeats 4000000 in
set_option maxRecDepth 100000 in
theorem n_seenFrom (l : Launch) (G : g5_G) (b_o b_ro b_se b_re b_pt b_rf b_im b_ke b_tp b_nl b_op b_ar b_pi b_pa b_ws b_hw b_ip b_ah b_be b_me b_tr b_ld b_wn : Nat) (sz : Nat) (u_th : Int32) (u_sa : Int32) (u_fd : Int32) (u_td : Int32) (u_fr : Int32) (u_to : Int32) (u_so : Int32) (u_fa : Int32) (u_bd : Int32) (u_nc : Int32) (u_co : Int32) (u_le : Int32) (u_pd : Int32) (u_od : Int32) (u_la : Int32) (u_bk : Int32) (u_ce : Int32) (u_ho : Int32) (u_wy : Int32) (u_bt : Int32) (u_ps : Int32) (u_tg : Int32) (u_sn : Int32) (u_ic : Int32) (u_wd : Int32) (u_id : Int32) (p_1 : Int32) (p_2 : Int32) (u_wo : Int64) (u_va : Int64) (u_su : Int64) (u_st : Int64) (v_ro : Nat → Int32) (v_se : Nat → Int64) (v_re : Nat → Int64) (v_pt : Nat → Int32) (h_u_td : 0 ≤ u_td.toInt ∧ u_td.toInt ≤ 400) (h_u_fr : 0 ≤ u_fr.toInt ∧ u_fr.toInt ≤ 400) (h_u_to : 0 ≤ u_to.toInt ∧ u_to.toInt ≤ 400) (h_u_bd : 0 ≤ u_bd.toInt ∧ u_bd.toInt ≤ 1) (h_u_nc : 0 ≤ u_nc.toInt ∧ u_nc.toInt ≤ 12) (h_u_co : 0 ≤ u_co.toInt ∧ u_co.toInt ≤ 400) (h_u_pd : 0 ≤ u_pd.toInt ∧ u_pd.toInt ≤ 400) (h_u_la : 0 ≤ u_la.toInt ∧ u_la.toInt ≤ 4840) (h_u_bk : 0 ≤ u_bk.toInt ∧ u_bk.toInt ≤ 1) (h_u_ce : 0 ≤ u_ce.toInt ∧ u_ce.toInt ≤ 63) (h_u_ho : 0 ≤ u_ho.toInt ∧ u_ho.toInt ≤ 23) (h_u_wy : 0 ≤ u_wy.toInt ∧ u_wy.toInt ≤ 3) (h_u_bt : 0 ≤ u_bt.toInt ∧ u_bt.toInt ≤ 1000000) (h_u_ps : 0 ≤ u_ps.toInt ∧ u_ps.toInt ≤ 200) (h_u_ic : 0 ≤ u_ic.toInt ∧ u_ic.toInt ≤ 1) (h_u_id : 0 ≤ u_id.toInt ∧ u_id.toInt ≤ 1) (h_p_1 : 0 ≤ p_1.toInt ∧ p_1.toInt ≤ 63) (h_p_2 : 0 ≤ p_2.toInt ∧ p_2.toInt ≤ 23) (r_ro : MI v_ro) (r_pt : PTI v_pt) : Met l yX12_seenFrom (wsG yX12_seenFrom cX12_seenFrom 5 (some .int)) ({ frames := 7, cells := 0, slots := 0, locals := 176 }) (va_Pc [.ref b_o, .int p_1, .int p_2] (g5_P G [(b_o, (oc12 u_th u_sa b_rf b_ro b_im b_ke u_fd b_tp u_td u_fr u_to u_so u_wo u_fa u_bd u_nc b_nl u_co b_op b_ar u_le b_pi b_pa u_pd u_od b_ws b_hw u_la b_se b_re u_bk u_va u_su u_ce u_ho u_wy u_bt u_ps b_pt u_tg u_sn b_ip u_ic b_ah b_be b_me u_wd b_tr b_ld u_st b_wn u_id)), (b_ro, (arI G 5740 v_ro)), (b_se, (arJ G 13 v_se)), (b_re, (arJ G 400 v_re)), (b_pt, (arI G 200 v_pt))] sz)) (va_Qi (fun (r : Int32) (u : va_W) => (∃ (o_r : Int32) (o_la : Int32) (o_bk : Int32) (o_va : Int64) (o_su : Int64) (o_ce : Int32) (o_ho : Int32) (o_wy : Int32) (o_bt : Int32) (o_ps : Int32) (o_tg : Int32) (o_sn : Int32) (o_se : Nat → Int64) (o_re : Nat → Int64) (o_pt : Nat → Int32), (0 ≤ o_la.toInt ∧ o_la.toInt ≤ 4840) ∧ (0 ≤ o_bk.toInt ∧ o_bk.toInt ≤ 1) ∧ (0 ≤ o_ce.toInt ∧ o_ce.toInt ≤ 63) ∧ (0 ≤ o_ho.toInt ∧ o_ho.toInt ≤ 23) ∧ (0 ≤ o_wy.toInt ∧ o_wy.toInt ≤ 3) ∧ (0 ≤ o_bt.toInt ∧ o_bt.toInt ≤ 1000000) ∧ (0 ≤ o_ps.toInt ∧ o_ps.toInt ≤ 200) ∧ (PTI o_pt) ∧ (r = o_r) ∧ (u = [(b_o, (oc12 u_th u_sa b_rf b_ro b_im b_ke u_fd b_tp u_td u_fr u_to u_so u_wo u_fa u_bd u_nc b_nl u_co b_op b_ar u_le b_pi b_pa u_pd u_od b_ws b_hw o_la b_se b_re o_bk o_va o_su o_ce o_ho o_wy o_bt o_ps b_pt o_tg o_sn b_ip u_ic b_ah b_be b_me u_wd b_tr b_ld u_st b_wn u_id)), (b_ro, (arI G 5740 v_ro)), (b_se, (arJ G 13 o_se)), (b_re, (arJ G 400 o_re)), (b_pt, (arI G 200 o_pt))]))) (g5_B G (va_A [(b_o, (oc12 u_th u_sa b_rf b_ro b_im b_ke u_fd b_tp u_td u_fr u_to u_so u_wo u_fa u_bd u_nc b_nl u_co b_op b_ar u_le b_pi b_pa u_pd u_od b_ws b_hw u_la b_se b_re u_bk u_va u_su u_ce u_ho u_wy u_bt u_ps b_pt u_tg u_sn b_ip u_ic b_ah b_be b_me u_wd b_tr b_ld u_st b_wn u_id)), (b_ro, (arI G 5740 v_ro)), (b_se, (arJ G 13 v_se)), (b_re, (arJ G 400 v_re)), (b_pt, (arI G 200 v_pt))] sz)) (va_A [(b_o, (oc12 u_th u_sa b_rf b_ro b_im b_ke u_fd b_tp u_td u_fr u_to u_so u_wo u_fa u_bd u_nc b_nl u_co b_op b_ar u_le b_pi b_pa u_pd u_od b_ws b_hw u_la b_se b_re u_bk u_va u_su u_ce u_ho u_wy u_bt u_ps b_pt u_tg u_sn b_ip u_ic b_ah b_be b_me u_wd b_tr b_ld u_st b_wn u_id)), (b_ro, (arI G 5740 v_ro)), (b_se, (arJ G 13 v_se)), (b_re, (arJ G 400 v_re)), (b_pt, (arI G 200 v_pt))] sz)) 0 0 (va_A [(b_o, (oc12 u_th u_sa b_rf b_ro b_im b_ke u_fd b_tp u_td u_fr u_to u_so u_wo u_fa u_bd u_nc b_nl u_co b_op b_ar u_le b_pi b_pa u_pd u_od b_ws b_hw u_la b_se b_re u_bk u_va u_su u_ce u_ho u_wy u_bt u_ps b_pt u_tg u_sn b_ip u_ic b_ah b_be b_me u_wd b_tr b_ld u_st b_wn u_id)), (b_ro, (arI G 5740 v_ro)), (b_se, (arJ G 13 v_se)), (b_re, (arJ G 400 v_re)), (b_pt, (arI G 200 v_pt))] sz) := by
  refine Met.ofW (cc := cX12_seenFrom) (maxL := 5) (ret := (some .int)) (by decide +kernel) rfl ?_
  intro p e s m args below meth c s₁ B hml hv
  obtain ⟨rfl, hsz, hP, hK, hD0, hN, hT⟩ := hv
  have hx := B.exec
  have hb := B.bytes
  have hr := B.returns
  have hts : ∀ w ∈ tblG, w.before _ s = true := fun w h => atoms_spec (ws := (wsG yX12_seenFrom cX12_seenFrom 5 (some .int))) B.pre w (List.mem_cons_of_mem _ h)
  have hown : s.vm.findClass RX12 = some m.cls := findClass_of_methodNamed B.named
  have hlocks := B.notSynchronized
  subst hsz
  have hD := hD0.self (sz := s.heap.size)
  generalize hAe : va_A [(b_o, (oc12 u_th u_sa b_rf b_ro b_im b_ke u_fd b_tp u_td u_fr u_to u_so u_wo u_fa u_bd u_nc b_nl u_co b_op b_ar u_le b_pi b_pa u_pd u_od b_ws b_hw u_la b_se b_re u_bk u_va u_su u_ce u_ho u_wy u_bt u_ps b_pt u_tg u_sn b_ip u_ic b_ah b_be b_me u_wd b_tr b_ld u_st b_wn u_id)), (b_ro, (arI G 5740 v_ro)), (b_se, (arJ G 13 v_se)), (b_re, (arJ G 400 v_re)), (b_pt, (arI G 200 v_pt))] s.heap.size = A at hD hT ⊢
  have hA : ∀ q : Nat, s.heap.size ≤ q → A q := fun q h => by rw [← hAe]; exact Or.inr h
  have hS : va_S A s.heap s.heap [] := va_S.rf
  replace hP : va_P G.1 vwCl [(b_o, (oc12 u_th u_sa b_rf b_ro b_im b_ke u_fd b_tp u_td u_fr u_to u_so u_wo u_fa u_bd u_nc b_nl u_co b_op b_ar u_le b_pi b_pa u_pd u_od b_ws b_hw u_la b_se b_re u_bk u_va u_su u_ce u_ho u_wy u_bt u_ps b_pt u_tg u_sn b_ip u_ic b_ah b_be b_me u_wd b_tr b_ld u_st b_wn u_id)), (b_ro, (arI G 5740 v_ro)), (b_se, (arJ G 13 v_se)), (b_re, (arJ G 400 v_re)), (b_pt, (arI G 200 v_pt))] s.heap := hP
  have hl := lv_entry ([.ref b_o, .int p_1, .int p_2]) (n := 5) (Nat.le_of_ble_eq_true rfl)
  rw [lg_entry_eq]
  generalize (lg_sl ([.ref b_o, .int p_1, .int p_2]) ++ List.replicate (5 - (lg_sl ([.ref b_o, .int p_1, .int p_2])).length) Slot.unset).toArray = ls at hl ⊢
  replace hl : lv_has ls 5 [(0, .ref b_o), (1, .int p_1), (2, .int p_2)] := hl
  refine lv_iconst (v := 0) hx hb dX12_seenFrom_0 (by decide +kernel) ?_
  refine lv_istore_n (lv' := [(3, .int 0), (0, .ref b_o), (1, .int p_1), (2, .int p_2)]) hx hb dX12_seenFrom_1 rfl hl (by decide +kernel) rfl ?_
  clear hl
  intro ls hl
  refine lv_iconst (v := 0) hx hb dX12_seenFrom_2 (by decide +kernel) ?_
  refine lv_istore (lv' := [(4, .int 0), (3, .int 0), (0, .ref b_o), (1, .int p_1), (2, .int p_2)]) hx hb dX12_seenFrom_3 hl (by decide +kernel) rfl ?_
  clear hl
  intro ls hl
  refine g5_loop (α := (Int32) × (Int32) × (Int32) × (Int32) × (Int64) × (Int64) × (Int32) × (Int32) × (Int32) × (Int32) × (Int32) × (Int32) × (Int32) × (Nat → Int64) × (Nat → Int64) × (Nat → Int32)) (fun (q : (Int32) × (Int32) × (Int32) × (Int32) × (Int64) × (Int64) × (Int32) × (Int32) × (Int32) × (Int32) × (Int32) × (Int32) × (Int32) × (Nat → Int64) × (Nat → Int64) × (Nat → Int32)) (ls : Array Slot) (H : Heap) (locs : List Loc) => match q with | (k5_4, k5_3, k5_la, k5_bk, k5_va, k5_su, k5_ce, k5_ho, k5_wy, k5_bt, k5_ps, k5_tg, k5_sn, k5_se, k5_re, k5_pt) => lv_has ls 5 [(3, .int k5_3), (4, .int k5_4), (0, .ref b_o), (1, .int p_1), (2, .int p_2)] ∧ va_P G.1 vwCl [(b_o, (oc12 u_th u_sa b_rf b_ro b_im b_ke u_fd b_tp u_td u_fr u_to u_so u_wo u_fa u_bd u_nc b_nl u_co b_op b_ar u_le b_pi b_pa u_pd u_od b_ws b_hw k5_la b_se b_re k5_bk k5_va k5_su k5_ce k5_ho k5_wy k5_bt k5_ps b_pt k5_tg k5_sn b_ip u_ic b_ah b_be b_me u_wd b_tr b_ld u_st b_wn u_id)), (b_ro, (arI G 5740 v_ro)), (b_se, (arJ G 13 k5_se)), (b_re, (arJ G 400 k5_re)), (b_pt, (arI G 200 k5_pt))] H ∧ va_D A [(b_o, (oc12 u_th u_sa b_rf b_ro b_im b_ke u_fd b_tp u_td u_fr u_to u_so u_wo u_fa u_bd u_nc b_nl u_co b_op b_ar u_le b_pi b_pa u_pd u_od b_ws b_hw k5_la b_se b_re k5_bk k5_va k5_su k5_ce k5_ho k5_wy k5_bt k5_ps b_pt k5_tg k5_sn b_ip u_ic b_ah b_be b_me u_wd b_tr b_ld u_st b_wn u_id)), (b_ro, (arI G 5740 v_ro)), (b_se, (arJ G 13 k5_se)), (b_re, (arJ G 400 k5_re)), (b_pt, (arI G 200 k5_pt))] ∧ va_S A s.heap H locs ∧ (0 ≤ k5_4.toInt ∧ k5_4.toInt ≤ 4) ∧ (0 ≤ k5_la.toInt ∧ k5_la.toInt ≤ 4840) ∧ (0 ≤ k5_bk.toInt ∧ k5_bk.toInt ≤ 1) ∧ (0 ≤ k5_ce.toInt ∧ k5_ce.toInt ≤ 63) ∧ (0 ≤ k5_ho.toInt ∧ k5_ho.toInt ≤ 23) ∧ (0 ≤ k5_wy.toInt ∧ k5_wy.toInt ≤ 3) ∧ (0 ≤ k5_bt.toInt ∧ k5_bt.toInt ≤ 1000000) ∧ (0 ≤ k5_ps.toInt ∧ k5_ps.toInt ≤ 200) ∧ (PTI k5_pt)) (fun (q : (Int32) × (Int32) × (Int32) × (Int32) × (Int64) × (Int64) × (Int32) × (Int32) × (Int32) × (Int32) × (Int32) × (Int32) × (Int32) × (Nat → Int64) × (Nat → Int64) × (Nat → Int32)) => match q with | (k5_4, k5_3, k5_la, k5_bk, k5_va, k5_su, k5_ce, k5_ho, k5_wy, k5_bt, k5_ps, k5_tg, k5_sn, k5_se, k5_re, k5_pt) => Int.toNat (4 - k5_4.toInt)) (0, 0, u_la, u_bk, u_va, u_su, u_ce, u_ho, u_wy, u_bt, u_ps, u_tg, u_sn, v_se, v_re, v_pt) ⟨lv_sub hl [1, 0, 2, 3, 4] rfl, hP, hD, hS, ⟨by decide, by decide⟩, h_u_la, h_u_bk, h_u_ce, h_u_ho, h_u_wy, h_u_bt, h_u_ps, r_pt⟩ ?_
  rintro ⟨k5_4, k5_3, k5_la, k5_bk, k5_va, k5_su, k5_ce, k5_ho, k5_wy, k5_bt, k5_ps, k5_tg, k5_sn, k5_se, k5_re, k5_pt⟩ ls H locs ⟨hl, hP, hD, hS, (i_1 : 0 ≤ k5_4.toInt ∧ k5_4.toInt ≤ 4), (i_2 : 0 ≤ k5_la.toInt ∧ k5_la.toInt ≤ 4840), (i_3 : 0 ≤ k5_bk.toInt ∧ k5_bk.toInt ≤ 1), (i_4 : 0 ≤ k5_ce.toInt ∧ k5_ce.toInt ≤ 63), (i_5 : 0 ≤ k5_ho.toInt ∧ k5_ho.toInt ≤ 23), (i_6 : 0 ≤ k5_wy.toInt ∧ k5_wy.toInt ≤ 3), (i_7 : 0 ≤ k5_bt.toInt ∧ k5_bt.toInt ≤ 1000000), (i_8 : 0 ≤ k5_ps.toInt ∧ k5_ps.toInt ≤ 200), (i_9 : PTI k5_pt)⟩ ih_5_10
  replace hl : lv_has ls 5 [(3, .int k5_3), (4, .int k5_4), (0, .ref b_o), (1, .int p_1), (2, .int p_2)] := hl
  refine g5_rs [(b_o, (oc12 u_th u_sa b_rf b_ro b_im b_ke u_fd b_tp u_td u_fr u_to u_so u_wo u_fa u_bd u_nc b_nl u_co b_op b_ar u_le b_pi b_pa u_pd u_od b_ws b_hw k5_la b_se b_re k5_bk k5_va k5_su k5_ce k5_ho k5_wy k5_bt k5_ps b_pt k5_tg k5_sn b_ip u_ic b_ah b_be b_me u_wd b_tr b_ld u_st b_wn u_id)), (b_ro, (arI G 5740 v_ro)), (b_se, (arJ G 13 k5_se)), (b_re, (arJ G 400 k5_re)), (b_pt, (arI G 200 k5_pt))] hP hD ?_
  clear hP hD
  intro hP hD
  refine lv_iload hx hb dX12_seenFrom_5 (lv_at hl 1 rfl) ?_
  refine lv_iconst (v := 4) hx hb dX12_seenFrom_7 (by decide +kernel) ?_
  refine lv_icmp_ge (tgt := 47) hx hb dX12_seenFrom_8 (by decide +kernel) (fun c_11 => ?_) (fun c_11 => ?_)
  ·
    have i_11 : k5_4.toInt ≥ 4 := g5_ge (a := k5_4.toInt) (b := 4) rfl (by decide +kernel) c_11
    refine lv_iload_n hx hb dX12_seenFrom_47 rfl (lv_at hl 0 rfl) ?_
    exact W.iret (v := k5_3) hx hb hr (fun t ht hW => ⟨⟨k5_3, [(b_o, (oc12 u_th u_sa b_rf b_ro b_im b_ke u_fd b_tp u_td u_fr u_to u_so u_wo u_fa u_bd u_nc b_nl u_co b_op b_ar u_le b_pi b_pa u_pd u_od b_ws b_hw k5_la b_se b_re k5_bk k5_va k5_su k5_ce k5_ho k5_wy k5_bt k5_ps b_pt k5_tg k5_sn b_ip u_ic b_ah b_be b_me u_wd b_tr b_ld u_st b_wn u_id)), (b_ro, (arI G 5740 v_ro)), (b_se, (arJ G 13 k5_se)), (b_re, (arJ G 400 k5_re)), (b_pt, (arI G 200 k5_pt))], rfl, ⟨k5_3, k5_la, k5_bk, k5_va, k5_su, k5_ce, k5_ho, k5_wy, k5_bt, k5_ps, k5_tg, k5_sn, k5_se, k5_re, k5_pt, i_2, i_3, i_4, i_5, i_6, i_7, i_8, i_9, rfl, rfl⟩, by rw [ht]; exact hP.sub [0, 1, 2, 3, 4] rfl, hD.sub [0, 1, 2, 3, 4] (by decide +kernel) rfl⟩, hS.F ht⟩) hS.2.2 dX12_seenFrom_48
  ·
    have i_11 : k5_4.toInt < 4 := g5_geN (a := k5_4.toInt) (b := 4) rfl (by decide +kernel) c_11
    refine lv_aload_n hx hb dX12_seenFrom_11 rfl (lv_at hl 2 rfl) ?_
    refine lv_iload_n hx hb dX12_seenFrom_12 rfl (lv_at hl 3 rfl) ?_
    refine lv_iload hx hb dX12_seenFrom_13 (lv_at hl 1 rfl) ?_
    refine lv_iload_n hx hb dX12_seenFrom_15 rfl (lv_at hl 4 rfl) ?_
    refine lv_iconst (v := 0) hx hb dX12_seenFrom_16 (by decide +kernel) ?_
    obtain ⟨hPc, hDc, hFc⟩ := g5_sub3 (wc := [(b_o, (oc12 u_th u_sa b_rf b_ro b_im b_ke u_fd b_tp u_td u_fr u_to u_so u_wo u_fa u_bd u_nc b_nl u_co b_op b_ar u_le b_pi b_pa u_pd u_od b_ws b_hw k5_la b_se b_re k5_bk k5_va k5_su k5_ce k5_ho k5_wy k5_bt k5_ps b_pt k5_tg k5_sn b_ip u_ic b_ah b_be b_me u_wd b_tr b_ld u_st b_wn u_id)), (b_ro, (arI G 5740 v_ro)), (b_se, (arJ G 13 k5_se)), (b_re, (arJ G 400 k5_re)), (b_pt, (arI G 200 k5_pt))]) hP hD hS hA [0, 1, 2, 3, 4] (by decide +kernel) rfl
    refine va_callv (va_runV (As := [.int p_1, .int k5_4, .int p_2, .int 0]) (rest := []) ⟨hx, hb, hml, hown, hts⟩ (n_go l G b_o b_ro b_se b_re b_pt b_rf b_im b_ke b_tp b_nl b_op b_ar b_pi b_pa b_ws b_hw b_ip b_ah b_be b_me b_tr b_ld b_wn H.size u_th u_sa u_fd u_td u_fr u_to u_so u_fa u_bd u_nc u_co u_le u_pd u_od k5_la k5_bk k5_ce k5_ho k5_wy k5_bt k5_ps k5_tg k5_sn u_ic u_wd u_id p_1 k5_4 p_2 0 u_wo k5_va k5_su u_st v_ro k5_se k5_re k5_pt h_u_td h_u_fr h_u_to h_u_bd h_u_nc h_u_co h_u_pd i_2 i_3 i_4 i_5 i_6 i_7 i_8 h_u_ic h_u_id h_p_1 ⟨by omega, by omega⟩ h_p_2 (r_ro) (i_9)) (cwV 4 hts gV_X12_401 rfl rfl rfl hv_X12_go ⟨Nat.le_of_ble_eq_true rfl, Nat.le_of_ble_eq_true rfl⟩) (g5_preV hPc hK hDc hN hT hS hFc (ci := 12) (q0 := 0) rfl rfl) rfl rfl hl.1 rfl (lv_room (Nat.le_of_ble_eq_true rfl)) dX12_seenFrom_17 ⟨Nat.le_of_ble_eq_true rfl, Nat.le_of_ble_eq_true rfl⟩) hS (fun q _ h => hFc q h) hFc (fun u t H locs ht hvm hw hB hz1 hk1 hS => ?_)
    obtain ⟨hP1, hD1⟩ := hB
    have hP1 := g5_ht ht hP1
    obtain ⟨z20, z21, z22, z23, z24, z25, z26, z27, z28, z29, z30, z31, z32, z33, (i_12 : 0 ≤ z20.toInt ∧ z20.toInt ≤ 4840), (i_13 : 0 ≤ z21.toInt ∧ z21.toInt ≤ 1), (i_14 : 0 ≤ z24.toInt ∧ z24.toInt ≤ 63), (i_15 : 0 ≤ z25.toInt ∧ z25.toInt ≤ 23), (i_16 : 0 ≤ z26.toInt ∧ z26.toInt ≤ 3), (i_17 : 0 ≤ z27.toInt ∧ z27.toInt ≤ 1000000), (i_18 : 0 ≤ z28.toInt ∧ z28.toInt ≤ 200), (i_19 : PTI z33), rfl⟩ := hw
    have hJ9 := va_join (wr := []) hP hD [0, 1, 2, 3, 4] [] rfl rfl (by decide +kernel) (by decide +kernel) hk1 hFc hP1 hD1
    clear hP hD hPc hDc hFc ht hvm hz1 hk1 hP1 hD1
    obtain ⟨hP, hD⟩ := hJ9
    refine g5_rs [(b_o, (oc12 u_th u_sa b_rf b_ro b_im b_ke u_fd b_tp u_td u_fr u_to u_so u_wo u_fa u_bd u_nc b_nl u_co b_op b_ar u_le b_pi b_pa u_pd u_od b_ws b_hw z20 b_se b_re z21 z22 z23 z24 z25 z26 z27 z28 b_pt z29 z30 b_ip u_ic b_ah b_be b_me u_wd b_tr b_ld u_st b_wn u_id)), (b_ro, (arI G 5740 v_ro)), (b_se, (arJ G 13 z31)), (b_re, (arJ G 400 z32)), (b_pt, (arI G 200 z33))] hP hD ?_
    clear hP hD
    intro hP hD
    refine lv_iload_n hx hb dX12_seenFrom_20 rfl (lv_at hl 0 rfl) ?_
    refine lv_aload_n hx hb dX12_seenFrom_21 rfl (lv_at hl 2 rfl) ?_
    refine va_get (D := G.1) (ci := 12) (v := .int z30) (C := RX12) (T := TX12) (N := 52) hx hb hts inG_X12 hown hK hP 0 rfl rfl 40 (by decide +kernel) (hts _ fl_X12_371) (fun _ h9 => h9) rfl dX12_seenFrom_22 ?_
    refine lv_iconst (v := (-1)) hx hb dX12_seenFrom_25 (by decide +kernel) ?_
    refine lv_icmp_ne (tgt := 33) hx hb dX12_seenFrom_26 (by decide +kernel) (fun c_34 => ?_) (fun c_34 => ?_)
    ·
      have n_34 : gNe (z30.toInt) ((-1)) := g5_ne (a := z30.toInt) (b := (-1)) rfl (by decide +kernel) c_34
      refine lv_iconst (v := 1) hx hb dX12_seenFrom_33 (by decide +kernel) ?_
      refine lv_aload_n hx hb dX12_seenFrom_34 rfl (lv_at hl 2 rfl) ?_
      refine va_get (D := G.1) (ci := 12) (v := .int z30) (C := RX12) (T := TX12) (N := 52) hx hb hts inG_X12 hown hK hP 0 rfl rfl 40 (by decide +kernel) (hts _ fl_X12_371) (fun _ h9 => h9) rfl dX12_seenFrom_35 ?_
      refine lv_ishl hx hb dX12_seenFrom_38 ?_
      refine lv_ior hx hb dX12_seenFrom_39 ?_
      refine lv_istore_n (lv' := [(3, .int (k5_3 ||| (1 <<< (z30 &&& 31)))), (4, .int k5_4), (0, .ref b_o), (1, .int p_1), (2, .int p_2)]) hx hb dX12_seenFrom_40 rfl hl (by decide +kernel) rfl ?_
      clear hl
      intro ls hl
      refine lv_iinc (v := (k5_4 + 1)) (lv' := [(4, .int (k5_4 + 1)), (3, .int (k5_3 ||| (1 <<< (z30 &&& 31)))), (0, .ref b_o), (1, .int p_1), (2, .int p_2)]) hx hb dX12_seenFrom_41 hl (k := 1) rfl rfl (by decide +kernel) rfl ?_
      clear hl
      intro ls hl
      have t_35 : (k5_4 + 1).toInt = k5_4.toInt + 1 := g5_iadd (a := k5_4.toInt) (b := 1) rfl (by decide +kernel) (by omega) (by omega)
      refine lv_goto (tgt := 5) hx hb dX12_seenFrom_44 (by decide +kernel) ?_
      exact ih_5_10 ((k5_4 + 1), (k5_3 ||| (1 <<< (z30 &&& 31))), z20, z21, z22, z23, z24, z25, z26, z27, z28, z29, z30, z31, z32, z33) ls H locs (show Int.toNat (4 - (k5_4 + 1).toInt) < Int.toNat (4 - k5_4.toInt) from g_up (show k5_4.toInt < (k5_4 + 1).toInt by omega) (show k5_4.toInt < 4 by omega)) ⟨lv_sub hl [1, 0, 2, 3, 4] rfl, hP, hD, hS, ⟨by omega, by omega⟩, i_12, i_13, i_14, i_15, i_16, i_17, i_18, i_19⟩
    ·
      have i_34 : z30.toInt = (-1) := g5_neN (a := z30.toInt) (b := (-1)) rfl (by decide +kernel) c_34
      refine lv_iconst (v := 0) hx hb dX12_seenFrom_29 (by decide +kernel) ?_
      refine lv_goto (tgt := 39) hx hb dX12_seenFrom_30 (by decide +kernel) ?_
      refine lv_ior hx hb dX12_seenFrom_39 ?_
      refine g5_ti (v := k5_3) (by simp) ?_
      refine lv_istore_n (lv' := [(3, .int k5_3), (4, .int k5_4), (0, .ref b_o), (1, .int p_1), (2, .int p_2)]) hx hb dX12_seenFrom_40 rfl hl (by decide +kernel) rfl ?_
      clear hl
      intro ls hl
      refine lv_iinc (v := (k5_4 + 1)) (lv' := [(4, .int (k5_4 + 1)), (3, .int k5_3), (0, .ref b_o), (1, .int p_1), (2, .int p_2)]) hx hb dX12_seenFrom_41 hl (k := 1) rfl rfl (by decide +kernel) rfl ?_
      clear hl
      intro ls hl
      have t_36 : (k5_4 + 1).toInt = k5_4.toInt + 1 := g5_iadd (a := k5_4.toInt) (b := 1) rfl (by decide +kernel) (by omega) (by omega)
      refine lv_goto (tgt := 5) hx hb dX12_seenFrom_44 (by decide +kernel) ?_
      exact ih_5_10 ((k5_4 + 1), k5_3, z20, z21, z22, z23, z24, z25, z26, z27, z28, z29, z30, z31, z32, z33) ls H locs (show Int.toNat (4 - (k5_4 + 1).toInt) < Int.toNat (4 - k5_4.toInt) from g_up (show k5_4.toInt < (k5_4 + 1).toInt by omega) (show k5_4.toInt < 4 by omega)) ⟨lv_sub hl [1, 0, 2, 3, 4] rfl, hP, hD, hS, ⟨by omega, by omega⟩, i_12, i_13, i_14, i_15, i_16, i_17, i_18, i_19⟩
theorem dgX12_sees_0 : ∀ r ∈ ([(0, (.aload_n 0, 1)), (1, (.iconst 0, 1)), (2, (.putfield 107, 3)), (5, (.iload_n 1, 1)), (6, (.invokestatic 138, 3)), (9, (.ifCond .eq 19, 3)), (12, (.iload_n 2, 1)), (13, (.invokestatic 175, 3)), (16, (.ifCond .eq 12, 3)), (19, (.aload_n 0, 1)), (20, (.iload_n 1, 1)), (21, (.iload_n 2, 1)), (22, (.invokevirtual 404, 3)), (25, (.goto 4, 3)), (28, (.iconst (-1), 1)), (29, (.ireturn, 1))] : List (Nat × (Instr × Nat))), decode cX12_sees r.1 = .ok r.2 := by decide +kernel
theorem dX12_sees_0 : decode cX12_sees 0 = .ok (.aload_n 0, 1) := dgX12_sees_0 (0, (.aload_n 0, 1)) (List.mem_of_getElem? (i := 0) rfl)
theorem dX12_sees_1 : decode cX12_sees 1 = .ok (.iconst 0, 1) := dgX12_sees_0 (1, (.iconst 0, 1)) (List.mem_of_getElem? (i := 1) rfl)
theorem dX12_sees_2 : decode cX12_sees 2 = .ok (.putfield 107, 3) := dgX12_sees_0 (2, (.putfield 107, 3)) (List.mem_of_getElem? (i := 2) rfl)
theorem dX12_sees_5 : decode cX12_sees 5 = .ok (.iload_n 1, 1) := dgX12_sees_0 (5, (.iload_n 1, 1)) (List.mem_of_getElem? (i := 3) rfl)
theorem dX12_sees_6 : decode cX12_sees 6 = .ok (.invokestatic 138, 3) := dgX12_sees_0 (6, (.invokestatic 138, 3)) (List.mem_of_getElem? (i := 4) rfl)
theorem dX12_sees_9 : decode cX12_sees 9 = .ok (.ifCond .eq 19, 3) := dgX12_sees_0 (9, (.ifCond .eq 19, 3)) (List.mem_of_getElem? (i := 5) rfl)
theorem dX12_sees_12 : decode cX12_sees 12 = .ok (.iload_n 2, 1) := dgX12_sees_0 (12, (.iload_n 2, 1)) (List.mem_of_getElem? (i := 6) rfl)
theorem dX12_sees_13 : decode cX12_sees 13 = .ok (.invokestatic 175, 3) := dgX12_sees_0 (13, (.invokestatic 175, 3)) (List.mem_of_getElem? (i := 7) rfl)
theorem dX12_sees_16 : decode cX12_sees 16 = .ok (.ifCond .eq 12, 3) := dgX12_sees_0 (16, (.ifCond .eq 12, 3)) (List.mem_of_getElem? (i := 8) rfl)
theorem dX12_sees_19 : decode cX12_sees 19 = .ok (.aload_n 0, 1) := dgX12_sees_0 (19, (.aload_n 0, 1)) (List.mem_of_getElem? (i := 9) rfl)
theorem dX12_sees_20 : decode cX12_sees 20 = .ok (.iload_n 1, 1) := dgX12_sees_0 (20, (.iload_n 1, 1)) (List.mem_of_getElem? (i := 10) rfl)
theorem dX12_sees_21 : decode cX12_sees 21 = .ok (.iload_n 2, 1) := dgX12_sees_0 (21, (.iload_n 2, 1)) (List.mem_of_getElem? (i := 11) rfl)
theorem dX12_sees_22 : decode cX12_sees 22 = .ok (.invokevirtual 404, 3) := dgX12_sees_0 (22, (.invokevirtual 404, 3)) (List.mem_of_getElem? (i := 12) rfl)
theorem dX12_sees_25 : decode cX12_sees 25 = .ok (.goto 4, 3) := dgX12_sees_0 (25, (.goto 4, 3)) (List.mem_of_getElem? (i := 13) rfl)
theorem dX12_sees_28 : decode cX12_sees 28 = .ok (.iconst (-1), 1) := dgX12_sees_0 (28, (.iconst (-1), 1)) (List.mem_of_getElem? (i := 14) rfl)
theorem dX12_sees_29 : decode cX12_sees 29 = .ok (.ireturn, 1) := dgX12_sees_0 (29, (.ireturn, 1)) (List.mem_of_getElem? (i := 15) rfl)
theorem ml_X12_404 : Cond.methodLink RX12 404 yX12_seenFrom ∈ tblG := tg 1659 (by decide +kernel) (by decide +kernel)
theorem im_X12_seenFrom : Cond.instanceMethod yX12_seenFrom ∈ tblG := tg 1661 (by decide +kernel) (by decide +kernel)
theorem se_X12_seenFrom : Cond.selects RX12 yX12_seenFrom yX12_seenFrom ∈ tblG := tg 70 (by decide +kernel) (by decide +kernel)
theorem cd_X12_seenFrom : Cond.code yX12_seenFrom cX12_seenFrom 5 (some .int) ∈ tblG := tg 1662 (by decide +kernel) (by decide +kernel)
theorem gW_X12_seenFrom : GoodIn tblG (wsG yX12_seenFrom cX12_seenFrom 5 (some .int)) := tgi cd_X12_seenFrom
theorem gV_X12_404 : GoodIn tblG (wsV RX12 404 RX12 yX12_seenFrom (wsG yX12_seenFrom cX12_seenFrom 5 (some .int))) := tgV ml_X12_404 im_X12_seenFrom se_X12_seenFrom ini_X12 gW_X12_seenFrom
theorem hv_X12_seenFrom : yX12_seenFrom.cls = RX12 ∧ yX12_seenFrom.cls ≠ "java/lang/invoke/MethodHandle" ∧ yX12_seenFrom.cls ≠ "java/lang/invoke/VarHandle" ∧ (parseMethodDescriptor yX12_seenFrom.desc).map (fun d => d.parameters.length) = some 2 := by decide +kernel
set_option maxHeartbeats 4000000 in
set_option maxRecDepth 100000 in
theorem n_sees (l : Launch) (G : g5_G) (b_o b_ro b_se b_re b_pt b_rf b_im b_ke b_tp b_nl b_op b_ar b_pi b_pa b_ws b_hw b_ip b_ah b_be b_me b_tr b_ld b_wn : Nat) (sz : Nat) (u_th : Int32) (u_sa : Int32) (u_fd : Int32) (u_td : Int32) (u_fr : Int32) (u_to : Int32) (u_so : Int32) (u_fa : Int32) (u_bd : Int32) (u_nc : Int32) (u_co : Int32) (u_le : Int32) (u_pd : Int32) (u_od : Int32) (u_la : Int32) (u_bk : Int32) (u_ce : Int32) (u_ho : Int32) (u_wy : Int32) (u_bt : Int32) (u_ps : Int32) (u_tg : Int32) (u_sn : Int32) (u_ic : Int32) (u_wd : Int32) (u_id : Int32) (p_1 : Int32) (p_2 : Int32) (u_wo : Int64) (u_va : Int64) (u_su : Int64) (u_st : Int64) (v_ro : Nat → Int32) (v_se : Nat → Int64) (v_re : Nat → Int64) (v_pt : Nat → Int32) (h_u_td : 0 ≤ u_td.toInt ∧ u_td.toInt ≤ 400) (h_u_fr : 0 ≤ u_fr.toInt ∧ u_fr.toInt ≤ 400) (h_u_to : 0 ≤ u_to.toInt ∧ u_to.toInt ≤ 400) (h_u_bd : 0 ≤ u_bd.toInt ∧ u_bd.toInt ≤ 1) (h_u_nc : 0 ≤ u_nc.toInt ∧ u_nc.toInt ≤ 12) (h_u_co : 0 ≤ u_co.toInt ∧ u_co.toInt ≤ 400) (h_u_pd : 0 ≤ u_pd.toInt ∧ u_pd.toInt ≤ 400) (h_u_la : 0 ≤ u_la.toInt ∧ u_la.toInt ≤ 4840) (h_u_bk : 0 ≤ u_bk.toInt ∧ u_bk.toInt ≤ 1) (h_u_ce : 0 ≤ u_ce.toInt ∧ u_ce.toInt ≤ 63) (h_u_ho : 0 ≤ u_ho.toInt ∧ u_ho.toInt ≤ 23) (h_u_wy : 0 ≤ u_wy.toInt ∧ u_wy.toInt ≤ 3) (h_u_bt : 0 ≤ u_bt.toInt ∧ u_bt.toInt ≤ 1000000) (h_u_ps : 0 ≤ u_ps.toInt ∧ u_ps.toInt ≤ 200) (h_u_ic : 0 ≤ u_ic.toInt ∧ u_ic.toInt ≤ 1) (h_u_id : 0 ≤ u_id.toInt ∧ u_id.toInt ≤ 1) (r_ro : MI v_ro) (r_pt : PTI v_pt) : Met l yX12_sees (wsG yX12_sees cX12_sees 3 (some .int)) ({ frames := 8, cells := 0, slots := 0, locals := 200 }) (va_Pc [.ref b_o, .int p_1, .int p_2] (g5_P G [(b_o, (oc12 u_th u_sa b_rf b_ro b_im b_ke u_fd b_tp u_td u_fr u_to u_so u_wo u_fa u_bd u_nc b_nl u_co b_op b_ar u_le b_pi b_pa u_pd u_od b_ws b_hw u_la b_se b_re u_bk u_va u_su u_ce u_ho u_wy u_bt u_ps b_pt u_tg u_sn b_ip u_ic b_ah b_be b_me u_wd b_tr b_ld u_st b_wn u_id)), (b_ro, (arI G 5740 v_ro)), (b_se, (arJ G 13 v_se)), (b_re, (arJ G 400 v_re)), (b_pt, (arI G 200 v_pt))] sz)) (va_Qi (fun (r : Int32) (u : va_W) => (∃ (o_r : Int32) (o_th : Int32) (o_la : Int32) (o_bk : Int32) (o_va : Int64) (o_su : Int64) (o_ce : Int32) (o_ho : Int32) (o_wy : Int32) (o_bt : Int32) (o_ps : Int32) (o_tg : Int32) (o_sn : Int32) (o_se : Nat → Int64) (o_re : Nat → Int64) (o_pt : Nat → Int32), (0 ≤ o_la.toInt ∧ o_la.toInt ≤ 4840) ∧ (0 ≤ o_bk.toInt ∧ o_bk.toInt ≤ 1) ∧ (0 ≤ o_ce.toInt ∧ o_ce.toInt ≤ 63) ∧ (0 ≤ o_ho.toInt ∧ o_ho.toInt ≤ 23) ∧ (0 ≤ o_wy.toInt ∧ o_wy.toInt ≤ 3) ∧ (0 ≤ o_bt.toInt ∧ o_bt.toInt ≤ 1000000) ∧ (0 ≤ o_ps.toInt ∧ o_ps.toInt ≤ 200) ∧ (PTI o_pt) ∧ (r = o_r) ∧ (u = [(b_o, (oc12 o_th u_sa b_rf b_ro b_im b_ke u_fd b_tp u_td u_fr u_to u_so u_wo u_fa u_bd u_nc b_nl u_co b_op b_ar u_le b_pi b_pa u_pd u_od b_ws b_hw o_la b_se b_re o_bk o_va o_su o_ce o_ho o_wy o_bt o_ps b_pt o_tg o_sn b_ip u_ic b_ah b_be b_me u_wd b_tr b_ld u_st b_wn u_id)), (b_ro, (arI G 5740 v_ro)), (b_se, (arJ G 13 o_se)), (b_re, (arJ G 400 o_re)), (b_pt, (arI G 200 o_pt))]))) (g5_B G (va_A [(b_o, (oc12 u_th u_sa b_rf b_ro b_im b_ke u_fd b_tp u_td u_fr u_to u_so u_wo u_fa u_bd u_nc b_nl u_co b_op b_ar u_le b_pi b_pa u_pd u_od b_ws b_hw u_la b_se b_re u_bk u_va u_su u_ce u_ho u_wy u_bt u_ps b_pt u_tg u_sn b_ip u_ic b_ah b_be b_me u_wd b_tr b_ld u_st b_wn u_id)), (b_ro, (arI G 5740 v_ro)), (b_se, (arJ G 13 v_se)), (b_re, (arJ G 400 v_re)), (b_pt, (arI G 200 v_pt))] sz)) (va_A [(b_o, (oc12 u_th u_sa b_rf b_ro b_im b_ke u_fd b_tp u_td u_fr u_to u_so u_wo u_fa u_bd u_nc b_nl u_co b_op b_ar u_le b_pi b_pa u_pd u_od b_ws b_hw u_la b_se b_re u_bk u_va u_su u_ce u_ho u_wy u_bt u_ps b_pt u_tg u_sn b_ip u_ic b_ah b_be b_me u_wd b_tr b_ld u_st b_wn u_id)), (b_ro, (arI G 5740 v_ro)), (b_se, (arJ G 13 v_se)), (b_re, (arJ G 400 v_re)), (b_pt, (arI G 200 v_pt))] sz)) 0 0 (va_A [(b_o, (oc12 u_th u_sa b_rf b_ro b_im b_ke u_fd b_tp u_td u_fr u_to u_so u_wo u_fa u_bd u_nc b_nl u_co b_op b_ar u_le b_pi b_pa u_pd u_od b_ws b_hw u_la b_se b_re u_bk u_va u_su u_ce u_ho u_wy u_bt u_ps b_pt u_tg u_sn b_ip u_ic b_ah b_be b_me u_wd b_tr b_ld u_st b_wn u_id)), (b_ro, (arI G 5740 v_ro)), (b_se, (arJ G 13 v_se)), (b_re, (arJ G 400 v_re)), (b_pt, (arI G 200 v_pt))] sz) := by
  refine Met.ofW (cc := cX12_sees) (maxL := 3) (ret := (some .int)) (by decide +kernel) rfl ?_
  intro p e s m args below meth c s₁ B hml hv
  obtain ⟨rfl, hsz, hP, hK, hD0, hN, hT⟩ := hv
  have hx := B.exec
  have hb := B.bytes
  have hr := B.returns
  have hts : ∀ w ∈ tblG, w.before _ s = true := fun w h => atoms_spec (ws := (wsG yX12_sees cX12_sees 3 (some .int))) B.pre w (List.mem_cons_of_mem _ h)
  have hown : s.vm.findClass RX12 = some m.cls := findClass_of_methodNamed B.named
  have hlocks := B.notSynchronized
  subst hsz
  have hD := hD0.self (sz := s.heap.size)
  generalize hAe : va_A [(b_o, (oc12 u_th u_sa b_rf b_ro b_im b_ke u_fd b_tp u_td u_fr u_to u_so u_wo u_fa u_bd u_nc b_nl u_co b_op b_ar u_le b_pi b_pa u_pd u_od b_ws b_hw u_la b_se b_re u_bk u_va u_su u_ce u_ho u_wy u_bt u_ps b_pt u_tg u_sn b_ip u_ic b_ah b_be b_me u_wd b_tr b_ld u_st b_wn u_id)), (b_ro, (arI G 5740 v_ro)), (b_se, (arJ G 13 v_se)), (b_re, (arJ G 400 v_re)), (b_pt, (arI G 200 v_pt))] s.heap.size = A at hD hT ⊢
  have hA : ∀ q : Nat, s.heap.size ≤ q → A q := fun q h => by rw [← hAe]; exact Or.inr h
  have hS : va_S A s.heap s.heap [] := va_S.rf
  replace hP : va_P G.1 vwCl [(b_o, (oc12 u_th u_sa b_rf b_ro b_im b_ke u_fd b_tp u_td u_fr u_to u_so u_wo u_fa u_bd u_nc b_nl u_co b_op b_ar u_le b_pi b_pa u_pd u_od b_ws b_hw u_la b_se b_re u_bk u_va u_su u_ce u_ho u_wy u_bt u_ps b_pt u_tg u_sn b_ip u_ic b_ah b_be b_me u_wd b_tr b_ld u_st b_wn u_id)), (b_ro, (arI G 5740 v_ro)), (b_se, (arJ G 13 v_se)), (b_re, (arJ G 400 v_re)), (b_pt, (arI G 200 v_pt))] s.heap := hP
  have hl := lv_entry ([.ref b_o, .int p_1, .int p_2]) (n := 3) (Nat.le_of_ble_eq_true rfl)
  rw [lg_entry_eq]
  generalize (lg_sl ([.ref b_o, .int p_1, .int p_2]) ++ List.replicate (3 - (lg_sl ([.ref b_o, .int p_1, .int p_2])).length) Slot.unset).toArray = ls at hl ⊢
  replace hl : lv_has ls 3 [(0, .ref b_o), (1, .int p_1), (2, .int p_2)] := hl
  refine lv_aload_n hx hb dX12_sees_0 rfl (lv_at hl 0 rfl) ?_
  refine lv_iconst (v := 0) hx hb dX12_sees_1 (by decide +kernel) ?_
  refine va_put (D := G.1) (ci := 12) (v := .int 0) (ty := .int) (C := RX12) (T := TX12) (N := 52) hx hb hts inG_X12 tyX12 tyX12_ok nmX12 hown hK hP hD hS 0 rfl rfl 0 (by decide +kernel) (hts _ fl_X12_107) (fun _ h9 => h9) rfl (by decide +kernel) rfl rfl (Nat.le_of_ble_eq_true rfl) dX12_sees_2 ?_
  clear hP hD hS
  intro H locs hP hD hS
  refine g5_rs [(b_o, (oc12 0 u_sa b_rf b_ro b_im b_ke u_fd b_tp u_td u_fr u_to u_so u_wo u_fa u_bd u_nc b_nl u_co b_op b_ar u_le b_pi b_pa u_pd u_od b_ws b_hw u_la b_se b_re u_bk u_va u_su u_ce u_ho u_wy u_bt u_ps b_pt u_tg u_sn b_ip u_ic b_ah b_be b_me u_wd b_tr b_ld u_st b_wn u_id)), (b_ro, (arI G 5740 v_ro)), (b_se, (arJ G 13 v_se)), (b_re, (arJ G 400 v_re)), (b_pt, (arI G 200 v_pt))] hP hD ?_
  clear hP hD
  intro hP hD
  refine lv_iload_n hx hb dX12_sees_5 rfl (lv_at hl 1 rfl) ?_
  obtain ⟨hPc, hDc, hFc⟩ := g5_sub3 (wc := []) hP hD hS hA [] (by decide +kernel) rfl
  refine va_calli (va_runS (As := [.int p_1]) (rest := []) ⟨hx, hb, hml, hown, hts⟩ (n_isCell l G H.size p_1) (va_cwS 1 hts gS_X12_138 rfl rfl rfl hs_X12_isCell ⟨Nat.le_of_ble_eq_true rfl, Nat.le_of_ble_eq_true rfl⟩) (g5_preS hPc hK hDc hN hT hS hFc) rfl rfl hl.1 rfl (lv_room (Nat.le_of_ble_eq_true rfl)) dX12_sees_6 ⟨Nat.le_of_ble_eq_true rfl, Nat.le_of_ble_eq_true rfl⟩) hS (fun q _ h => hFc q h) hFc (fun r u t H locs ht hvm hw hB hz1 hk1 hS => ?_)
  obtain ⟨hP1, hD1⟩ := hB
  have hP1 := g5_ht ht hP1
  rcases hw with ⟨(i_1 : 0 ≤ p_1.toInt ∧ p_1.toInt ≤ 63), rfl, rfl⟩ | ⟨rfl, rfl⟩
  ·
    have hJ9 := g5_same hP hk1
    clear hP hPc hDc hFc ht hvm hz1 hk1 hP1 hD1
    have hP := hJ9
    clear hJ9
    refine lv_if_eq (tgt := 28) hx hb dX12_sees_9 (by decide +kernel) (fun c_2 => ?_) (fun c_2 => ?_)
    ·
      exact absurd c_2 (by decide +kernel)
    ·
      refine lv_iload_n hx hb dX12_sees_12 rfl (lv_at hl 2 rfl) ?_
      obtain ⟨hPc, hDc, hFc⟩ := g5_sub3 (wc := []) hP hD hS hA [] (by decide +kernel) rfl
      refine va_calli (va_runS (As := [.int p_2]) (rest := []) ⟨hx, hb, hml, hown, hts⟩ (n_isHour l G H.size p_2) (va_cwS 1 hts gS_X12_175 rfl rfl rfl hs_X12_isHour ⟨Nat.le_of_ble_eq_true rfl, Nat.le_of_ble_eq_true rfl⟩) (g5_preS hPc hK hDc hN hT hS hFc) rfl rfl hl.1 rfl (lv_room (Nat.le_of_ble_eq_true rfl)) dX12_sees_13 ⟨Nat.le_of_ble_eq_true rfl, Nat.le_of_ble_eq_true rfl⟩) hS (fun q _ h => hFc q h) hFc (fun r u t H locs ht hvm hw hB hz1 hk1 hS => ?_)
      obtain ⟨hP1, hD1⟩ := hB
      have hP1 := g5_ht ht hP1
      rcases hw with ⟨(i_3 : 0 ≤ p_2.toInt ∧ p_2.toInt ≤ 23), rfl, rfl⟩ | ⟨rfl, rfl⟩
      ·
        have hJ9 := g5_same hP hk1
        clear hP hPc hDc hFc ht hvm hz1 hk1 hP1 hD1
        have hP := hJ9
        clear hJ9
        refine lv_if_eq (tgt := 28) hx hb dX12_sees_16 (by decide +kernel) (fun c_4 => ?_) (fun c_4 => ?_)
        ·
          exact absurd c_4 (by decide +kernel)
        ·
          refine lv_aload_n hx hb dX12_sees_19 rfl (lv_at hl 0 rfl) ?_
          refine lv_iload_n hx hb dX12_sees_20 rfl (lv_at hl 1 rfl) ?_
          refine lv_iload_n hx hb dX12_sees_21 rfl (lv_at hl 2 rfl) ?_
          obtain ⟨hPc, hDc, hFc⟩ := g5_sub3 (wc := [(b_o, (oc12 0 u_sa b_rf b_ro b_im b_ke u_fd b_tp u_td u_fr u_to u_so u_wo u_fa u_bd u_nc b_nl u_co b_op b_ar u_le b_pi b_pa u_pd u_od b_ws b_hw u_la b_se b_re u_bk u_va u_su u_ce u_ho u_wy u_bt u_ps b_pt u_tg u_sn b_ip u_ic b_ah b_be b_me u_wd b_tr b_ld u_st b_wn u_id)), (b_ro, (arI G 5740 v_ro)), (b_se, (arJ G 13 v_se)), (b_re, (arJ G 400 v_re)), (b_pt, (arI G 200 v_pt))]) hP hD hS hA [0, 1, 2, 3, 4] (by decide +kernel) rfl
          refine va_calli (va_runV (As := [.int p_1, .int p_2]) (rest := []) ⟨hx, hb, hml, hown, hts⟩ (n_seenFrom l G b_o b_ro b_se b_re b_pt b_rf b_im b_ke b_tp b_nl b_op b_ar b_pi b_pa b_ws b_hw b_ip b_ah b_be b_me b_tr b_ld b_wn H.size 0 u_sa u_fd u_td u_fr u_to u_so u_fa u_bd u_nc u_co u_le u_pd u_od u_la u_bk u_ce u_ho u_wy u_bt u_ps u_tg u_sn u_ic u_wd u_id p_1 p_2 u_wo u_va u_su u_st v_ro v_se v_re v_pt h_u_td h_u_fr h_u_to h_u_bd h_u_nc h_u_co h_u_pd h_u_la h_u_bk h_u_ce h_u_ho h_u_wy h_u_bt h_u_ps h_u_ic h_u_id i_1 i_3 (r_ro) (r_pt)) (cwV 2 hts gV_X12_404 rfl rfl rfl hv_X12_seenFrom ⟨Nat.le_of_ble_eq_true rfl, Nat.le_of_ble_eq_true rfl⟩) (g5_preV hPc hK hDc hN hT hS hFc (ci := 12) (q0 := 0) rfl rfl) rfl rfl hl.1 rfl (lv_room (Nat.le_of_ble_eq_true rfl)) dX12_sees_22 ⟨Nat.le_of_ble_eq_true rfl, Nat.le_of_ble_eq_true rfl⟩) hS (fun q _ h => hFc q h) hFc (fun r u t H locs ht hvm hw hB hz1 hk1 hS => ?_)
          obtain ⟨hP1, hD1⟩ := hB
          have hP1 := g5_ht ht hP1
          obtain ⟨z13, z14, z15, z16, z17, z18, z19, z20, z21, z22, z23, z24, z25, z26, z27, (i_5 : 0 ≤ z14.toInt ∧ z14.toInt ≤ 4840), (i_6 : 0 ≤ z15.toInt ∧ z15.toInt ≤ 1), (i_7 : 0 ≤ z18.toInt ∧ z18.toInt ≤ 63), (i_8 : 0 ≤ z19.toInt ∧ z19.toInt ≤ 23), (i_9 : 0 ≤ z20.toInt ∧ z20.toInt ≤ 3), (i_10 : 0 ≤ z21.toInt ∧ z21.toInt ≤ 1000000), (i_11 : 0 ≤ z22.toInt ∧ z22.toInt ≤ 200), (i_12 : PTI z27), y28, rfl⟩ := hw
          have hJ9 := va_join (wr := []) hP hD [0, 1, 2, 3, 4] [] rfl rfl (by decide +kernel) (by decide +kernel) hk1 hFc hP1 hD1
          clear hP hD hPc hDc hFc ht hvm hz1 hk1 hP1 hD1
          obtain ⟨hP, hD⟩ := hJ9
          refine g5_rs [(b_o, (oc12 0 u_sa b_rf b_ro b_im b_ke u_fd b_tp u_td u_fr u_to u_so u_wo u_fa u_bd u_nc b_nl u_co b_op b_ar u_le b_pi b_pa u_pd u_od b_ws b_hw z14 b_se b_re z15 z16 z17 z18 z19 z20 z21 z22 b_pt z23 z24 b_ip u_ic b_ah b_be b_me u_wd b_tr b_ld u_st b_wn u_id)), (b_ro, (arI G 5740 v_ro)), (b_se, (arJ G 13 z25)), (b_re, (arJ G 400 z26)), (b_pt, (arI G 200 z27))] hP hD ?_
          clear hP hD
          intro hP hD
          refine g5_ti (v := z13) y28 ?_
          refine lv_goto (tgt := 29) hx hb dX12_sees_25 (by decide +kernel) ?_
          exact W.iret (v := z13) hx hb hr (fun t ht hW => ⟨⟨z13, [(b_o, (oc12 0 u_sa b_rf b_ro b_im b_ke u_fd b_tp u_td u_fr u_to u_so u_wo u_fa u_bd u_nc b_nl u_co b_op b_ar u_le b_pi b_pa u_pd u_od b_ws b_hw z14 b_se b_re z15 z16 z17 z18 z19 z20 z21 z22 b_pt z23 z24 b_ip u_ic b_ah b_be b_me u_wd b_tr b_ld u_st b_wn u_id)), (b_ro, (arI G 5740 v_ro)), (b_se, (arJ G 13 z25)), (b_re, (arJ G 400 z26)), (b_pt, (arI G 200 z27))], rfl, ⟨z13, 0, z14, z15, z16, z17, z18, z19, z20, z21, z22, z23, z24, z25, z26, z27, i_5, i_6, i_7, i_8, i_9, i_10, i_11, i_12, rfl, rfl⟩, by rw [ht]; exact hP.sub [0, 1, 2, 3, 4] rfl, hD.sub [0, 1, 2, 3, 4] (by decide +kernel) rfl⟩, hS.F ht⟩) hS.2.2 dX12_sees_29
      ·
        have hJ9 := g5_same hP hk1
        clear hP hPc hDc hFc ht hvm hz1 hk1 hP1 hD1
        have hP := hJ9
        clear hJ9
        refine lv_if_eq (tgt := 28) hx hb dX12_sees_16 (by decide +kernel) (fun c_29 => ?_) (fun c_29 => ?_)
        ·
          refine lv_iconst (v := (-1)) hx hb dX12_sees_28 (by decide +kernel) ?_
          exact W.iret (v := (-1)) hx hb hr (fun t ht hW => ⟨⟨(-1), [(b_o, (oc12 0 u_sa b_rf b_ro b_im b_ke u_fd b_tp u_td u_fr u_to u_so u_wo u_fa u_bd u_nc b_nl u_co b_op b_ar u_le b_pi b_pa u_pd u_od b_ws b_hw u_la b_se b_re u_bk u_va u_su u_ce u_ho u_wy u_bt u_ps b_pt u_tg u_sn b_ip u_ic b_ah b_be b_me u_wd b_tr b_ld u_st b_wn u_id)), (b_ro, (arI G 5740 v_ro)), (b_se, (arJ G 13 v_se)), (b_re, (arJ G 400 v_re)), (b_pt, (arI G 200 v_pt))], rfl, ⟨(-1), 0, u_la, u_bk, u_va, u_su, u_ce, u_ho, u_wy, u_bt, u_ps, u_tg, u_sn, v_se, v_re, v_pt, h_u_la, h_u_bk, h_u_ce, h_u_ho, h_u_wy, h_u_bt, h_u_ps, r_pt, rfl, rfl⟩, by rw [ht]; exact hP.sub [0, 1, 2, 3, 4] rfl, hD.sub [0, 1, 2, 3, 4] (by decide +kernel) rfl⟩, hS.F ht⟩) hS.2.2 dX12_sees_29
        ·
          exact absurd c_29 (by decide +kernel)
  ·
    have hJ9 := g5_same hP hk1
    clear hP hPc hDc hFc ht hvm hz1 hk1 hP1 hD1
    have hP := hJ9
    clear hJ9
    refine lv_if_eq (tgt := 28) hx hb dX12_sees_9 (by decide +kernel) (fun c_30 => ?_) (fun c_30 => ?_)
    ·
      refine lv_iconst (v := (-1)) hx hb dX12_sees_28 (by decide +kernel) ?_
      exact W.iret (v := (-1)) hx hb hr (fun t ht hW => ⟨⟨(-1), [(b_o, (oc12 0 u_sa b_rf b_ro b_im b_ke u_fd b_tp u_td u_fr u_to u_so u_wo u_fa u_bd u_nc b_nl u_co b_op b_ar u_le b_pi b_pa u_pd u_od b_ws b_hw u_la b_se b_re u_bk u_va u_su u_ce u_ho u_wy u_bt u_ps b_pt u_tg u_sn b_ip u_ic b_ah b_be b_me u_wd b_tr b_ld u_st b_wn u_id)), (b_ro, (arI G 5740 v_ro)), (b_se, (arJ G 13 v_se)), (b_re, (arJ G 400 v_re)), (b_pt, (arI G 200 v_pt))], rfl, ⟨(-1), 0, u_la, u_bk, u_va, u_su, u_ce, u_ho, u_wy, u_bt, u_ps, u_tg, u_sn, v_se, v_re, v_pt, h_u_la, h_u_bk, h_u_ce, h_u_ho, h_u_wy, h_u_bt, h_u_ps, r_pt, rfl, rfl⟩, by rw [ht]; exact hP.sub [0, 1, 2, 3, 4] rfl, hD.sub [0, 1, 2, 3, 4] (by decide +kernel) rfl⟩, hS.F ht⟩) hS.2.2 dX12_sees_29
    ·
      exact absurd c_30 (by decide +kernel)
