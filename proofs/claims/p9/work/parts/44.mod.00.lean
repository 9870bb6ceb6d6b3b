set_option maxHeartbeats 4000000 in
set_option maxRecDepth 100000 in
theorem n_ofGlass0 (l : Launch) (G : g5_G) (b_o b_ro b_rf b_im b_ke b_tp b_nl b_op b_ar b_pi b_pa b_ws b_hw b_se b_re b_pt b_ip b_ah b_be b_me b_tr b_ld b_wn : Nat) (sz : Nat) (u_th : Int32) (u_sa : Int32) (u_fd : Int32) (u_td : Int32) (u_fr : Int32) (u_to : Int32) (u_so : Int32) (u_fa : Int32) (u_bd : Int32) (u_nc : Int32) (u_co : Int32) (u_le : Int32) (u_pd : Int32) (u_od : Int32) (u_la : Int32) (u_bk : Int32) (u_ce : Int32) (u_ho : Int32) (u_wy : Int32) (u_bt : Int32) (u_ps : Int32) (u_tg : Int32) (u_sn : Int32) (u_ic : Int32) (u_wd : Int32) (u_id : Int32) (p_1 : Int32) (u_wo : Int64) (u_va : Int64) (u_su : Int64) (u_st : Int64) (v_ro : Nat → Int32) (h_u_td : 0 ≤ u_td.toInt ∧ u_td.toInt ≤ 400) (h_u_fr : 0 ≤ u_fr.toInt ∧ u_fr.toInt ≤ 400) (h_u_to : 0 ≤ u_to.toInt ∧ u_to.toInt ≤ 400) (h_u_bd : 0 ≤ u_bd.toInt ∧ u_bd.toInt ≤ 1) (h_u_nc : 0 ≤ u_nc.toInt ∧ u_nc.toInt ≤ 12) (h_u_co : 0 ≤ u_co.toInt ∧ u_co.toInt ≤ 400) (h_u_pd : 0 ≤ u_pd.toInt ∧ u_pd.toInt ≤ 400) (h_u_la : 0 ≤ u_la.toInt ∧ u_la.toInt ≤ 4840) (h_u_bk : 0 ≤ u_bk.toInt ∧ u_bk.toInt ≤ 1) (h_u_ce : 0 ≤ u_ce.toInt ∧ u_ce.toInt ≤ 63) (h_u_ho : 0 ≤ u_ho.toInt ∧ u_ho.toInt ≤ 23) (h_u_wy : 0 ≤ u_wy.toInt ∧ u_wy.toInt ≤ 3) (h_u_bt : 0 ≤ u_bt.toInt ∧ u_bt.toInt ≤ 1000000) (h_u_ps : 0 ≤ u_ps.toInt ∧ u_ps.toInt ≤ 200) (h_u_ic : 0 ≤ u_ic.toInt ∧ u_ic.toInt ≤ 1) (h_u_id : 0 ≤ u_id.toInt ∧ u_id.toInt ≤ 1) (h_p_1 : 0 ≤ p_1.toInt ∧ p_1.toInt ≤ 5) (r_ro : MI v_ro) : Met l yX12_ofGlass (wsG yX12_ofGlass cX12_ofGlass 3 (some .int)) ({ frames := 0, cells := 0, slots := 0, locals := 0 }) (va_Pc [.ref b_o, .int p_1, .int 0] (g5_P G [(b_o, (oc12 u_th u_sa b_rf b_ro b_im b_ke u_fd b_tp u_td u_fr u_to u_so u_wo u_fa u_bd u_nc b_nl u_co b_op b_ar u_le b_pi b_pa u_pd u_od b_ws b_hw u_la b_se b_re u_bk u_va u_su u_ce u_ho u_wy u_bt u_ps b_pt u_tg u_sn b_ip u_ic b_ah b_be b_me u_wd b_tr b_ld u_st b_wn u_id)), (b_ro, (arI G 5740 v_ro))] sz)) (va_Qi (fun (r : Int32) (u : va_W) => (∃ (o_r : Int32), (0 ≤ o_r.toInt ∧ o_r.toInt ≤ 63) ∧ (r = o_r) ∧ (u = [(b_o, (oc12 u_th u_sa b_rf b_ro b_im b_ke u_fd b_tp u_td u_fr u_to u_so u_wo u_fa u_bd u_nc b_nl u_co b_op b_ar u_le b_pi b_pa u_pd u_od b_ws b_hw u_la b_se b_re u_bk u_va u_su u_ce u_ho u_wy u_bt u_ps b_pt u_tg u_sn b_ip u_ic b_ah b_be b_me u_wd b_tr b_ld u_st b_wn u_id)), (b_ro, (arI G 5740 v_ro))]))) (g5_B G (va_A [(b_o, (oc12 u_th u_sa b_rf b_ro b_im b_ke u_fd b_tp u_td u_fr u_to u_so u_wo u_fa u_bd u_nc b_nl u_co b_op b_ar u_le b_pi b_pa u_pd u_od b_ws b_hw u_la b_se b_re u_bk u_va u_su u_ce u_ho u_wy u_bt u_ps b_pt u_tg u_sn b_ip u_ic b_ah b_be b_me u_wd b_tr b_ld u_st b_wn u_id)), (b_ro, (arI G 5740 v_ro))] sz)) (va_A [(b_o, (oc12 u_th u_sa b_rf b_ro b_im b_ke u_fd b_tp u_td u_fr u_to u_so u_wo u_fa u_bd u_nc b_nl u_co b_op b_ar u_le b_pi b_pa u_pd u_od b_ws b_hw u_la b_se b_re u_bk u_va u_su u_ce u_ho u_wy u_bt u_ps b_pt u_tg u_sn b_ip u_ic b_ah b_be b_me u_wd b_tr b_ld u_st b_wn u_id)), (b_ro, (arI G 5740 v_ro))] sz)) 0 0 (va_A [(b_o, (oc12 u_th u_sa b_rf b_ro b_im b_ke u_fd b_tp u_td u_fr u_to u_so u_wo u_fa u_bd u_nc b_nl u_co b_op b_ar u_le b_pi b_pa u_pd u_od b_ws b_hw u_la b_se b_re u_bk u_va u_su u_ce u_ho u_wy u_bt u_ps b_pt u_tg u_sn b_ip u_ic b_ah b_be b_me u_wd b_tr b_ld u_st b_wn u_id)), (b_ro, (arI G 5740 v_ro))] sz) := by
  refine Met.ofW (cc := cX12_ofGlass) (maxL := 3) (ret := (some .int)) (by decide) rfl ?_
  intro p e s m args below meth c s₁ B hml hv
  obtain ⟨rfl, hsz, hP, hK, hD0, hN, hT⟩ := hv
  have hx := B.exec
  have hb := B.bytes
  have hr := B.returns
  have hts : ∀ w ∈ tblG, w.before _ s = true := fun w h => atoms_spec (ws := (wsG yX12_ofGlass cX12_ofGlass 3 (some .int))) B.pre w (List.mem_cons_of_mem _ h)
  have hown : s.vm.findClass RX12 = some m.cls := findClass_of_methodNamed B.named
  have hlocks := B.notSynchronized
  subst hsz
  have hD := hD0.self (sz := s.heap.size)
  generalize hAe : va_A [(b_o, (oc12 u_th u_sa b_rf b_ro b_im b_ke u_fd b_tp u_td u_fr u_to u_so u_wo u_fa u_bd u_nc b_nl u_co b_op b_ar u_le b_pi b_pa u_pd u_od b_ws b_hw u_la b_se b_re u_bk u_va u_su u_ce u_ho u_wy u_bt u_ps b_pt u_tg u_sn b_ip u_ic b_ah b_be b_me u_wd b_tr b_ld u_st b_wn u_id)), (b_ro, (arI G 5740 v_ro))] s.heap.size = A at hD hT ⊢
  have hA : ∀ q : Nat, s.heap.size ≤ q → A q := fun q h => by rw [← hAe]; exact Or.inr h
  have hS : va_S A s.heap s.heap [] := va_S.rf
  have hP : va_P G.1 vwCl [(b_o, (oc12 u_th u_sa b_rf b_ro b_im b_ke u_fd b_tp u_td u_fr u_to u_so u_wo u_fa u_bd u_nc b_nl u_co b_op b_ar u_le b_pi b_pa u_pd u_od b_ws b_hw u_la b_se b_re u_bk u_va u_su u_ce u_ho u_wy u_bt u_ps b_pt u_tg u_sn b_ip u_ic b_ah b_be b_me u_wd b_tr b_ld u_st b_wn u_id)), (b_ro, (arI G 5740 v_ro))] s.heap := hP
  have hl := lv_entry ([.ref b_o, .int p_1, .int 0]) (n := 3) (Nat.le_of_ble_eq_true rfl)
  rw [lg_entry_eq]
  generalize (lg_sl ([.ref b_o, .int p_1, .int 0]) ++ List.replicate (3 - (lg_sl ([.ref b_o, .int p_1, .int 0])).length) Slot.unset).toArray = ls at hl ⊢
  have hl : lv_has ls 3 [(0, .ref b_o), (1, .int p_1), (2, .int 0)] := hl
  refine lv_aload_n hx hb dX12_ofGlass_0 rfl (lv_at hl 0 rfl) ?_
  refine va_get (D := G.1) (ci := 12) (v := .ref b_ro) (C := RX12) (T := TX12) (N := 52) hx hb hts inG_X12 hown hK hP 0 rfl rfl 3 (by decide) (hts _ fl_X12_13) (fun _ h9 => h9) rfl dX12_ofGlass_1 ?_
  refine lv_bipush (v := 80) hx hb dX12_ofGlass_4 (by decide) ?_
  refine lv_iconst (v := 5) hx hb dX12_ofGlass_6 (by decide) ?_
  refine lv_iload_n hx hb dX12_ofGlass_7 rfl (lv_at hl 1 rfl) ?_
  refine lv_imul hx hb dX12_ofGlass_8 ?_
  have t_1 : (5 * p_1).toInt = 5 * p_1.toInt := g5_imul (a := 5) (b := p_1.toInt) (by decide) (by rfl) (by omega) (by omega)
  refine lv_iadd hx hb dX12_ofGlass_9 ?_
  have t_2 : (80 + (5 * p_1)).toInt = 80 + (5 * p_1).toInt := g5_iadd (a := 80) (b := (5 * p_1).toInt) (by decide) (by rfl) (by omega) (by omega)
  refine lv_iload_n hx hb dX12_ofGlass_10 rfl (lv_at hl 2 rfl) ?_
  refine lv_iadd hx hb dX12_ofGlass_11 ?_
  refine g5_ti (v := (80 + (5 * p_1))) (by simp) ?_
  refine va_iald hx hb hK hP 1 0 rfl rfl (i := (80 + (5 * p_1))) (vp_in_iff.mpr ⟨by omega, by omega⟩) dX12_ofGlass_12 ?_
  have hv9 : 0 ≤ (v_ro (80 + (5 * p_1)).toNatClampNeg).toInt ∧ (v_ro (80 + (5 * p_1)).toNatClampNeg).toInt ≤ 63 := mi_80_0 r_ro (by have zz := g5_clamp (80 + (5 * p_1)); omega) (by have zz := g5_clamp (80 + (5 * p_1)); omega) (by have zz := g5_clamp (80 + (5 * p_1)); omega)
  exact W.iret (v := (v_ro (80 + (5 * p_1)).toNatClampNeg)) hx hb hr (fun t ht hW => ⟨⟨(v_ro (80 + (5 * p_1)).toNatClampNeg), [(b_o, (oc12 u_th u_sa b_rf b_ro b_im b_ke u_fd b_tp u_td u_fr u_to u_so u_wo u_fa u_bd u_nc b_nl u_co b_op b_ar u_le b_pi b_pa u_pd u_od b_ws b_hw u_la b_se b_re u_bk u_va u_su u_ce u_ho u_wy u_bt u_ps b_pt u_tg u_sn b_ip u_ic b_ah b_be b_me u_wd b_tr b_ld u_st b_wn u_id)), (b_ro, (arI G 5740 v_ro))], rfl, ⟨(v_ro (80 + (5 * p_1)).toNatClampNeg), by omega, rfl, rfl⟩, by rw [ht]; exact hP.sub [0, 1] rfl, hD.sub [0, 1] (by decide) rfl⟩, hS.F ht⟩) hS.2.2 dX12_ofGlass_13
set_option maxHeartbeats 4000000 in
set_option maxRecDepth 100000 in
theorem n_ofGlass1 (l : Launch) (G : g5_G) (b_o b_ro b_rf b_im b_ke b_tp b_nl b_op b_ar b_pi b_pa b_ws b_hw b_se b_re b_pt b_ip b_ah b_be b_me b_tr b_ld b_wn : Nat) (sz : Nat) (u_th : Int32) (u_sa : Int32) (u_fd : Int32) (u_td : Int32) (u_fr : Int32) (u_to : Int32) (u_so : Int32) (u_fa : Int32) (u_bd : Int32) (u_nc : Int32) (u_co : Int32) (u_le : Int32) (u_pd : Int32) (u_od : Int32) (u_la : Int32) (u_bk : Int32) (u_ce : Int32) (u_ho : Int32) (u_wy : Int32) (u_bt : Int32) (u_ps : Int32) (u_tg : Int32) (u_sn : Int32) (u_ic : Int32) (u_wd : Int32) (u_id : Int32) (p_1 : Int32) (u_wo : Int64) (u_va : Int64) (u_su : Int64) (u_st : Int64) (v_ro : Nat → Int32) (h_u_td : 0 ≤ u_td.toInt ∧ u_td.toInt ≤ 400) (h_u_fr : 0 ≤ u_fr.toInt ∧ u_fr.toInt ≤ 400) (h_u_to : 0 ≤ u_to.toInt ∧ u_to.toInt ≤ 400) (h_u_bd : 0 ≤ u_bd.toInt ∧ u_bd.toInt ≤ 1) (h_u_nc : 0 ≤ u_nc.toInt ∧ u_nc.toInt ≤ 12) (h_u_co : 0 ≤ u_co.toInt ∧ u_co.toInt ≤ 400) (h_u_pd : 0 ≤ u_pd.toInt ∧ u_pd.toInt ≤ 400) (h_u_la : 0 ≤ u_la.toInt ∧ u_la.toInt ≤ 4840) (h_u_bk : 0 ≤ u_bk.toInt ∧ u_bk.toInt ≤ 1) (h_u_ce : 0 ≤ u_ce.toInt ∧ u_ce.toInt ≤ 63) (h_u_ho : 0 ≤ u_ho.toInt ∧ u_ho.toInt ≤ 23) (h_u_wy : 0 ≤ u_wy.toInt ∧ u_wy.toInt ≤ 3) (h_u_bt : 0 ≤ u_bt.toInt ∧ u_bt.toInt ≤ 1000000) (h_u_ps : 0 ≤ u_ps.toInt ∧ u_ps.toInt ≤ 200) (h_u_ic : 0 ≤ u_ic.toInt ∧ u_ic.toInt ≤ 1) (h_u_id : 0 ≤ u_id.toInt ∧ u_id.toInt ≤ 1) (h_p_1 : 0 ≤ p_1.toInt ∧ p_1.toInt ≤ 5) (r_ro : MI v_ro) : Met l yX12_ofGlass (wsG yX12_ofGlass cX12_ofGlass 3 (some .int)) ({ frames := 0, cells := 0, slots := 0, locals := 0 }) (va_Pc [.ref b_o, .int p_1, .int 1] (g5_P G [(b_o, (oc12 u_th u_sa b_rf b_ro b_im b_ke u_fd b_tp u_td u_fr u_to u_so u_wo u_fa u_bd u_nc b_nl u_co b_op b_ar u_le b_pi b_pa u_pd u_od b_ws b_hw u_la b_se b_re u_bk u_va u_su u_ce u_ho u_wy u_bt u_ps b_pt u_tg u_sn b_ip u_ic b_ah b_be b_me u_wd b_tr b_ld u_st b_wn u_id)), (b_ro, (arI G 5740 v_ro))] sz)) (va_Qi (fun (r : Int32) (u : va_W) => (∃ (o_r : Int32), (0 ≤ o_r.toInt ∧ o_r.toInt ≤ 5) ∧ (r = o_r) ∧ (u = [(b_o, (oc12 u_th u_sa b_rf b_ro b_im b_ke u_fd b_tp u_td u_fr u_to u_so u_wo u_fa u_bd u_nc b_nl u_co b_op b_ar u_le b_pi b_pa u_pd u_od b_ws b_hw u_la b_se b_re u_bk u_va u_su u_ce u_ho u_wy u_bt u_ps b_pt u_tg u_sn b_ip u_ic b_ah b_be b_me u_wd b_tr b_ld u_st b_wn u_id)), (b_ro, (arI G 5740 v_ro))]))) (g5_B G (va_A [(b_o, (oc12 u_th u_sa b_rf b_ro b_im b_ke u_fd b_tp u_td u_fr u_to u_so u_wo u_fa u_bd u_nc b_nl u_co b_op b_ar u_le b_pi b_pa u_pd u_od b_ws b_hw u_la b_se b_re u_bk u_va u_su u_ce u_ho u_wy u_bt u_ps b_pt u_tg u_sn b_ip u_ic b_ah b_be b_me u_wd b_tr b_ld u_st b_wn u_id)), (b_ro, (arI G 5740 v_ro))] sz)) (va_A [(b_o, (oc12 u_th u_sa b_rf b_ro b_im b_ke u_fd b_tp u_td u_fr u_to u_so u_wo u_fa u_bd u_nc b_nl u_co b_op b_ar u_le b_pi b_pa u_pd u_od b_ws b_hw u_la b_se b_re u_bk u_va u_su u_ce u_ho u_wy u_bt u_ps b_pt u_tg u_sn b_ip u_ic b_ah b_be b_me u_wd b_tr b_ld u_st b_wn u_id)), (b_ro, (arI G 5740 v_ro))] sz)) 0 0 (va_A [(b_o, (oc12 u_th u_sa b_rf b_ro b_im b_ke u_fd b_tp u_td u_fr u_to u_so u_wo u_fa u_bd u_nc b_nl u_co b_op b_ar u_le b_pi b_pa u_pd u_od b_ws b_hw u_la b_se b_re u_bk u_va u_su u_ce u_ho u_wy u_bt u_ps b_pt u_tg u_sn b_ip u_ic b_ah b_be b_me u_wd b_tr b_ld u_st b_wn u_id)), (b_ro, (arI G 5740 v_ro))] sz) := by
  refine Met.ofW (cc := cX12_ofGlass) (maxL := 3) (ret := (some .int)) (by decide) rfl ?_
  intro p e s m args below meth c s₁ B hml hv
  obtain ⟨rfl, hsz, hP, hK, hD0, hN, hT⟩ := hv
  have hx := B.exec
  have hb := B.bytes
  have hr := B.returns
  have hts : ∀ w ∈ tblG, w.before _ s = true := fun w h => atoms_spec (ws := (wsG yX12_ofGlass cX12_ofGlass 3 (some .int))) B.pre w (List.mem_cons_of_mem _ h)
  have hown : s.vm.findClass RX12 = some m.cls := findClass_of_methodNamed B.named
  have hlocks := B.notSynchronized
  subst hsz
  have hD := hD0.self (sz := s.heap.size)
  generalize hAe : va_A [(b_o, (oc12 u_th u_sa b_rf b_ro b_im b_ke u_fd b_tp u_td u_fr u_to u_so u_wo u_fa u_bd u_nc b_nl u_co b_op b_ar u_le b_pi b_pa u_pd u_od b_ws b_hw u_la b_se b_re u_bk u_va u_su u_ce u_ho u_wy u_bt u_ps b_pt u_tg u_sn b_ip u_ic b_ah b_be b_me u_wd b_tr b_ld u_st b_wn u_id)), (b_ro, (arI G 5740 v_ro))] s.heap.size = A at hD hT ⊢
  have hA : ∀ q : Nat, s.heap.size ≤ q → A q := fun q h => by rw [← hAe]; exact Or.inr h
  have hS : va_S A s.heap s.heap [] := va_S.rf
  have hP : va_P G.1 vwCl [(b_o, (oc12 u_th u_sa b_rf b_ro b_im b_ke u_fd b_tp u_td u_fr u_to u_so u_wo u_fa u_bd u_nc b_nl u_co b_op b_ar u_le b_pi b_pa u_pd u_od b_ws b_hw u_la b_se b_re u_bk u_va u_su u_ce u_ho u_wy u_bt u_ps b_pt u_tg u_sn b_ip u_ic b_ah b_be b_me u_wd b_tr b_ld u_st b_wn u_id)), (b_ro, (arI G 5740 v_ro))] s.heap := hP
  have hl := lv_entry ([.ref b_o, .int p_1, .int 1]) (n := 3) (Nat.le_of_ble_eq_true rfl)
  rw [lg_entry_eq]
  generalize (lg_sl ([.ref b_o, .int p_1, .int 1]) ++ List.replicate (3 - (lg_sl ([.ref b_o, .int p_1, .int 1])).length) Slot.unset).toArray = ls at hl ⊢
  have hl : lv_has ls 3 [(0, .ref b_o), (1, .int p_1), (2, .int 1)] := hl
  refine lv_aload_n hx hb dX12_ofGlass_0 rfl (lv_at hl 0 rfl) ?_
  refine va_get (D := G.1) (ci := 12) (v := .ref b_ro) (C := RX12) (T := TX12) (N := 52) hx hb hts inG_X12 hown hK hP 0 rfl rfl 3 (by decide) (hts _ fl_X12_13) (fun _ h9 => h9) rfl dX12_ofGlass_1 ?_
  refine lv_bipush (v := 80) hx hb dX12_ofGlass_4 (by decide) ?_
  refine lv_iconst (v := 5) hx hb dX12_ofGlass_6 (by decide) ?_
  refine lv_iload_n hx hb dX12_ofGlass_7 rfl (lv_at hl 1 rfl) ?_
  refine lv_imul hx hb dX12_ofGlass_8 ?_
  have t_1 : (5 * p_1).toInt = 5 * p_1.toInt := g5_imul (a := 5) (b := p_1.toInt) (by decide) (by rfl) (by omega) (by omega)
  refine lv_iadd hx hb dX12_ofGlass_9 ?_
  have t_2 : (80 + (5 * p_1)).toInt = 80 + (5 * p_1).toInt := g5_iadd (a := 80) (b := (5 * p_1).toInt) (by decide) (by rfl) (by omega) (by omega)
  refine lv_iload_n hx hb dX12_ofGlass_10 rfl (lv_at hl 2 rfl) ?_
  refine lv_iadd hx hb dX12_ofGlass_11 ?_
  have t_3 : ((80 + (5 * p_1)) + 1).toInt = (80 + (5 * p_1)).toInt + 1 := g5_iadd (a := (80 + (5 * p_1)).toInt) (b := 1) (by rfl) (by decide) (by omega) (by omega)
  refine va_iald hx hb hK hP 1 0 rfl rfl (i := ((80 + (5 * p_1)) + 1)) (vp_in_iff.mpr ⟨by omega, by omega⟩) dX12_ofGlass_12 ?_
  have hv9 : 0 ≤ (v_ro ((80 + (5 * p_1)) + 1).toNatClampNeg).toInt ∧ (v_ro ((80 + (5 * p_1)) + 1).toNatClampNeg).toInt ≤ 5 := mi_80_1 r_ro (by have zz := g5_clamp ((80 + (5 * p_1)) + 1); omega) (by have zz := g5_clamp ((80 + (5 * p_1)) + 1); omega) (by have zz := g5_clamp ((80 + (5 * p_1)) + 1); omega)
  exact W.iret (v := (v_ro ((80 + (5 * p_1)) + 1).toNatClampNeg)) hx hb hr (fun t ht hW => ⟨⟨(v_ro ((80 + (5 * p_1)) + 1).toNatClampNeg), [(b_o, (oc12 u_th u_sa b_rf b_ro b_im b_ke u_fd b_tp u_td u_fr u_to u_so u_wo u_fa u_bd u_nc b_nl u_co b_op b_ar u_le b_pi b_pa u_pd u_od b_ws b_hw u_la b_se b_re u_bk u_va u_su u_ce u_ho u_wy u_bt u_ps b_pt u_tg u_sn b_ip u_ic b_ah b_be b_me u_wd b_tr b_ld u_st b_wn u_id)), (b_ro, (arI G 5740 v_ro))], rfl, ⟨(v_ro ((80 + (5 * p_1)) + 1).toNatClampNeg), by omega, rfl, rfl⟩, by rw [ht]; exact hP.sub [0, 1] rfl, hD.sub [0, 1] (by decide) rfl⟩, hS.F ht⟩) hS.2.2 dX12_ofGlass_13
set_option maxHeartbeats 4000000 in
set_option maxRecDepth 100000 in
theorem n_ofGlass2 (l : Launch) (G : g5_G) (b_o b_ro b_rf b_im b_ke b_tp b_nl b_op b_ar b_pi b_pa b_ws b_hw b_se b_re b_pt b_ip b_ah b_be b_me b_tr b_ld b_wn : Nat) (sz : Nat) (u_th : Int32) (u_sa : Int32) (u_fd : Int32) (u_td : Int32) (u_fr : Int32) (u_to : Int32) (u_so : Int32) (u_fa : Int32) (u_bd : Int32) (u_nc : Int32) (u_co : Int32) (u_le : Int32) (u_pd : Int32) (u_od : Int32) (u_la : Int32) (u_bk : Int32) (u_ce : Int32) (u_ho : Int32) (u_wy : Int32) (u_bt : Int32) (u_ps : Int32) (u_tg : Int32) (u_sn : Int32) (u_ic : Int32) (u_wd : Int32) (u_id : Int32) (p_1 : Int32) (u_wo : Int64) (u_va : Int64) (u_su : Int64) (u_st : Int64) (v_ro : Nat → Int32) (h_u_td : 0 ≤ u_td.toInt ∧ u_td.toInt ≤ 400) (h_u_fr : 0 ≤ u_fr.toInt ∧ u_fr.toInt ≤ 400) (h_u_to : 0 ≤ u_to.toInt ∧ u_to.toInt ≤ 400) (h_u_bd : 0 ≤ u_bd.toInt ∧ u_bd.toInt ≤ 1) (h_u_nc : 0 ≤ u_nc.toInt ∧ u_nc.toInt ≤ 12) (h_u_co : 0 ≤ u_co.toInt ∧ u_co.toInt ≤ 400) (h_u_pd : 0 ≤ u_pd.toInt ∧ u_pd.toInt ≤ 400) (h_u_la : 0 ≤ u_la.toInt ∧ u_la.toInt ≤ 4840) (h_u_bk : 0 ≤ u_bk.toInt ∧ u_bk.toInt ≤ 1) (h_u_ce : 0 ≤ u_ce.toInt ∧ u_ce.toInt ≤ 63) (h_u_ho : 0 ≤ u_ho.toInt ∧ u_ho.toInt ≤ 23) (h_u_wy : 0 ≤ u_wy.toInt ∧ u_wy.toInt ≤ 3) (h_u_bt : 0 ≤ u_bt.toInt ∧ u_bt.toInt ≤ 1000000) (h_u_ps : 0 ≤ u_ps.toInt ∧ u_ps.toInt ≤ 200) (h_u_ic : 0 ≤ u_ic.toInt ∧ u_ic.toInt ≤ 1) (h_u_id : 0 ≤ u_id.toInt ∧ u_id.toInt ≤ 1) (h_p_1 : 0 ≤ p_1.toInt ∧ p_1.toInt ≤ 5) (r_ro : MI v_ro) : Met l yX12_ofGlass (wsG yX12_ofGlass cX12_ofGlass 3 (some .int)) ({ frames := 0, cells := 0, slots := 0, locals := 0 }) (va_Pc [.ref b_o, .int p_1, .int 2] (g5_P G [(b_o, (oc12 u_th u_sa b_rf b_ro b_im b_ke u_fd b_tp u_td u_fr u_to u_so u_wo u_fa u_bd u_nc b_nl u_co b_op b_ar u_le b_pi b_pa u_pd u_od b_ws b_hw u_la b_se b_re u_bk u_va u_su u_ce u_ho u_wy u_bt u_ps b_pt u_tg u_sn b_ip u_ic b_ah b_be b_me u_wd b_tr b_ld u_st b_wn u_id)), (b_ro, (arI G 5740 v_ro))] sz)) (va_Qi (fun (r : Int32) (u : va_W) => (∃ (o_r : Int32), (0 ≤ o_r.toInt ∧ o_r.toInt ≤ 23) ∧ (r = o_r) ∧ (u = [(b_o, (oc12 u_th u_sa b_rf b_ro b_im b_ke u_fd b_tp u_td u_fr u_to u_so u_wo u_fa u_bd u_nc b_nl u_co b_op b_ar u_le b_pi b_pa u_pd u_od b_ws b_hw u_la b_se b_re u_bk u_va u_su u_ce u_ho u_wy u_bt u_ps b_pt u_tg u_sn b_ip u_ic b_ah b_be b_me u_wd b_tr b_ld u_st b_wn u_id)), (b_ro, (arI G 5740 v_ro))]))) (g5_B G (va_A [(b_o, (oc12 u_th u_sa b_rf b_ro b_im b_ke u_fd b_tp u_td u_fr u_to u_so u_wo u_fa u_bd u_nc b_nl u_co b_op b_ar u_le b_pi b_pa u_pd u_od b_ws b_hw u_la b_se b_re u_bk u_va u_su u_ce u_ho u_wy u_bt u_ps b_pt u_tg u_sn b_ip u_ic b_ah b_be b_me u_wd b_tr b_ld u_st b_wn u_id)), (b_ro, (arI G 5740 v_ro))] sz)) (va_A [(b_o, (oc12 u_th u_sa b_rf b_ro b_im b_ke u_fd b_tp u_td u_fr u_to u_so u_wo u_fa u_bd u_nc b_nl u_co b_op b_ar u_le b_pi b_pa u_pd u_od b_ws b_hw u_la b_se b_re u_bk u_va u_su u_ce u_ho u_wy u_bt u_ps b_pt u_tg u_sn b_ip u_ic b_ah b_be b_me u_wd b_tr b_ld u_st b_wn u_id)), (b_ro, (arI G 5740 v_ro))] sz)) 0 0 (va_A [(b_o, (oc12 u_th u_sa b_rf b_ro b_im b_ke u_fd b_tp u_td u_fr u_to u_so u_wo u_fa u_bd u_nc b_nl u_co b_op b_ar u_le b_pi b_pa u_pd u_od b_ws b_hw u_la b_se b_re u_bk u_va u_su u_ce u_ho u_wy u_bt u_ps b_pt u_tg u_sn b_ip u_ic b_ah b_be b_me u_wd b_tr b_ld u_st b_wn u_id)), (b_ro, (arI G 5740 v_ro))] sz) := by
  refine Met.ofW (cc := cX12_ofGlass) (maxL := 3) (ret := (some .int)) (by decide) rfl ?_
  intro p e s m args below meth c s₁ B hml hv
  obtain ⟨rfl, hsz, hP, hK, hD0, hN, hT⟩ := hv
  have hx := B.exec
  have hb := B.bytes
  have hr := B.returns
  have hts : ∀ w ∈ tblG, w.before _ s = true := fun w h => atoms_spec (ws := (wsG yX12_ofGlass cX12_ofGlass 3 (some .int))) B.pre w (List.mem_cons_of_mem _ h)
  have hown : s.vm.findClass RX12 = some m.cls := findClass_of_methodNamed B.named
  have hlocks := B.notSynchronized
  subst hsz
  have hD := hD0.self (sz := s.heap.size)
  generalize hAe : va_A [(b_o, (oc12 u_th u_sa b_rf b_ro b_im b_ke u_fd b_tp u_td u_fr u_to u_so u_wo u_fa u_bd u_nc b_nl u_co b_op b_ar u_le b_pi b_pa u_pd u_od b_ws b_hw u_la b_se b_re u_bk u_va u_su u_ce u_ho u_wy u_bt u_ps b_pt u_tg u_sn b_ip u_ic b_ah b_be b_me u_wd b_tr b_ld u_st b_wn u_id)), (b_ro, (arI G 5740 v_ro))] s.heap.size = A at hD hT ⊢
  have hA : ∀ q : Nat, s.heap.size ≤ q → A q := fun q h => by rw [← hAe]; exact Or.inr h
  have hS : va_S A s.heap s.heap [] := va_S.rf
  have hP : va_P G.1 vwCl [(b_o, (oc12 u_th u_sa b_rf b_ro b_im b_ke u_fd b_tp u_td u_fr u_to u_so u_wo u_fa u_bd u_nc b_nl u_co b_op b_ar u_le b_pi b_pa u_pd u_od b_ws b_hw u_la b_se b_re u_bk u_va u_su u_ce u_ho u_wy u_bt u_ps b_pt u_tg u_sn b_ip u_ic b_ah b_be b_me u_wd b_tr b_ld u_st b_wn u_id)), (b_ro, (arI G 5740 v_ro))] s.heap := hP
  have hl := lv_entry ([.ref b_o, .int p_1, .int 2]) (n := 3) (Nat.le_of_ble_eq_true rfl)
  rw [lg_entry_eq]
  generalize (lg_sl ([.ref b_o, .int p_1, .int 2]) ++ List.replicate (3 - (lg_sl ([.ref b_o, .int p_1, .int 2])).length) Slot.unset).toArray = ls at hl ⊢
  have hl : lv_has ls 3 [(0, .ref b_o), (1, .int p_1), (2, .int 2)] := hl
  refine lv_aload_n hx hb dX12_ofGlass_0 rfl (lv_at hl 0 rfl) ?_
  refine va_get (D := G.1) (ci := 12) (v := .ref b_ro) (C := RX12) (T := TX12) (N := 52) hx hb hts inG_X12 hown hK hP 0 rfl rfl 3 (by decide) (hts _ fl_X12_13) (fun _ h9 => h9) rfl dX12_ofGlass_1 ?_
  refine lv_bipush (v := 80) hx hb dX12_ofGlass_4 (by decide) ?_
  refine lv_iconst (v := 5) hx hb dX12_ofGlass_6 (by decide) ?_
  refine lv_iload_n hx hb dX12_ofGlass_7 rfl (lv_at hl 1 rfl) ?_
  refine lv_imul hx hb dX12_ofGlass_8 ?_
  have t_1 : (5 * p_1).toInt = 5 * p_1.toInt := g5_imul (a := 5) (b := p_1.toInt) (by decide) (by rfl) (by omega) (by omega)
  refine lv_iadd hx hb dX12_ofGlass_9 ?_
  have t_2 : (80 + (5 * p_1)).toInt = 80 + (5 * p_1).toInt := g5_iadd (a := 80) (b := (5 * p_1).toInt) (by decide) (by rfl) (by omega) (by omega)
  refine lv_iload_n hx hb dX12_ofGlass_10 rfl (lv_at hl 2 rfl) ?_
  refine lv_iadd hx hb dX12_ofGlass_11 ?_
  have t_3 : ((80 + (5 * p_1)) + 2).toInt = (80 + (5 * p_1)).toInt + 2 := g5_iadd (a := (80 + (5 * p_1)).toInt) (b := 2) (by rfl) (by decide) (by omega) (by omega)
  refine va_iald hx hb hK hP 1 0 rfl rfl (i := ((80 + (5 * p_1)) + 2)) (vp_in_iff.mpr ⟨by omega, by omega⟩) dX12_ofGlass_12 ?_
  have hv9 : 0 ≤ (v_ro ((80 + (5 * p_1)) + 2).toNatClampNeg).toInt ∧ (v_ro ((80 + (5 * p_1)) + 2).toNatClampNeg).toInt ≤ 23 := mi_80_2 r_ro (by have zz := g5_clamp ((80 + (5 * p_1)) + 2); omega) (by have zz := g5_clamp ((80 + (5 * p_1)) + 2); omega) (by have zz := g5_clamp ((80 + (5 * p_1)) + 2); omega)
  exact W.iret (v := (v_ro ((80 + (5 * p_1)) + 2).toNatClampNeg)) hx hb hr (fun t ht hW => ⟨⟨(v_ro ((80 + (5 * p_1)) + 2).toNatClampNeg), [(b_o, (oc12 u_th u_sa b_rf b_ro b_im b_ke u_fd b_tp u_td u_fr u_to u_so u_wo u_fa u_bd u_nc b_nl u_co b_op b_ar u_le b_pi b_pa u_pd u_od b_ws b_hw u_la b_se b_re u_bk u_va u_su u_ce u_ho u_wy u_bt u_ps b_pt u_tg u_sn b_ip u_ic b_ah b_be b_me u_wd b_tr b_ld u_st b_wn u_id)), (b_ro, (arI G 5740 v_ro))], rfl, ⟨(v_ro ((80 + (5 * p_1)) + 2).toNatClampNeg), by omega, rfl, rfl⟩, by rw [ht]; exact hP.sub [0, 1] rfl, hD.sub [0, 1] (by decide) rfl⟩, hS.F ht⟩) hS.2.2 dX12_ofGlass_13
set_option maxHeartbeats 4000000 in
set_option maxRecDepth 100000 in
theorem n_ofGlass3 (l : Launch) (G : g5_G) (b_o b_ro b_rf b_im b_ke b_tp b_nl b_op b_ar b_pi b_pa b_ws b_hw b_se b_re b_pt b_ip b_ah b_be b_me b_tr b_ld b_wn : Nat) (sz : Nat) (u_th : Int32) (u_sa : Int32) (u_fd : Int32) (u_td : Int32) (u_fr : Int32) (u_to : Int32) (u_so : Int32) (u_fa : Int32) (u_bd : Int32) (u_nc : Int32) (u_co : Int32) (u_le : Int32) (u_pd : Int32) (u_od : Int32) (u_la : Int32) (u_bk : Int32) (u_ce : Int32) (u_ho : Int32) (u_wy : Int32) (u_bt : Int32) (u_ps : Int32) (u_tg : Int32) (u_sn : Int32) (u_ic : Int32) (u_wd : Int32) (u_id : Int32) (p_1 : Int32) (u_wo : Int64) (u_va : Int64) (u_su : Int64) (u_st : Int64) (v_ro : Nat → Int32) (h_u_td : 0 ≤ u_td.toInt ∧ u_td.toInt ≤ 400) (h_u_fr : 0 ≤ u_fr.toInt ∧ u_fr.toInt ≤ 400) (h_u_to : 0 ≤ u_to.toInt ∧ u_to.toInt ≤ 400) (h_u_bd : 0 ≤ u_bd.toInt ∧ u_bd.toInt ≤ 1) (h_u_nc : 0 ≤ u_nc.toInt ∧ u_nc.toInt ≤ 12) (h_u_co : 0 ≤ u_co.toInt ∧ u_co.toInt ≤ 400) (h_u_pd : 0 ≤ u_pd.toInt ∧ u_pd.toInt ≤ 400) (h_u_la : 0 ≤ u_la.toInt ∧ u_la.toInt ≤ 4840) (h_u_bk : 0 ≤ u_bk.toInt ∧ u_bk.toInt ≤ 1) (h_u_ce : 0 ≤ u_ce.toInt ∧ u_ce.toInt ≤ 63) (h_u_ho : 0 ≤ u_ho.toInt ∧ u_ho.toInt ≤ 23) (h_u_wy : 0 ≤ u_wy.toInt ∧ u_wy.toInt ≤ 3) (h_u_bt : 0 ≤ u_bt.toInt ∧ u_bt.toInt ≤ 1000000) (h_u_ps : 0 ≤ u_ps.toInt ∧ u_ps.toInt ≤ 200) (h_u_ic : 0 ≤ u_ic.toInt ∧ u_ic.toInt ≤ 1) (h_u_id : 0 ≤ u_id.toInt ∧ u_id.toInt ≤ 1) (h_p_1 : 0 ≤ p_1.toInt ∧ p_1.toInt ≤ 5) (r_ro : MI v_ro) : Met l yX12_ofGlass (wsG yX12_ofGlass cX12_ofGlass 3 (some .int)) ({ frames := 0, cells := 0, slots := 0, locals := 0 }) (va_Pc [.ref b_o, .int p_1, .int 3] (g5_P G [(b_o, (oc12 u_th u_sa b_rf b_ro b_im b_ke u_fd b_tp u_td u_fr u_to u_so u_wo u_fa u_bd u_nc b_nl u_co b_op b_ar u_le b_pi b_pa u_pd u_od b_ws b_hw u_la b_se b_re u_bk u_va u_su u_ce u_ho u_wy u_bt u_ps b_pt u_tg u_sn b_ip u_ic b_ah b_be b_me u_wd b_tr b_ld u_st b_wn u_id)), (b_ro, (arI G 5740 v_ro))] sz)) (va_Qi (fun (r : Int32) (u : va_W) => (∃ (o_r : Int32), (0 ≤ o_r.toInt ∧ o_r.toInt ≤ 10) ∧ (r = o_r) ∧ (u = [(b_o, (oc12 u_th u_sa b_rf b_ro b_im b_ke u_fd b_tp u_td u_fr u_to u_so u_wo u_fa u_bd u_nc b_nl u_co b_op b_ar u_le b_pi b_pa u_pd u_od b_ws b_hw u_la b_se b_re u_bk u_va u_su u_ce u_ho u_wy u_bt u_ps b_pt u_tg u_sn b_ip u_ic b_ah b_be b_me u_wd b_tr b_ld u_st b_wn u_id)), (b_ro, (arI G 5740 v_ro))]))) (g5_B G (va_A [(b_o, (oc12 u_th u_sa b_rf b_ro b_im b_ke u_fd b_tp u_td u_fr u_to u_so u_wo u_fa u_bd u_nc b_nl u_co b_op b_ar u_le b_pi b_pa u_pd u_od b_ws b_hw u_la b_se b_re u_bk u_va u_su u_ce u_ho u_wy u_bt u_ps b_pt u_tg u_sn b_ip u_ic b_ah b_be b_me u_wd b_tr b_ld u_st b_wn u_id)), (b_ro, (arI G 5740 v_ro))] sz)) (va_A [(b_o, (oc12 u_th u_sa b_rf b_ro b_im b_ke u_fd b_tp u_td u_fr u_to u_so u_wo u_fa u_bd u_nc b_nl u_co b_op b_ar u_le b_pi b_pa u_pd u_od b_ws b_hw u_la b_se b_re u_bk u_va u_su u_ce u_ho u_wy u_bt u_ps b_pt u_tg u_sn b_ip u_ic b_ah b_be b_me u_wd b_tr b_ld u_st b_wn u_id)), (b_ro, (arI G 5740 v_ro))] sz)) 0 0 (va_A [(b_o, (oc12 u_th u_sa b_rf b_ro b_im b_ke u_fd b_tp u_td u_fr u_to u_so u_wo u_fa u_bd u_nc b_nl u_co b_op b_ar u_le b_pi b_pa u_pd u_od b_ws b_hw u_la b_se b_re u_bk u_va u_su u_ce u_ho u_wy u_bt u_ps b_pt u_tg u_sn b_ip u_ic b_ah b_be b_me u_wd b_tr b_ld u_st b_wn u_id)), (b_ro, (arI G 5740 v_ro))] sz) := by
  refine Met.ofW (cc := cX12_ofGlass) (maxL := 3) (ret := (some .int)) (by decide) rfl ?_
  intro p e s m args below meth c s₁ B hml hv
  obtain ⟨rfl, hsz, hP, hK, hD0, hN, hT⟩ := hv
  have hx := B.exec
  have hb := B.bytes
  have hr := B.returns
  have hts : ∀ w ∈ tblG, w.before _ s = true := fun w h => atoms_spec (ws := (wsG yX12_ofGlass cX12_ofGlass 3 (some .int))) B.pre w (List.mem_cons_of_mem _ h)
  have hown : s.vm.findClass RX12 = some m.cls := findClass_of_methodNamed B.named
  have hlocks := B.notSynchronized
  subst hsz
  have hD := hD0.self (sz := s.heap.size)
  generalize hAe : va_A [(b_o, (oc12 u_th u_sa b_rf b_ro b_im b_ke u_fd b_tp u_td u_fr u_to u_so u_wo u_fa u_bd u_nc b_nl u_co b_op b_ar u_le b_pi b_pa u_pd u_od b_ws b_hw u_la b_se b_re u_bk u_va u_su u_ce u_ho u_wy u_bt u_ps b_pt u_tg u_sn b_ip u_ic b_ah b_be b_me u_wd b_tr b_ld u_st b_wn u_id)), (b_ro, (arI G 5740 v_ro))] s.heap.size = A at hD hT ⊢
  have hA : ∀ q : Nat, s.heap.size ≤ q → A q := fun q h => by rw [← hAe]; exact Or.inr h
  have hS : va_S A s.heap s.heap [] := va_S.rf
  have hP : va_P G.1 vwCl [(b_o, (oc12 u_th u_sa b_rf b_ro b_im b_ke u_fd b_tp u_td u_fr u_to u_so u_wo u_fa u_bd u_nc b_nl u_co b_op b_ar u_le b_pi b_pa u_pd u_od b_ws b_hw u_la b_se b_re u_bk u_va u_su u_ce u_ho u_wy u_bt u_ps b_pt u_tg u_sn b_ip u_ic b_ah b_be b_me u_wd b_tr b_ld u_st b_wn u_id)), (b_ro, (arI G 5740 v_ro))] s.heap := hP
  have hl := lv_entry ([.ref b_o, .int p_1, .int 3]) (n := 3) (Nat.le_of_ble_eq_true rfl)
  rw [lg_entry_eq]
  generalize (lg_sl ([.ref b_o, .int p_1, .int 3]) ++ List.replicate (3 - (lg_sl ([.ref b_o, .int p_1, .int 3])).length) Slot.unset).toArray = ls at hl ⊢
  have hl : lv_has ls 3 [(0, .ref b_o), (1, .int p_1), (2, .int 3)] := hl
  refine lv_aload_n hx hb dX12_ofGlass_0 rfl (lv_at hl 0 rfl) ?_
  refine va_get (D := G.1) (ci := 12) (v := .ref b_ro) (C := RX12) (T := TX12) (N := 52) hx hb hts inG_X12 hown hK hP 0 rfl rfl 3 (by decide) (hts _ fl_X12_13) (fun _ h9 => h9) rfl dX12_ofGlass_1 ?_
  refine lv_bipush (v := 80) hx hb dX12_ofGlass_4 (by decide) ?_
  refine lv_iconst (v := 5) hx hb dX12_ofGlass_6 (by decide) ?_
  refine lv_iload_n hx hb dX12_ofGlass_7 rfl (lv_at hl 1 rfl) ?_
  refine lv_imul hx hb dX12_ofGlass_8 ?_
  have t_1 : (5 * p_1).toInt = 5 * p_1.toInt := g5_imul (a := 5) (b := p_1.toInt) (by decide) (by rfl) (by omega) (by omega)
  refine lv_iadd hx hb dX12_ofGlass_9 ?_
  have t_2 : (80 + (5 * p_1)).toInt = 80 + (5 * p_1).toInt := g5_iadd (a := 80) (b := (5 * p_1).toInt) (by decide) (by rfl) (by omega) (by omega)
  refine lv_iload_n hx hb dX12_ofGlass_10 rfl (lv_at hl 2 rfl) ?_
  refine lv_iadd hx hb dX12_ofGlass_11 ?_
  have t_3 : ((80 + (5 * p_1)) + 3).toInt = (80 + (5 * p_1)).toInt + 3 := g5_iadd (a := (80 + (5 * p_1)).toInt) (b := 3) (by rfl) (by decide) (by omega) (by omega)
  refine va_iald hx hb hK hP 1 0 rfl rfl (i := ((80 + (5 * p_1)) + 3)) (vp_in_iff.mpr ⟨by omega, by omega⟩) dX12_ofGlass_12 ?_
  have hv9 : 0 ≤ (v_ro ((80 + (5 * p_1)) + 3).toNatClampNeg).toInt ∧ (v_ro ((80 + (5 * p_1)) + 3).toNatClampNeg).toInt ≤ 10 := mi_80_3 r_ro (by have zz := g5_clamp ((80 + (5 * p_1)) + 3); omega) (by have zz := g5_clamp ((80 + (5 * p_1)) + 3); omega) (by have zz := g5_clamp ((80 + (5 * p_1)) + 3); omega)
  exact W.iret (v := (v_ro ((80 + (5 * p_1)) + 3).toNatClampNeg)) hx hb hr (fun t ht hW => ⟨⟨(v_ro ((80 + (5 * p_1)) + 3).toNatClampNeg), [(b_o, (oc12 u_th u_sa b_rf b_ro b_im b_ke u_fd b_tp u_td u_fr u_to u_so u_wo u_fa u_bd u_nc b_nl u_co b_op b_ar u_le b_pi b_pa u_pd u_od b_ws b_hw u_la b_se b_re u_bk u_va u_su u_ce u_ho u_wy u_bt u_ps b_pt u_tg u_sn b_ip u_ic b_ah b_be b_me u_wd b_tr b_ld u_st b_wn u_id)), (b_ro, (arI G 5740 v_ro))], rfl, ⟨(v_ro ((80 + (5 * p_1)) + 3).toNatClampNeg), by omega, rfl, rfl⟩, by rw [ht]; exact hP.sub [0, 1] rfl, hD.sub [0, 1] (by decide) rfl⟩, hS.F ht⟩) hS.2.2 dX12_ofGlass_13
theorem dgX12_asks_0 : ∀ r ∈ ([(0, (.aload_n 0, 1)), (1, (.getfield 13, 3)), (4, (.iconst 3, 1)), (5, (.iaload, 1)), (6, (.iconst (-1), 1)), (7, (.if_icmp .ne 6, 3)), (10, (.iload 4, 2)), (12, (.ireturn, 1)), (13, (.aload_n 0, 1)), (14, (.sipush 340, 3)), (17, (.sipush 900, 3)), (20, (.aload_n 0, 1)), (21, (.getfield 13, 3)), (24, (.iconst 3, 1)), (25, (.iaload, 1)), (26, (.imul, 1)), (27, (.iadd, 1)), (28, (.putfield 329, 3)), (31, (.aload_n 0, 1)), (32, (.getfield 76, 3)), (35, (.iconst 1, 1)), (36, (.iload_n 2, 1)), (37, (.i2l, 1)), (38, (.lastore, 1)), (39, (.aload_n 0, 1)), (40, (.getfield 76, 3)), (43, (.iconst 2, 1)), (44, (.aload_n 0, 1)), (45, (.getfield 349, 3)), (48, (.bipush 8, 2)), (50, (.irem, 1)), (51, (.i2l, 1)), (52, (.lastore, 1)), (53, (.aload_n 0, 1)), (54, (.getfield 76, 3)), (57, (.iconst 3, 1)), (58, (.aload_n 0, 1)), (59, (.getfield 349, 3)), (62, (.bipush 8, 2)), (64, (.idiv, 1))] : List (Nat × (Instr × Nat))), decode cX12_asks r.1 = .ok r.2 := by decide +kernel
theorem dX12_asks_0 : decode cX12_asks 0 = .ok (.aload_n 0, 1) := dgX12_asks_0 (0, (.aload_n 0, 1)) (List.mem_of_getElem? (i := 0) rfl)
theorem dX12_asks_1 : decode cX12_asks 1 = .ok (.getfield 13, 3) := dgX12_asks_0 (1, (.getfield 13, 3)) (List.mem_of_getElem? (i := 1) rfl)
theorem dX12_asks_4 : decode cX12_asks 4 = .ok (.iconst 3, 1) := dgX12_asks_0 (4, (.iconst 3, 1)) (List.mem_of_getElem? (i := 2) rfl)
theorem dX12_asks_5 : decode cX12_asks 5 = .ok (.iaload, 1) := dgX12_asks_0 (5, (.iaload, 1)) (List.mem_of_getElem? (i := 3) rfl)
theorem dX12_asks_6 : decode cX12_asks 6 = .ok (.iconst (-1), 1) := dgX12_asks_0 (6, (.iconst (-1), 1)) (List.mem_of_getElem? (i := 4) rfl)
theorem dX12_asks_7 : decode cX12_asks 7 = .ok (.if_icmp .ne 6, 3) := dgX12_asks_0 (7, (.if_icmp .ne 6, 3)) (List.mem_of_getElem? (i := 5) rfl)
theorem dX12_asks_10 : decode cX12_asks 10 = .ok (.iload 4, 2) := dgX12_asks_0 (10, (.iload 4, 2)) (List.mem_of_getElem? (i := 6) rfl)
theorem dX12_asks_12 : decode cX12_asks 12 = .ok (.ireturn, 1) := dgX12_asks_0 (12, (.ireturn, 1)) (List.mem_of_getElem? (i := 7) rfl)
theorem dX12_asks_13 : decode cX12_asks 13 = .ok (.aload_n 0, 1) := dgX12_asks_0 (13, (.aload_n 0, 1)) (List.mem_of_getElem? (i := 8) rfl)
theorem dX12_asks_14 : decode cX12_asks 14 = .ok (.sipush 340, 3) := dgX12_asks_0 (14, (.sipush 340, 3)) (List.mem_of_getElem? (i := 9) rfl)
theorem dX12_asks_17 : decode cX12_asks 17 = .ok (.sipush 900, 3) := dgX12_asks_0 (17, (.sipush 900, 3)) (List.mem_of_getElem? (i := 10) rfl)
theorem dX12_asks_20 : decode cX12_asks 20 = .ok (.aload_n 0, 1) := dgX12_asks_0 (20, (.aload_n 0, 1)) (List.mem_of_getElem? (i := 11) rfl)
theorem dX12_asks_21 : decode cX12_asks 21 = .ok (.getfield 13, 3) := dgX12_asks_0 (21, (.getfield 13, 3)) (List.mem_of_getElem? (i := 12) rfl)
theorem dX12_asks_24 : decode cX12_asks 24 = .ok (.iconst 3, 1) := dgX12_asks_0 (24, (.iconst 3, 1)) (List.mem_of_getElem? (i := 13) rfl)
theorem dX12_asks_25 : decode cX12_asks 25 = .ok (.iaload, 1) := dgX12_asks_0 (25, (.iaload, 1)) (List.mem_of_getElem? (i := 14) rfl)
theorem dX12_asks_26 : decode cX12_asks 26 = .ok (.imul, 1) := dgX12_asks_0 (26, (.imul, 1)) (List.mem_of_getElem? (i := 15) rfl)
theorem dX12_asks_27 : decode cX12_asks 27 = .ok (.iadd, 1) := dgX12_asks_0 (27, (.iadd, 1)) (List.mem_of_getElem? (i := 16) rfl)
theorem dX12_asks_28 : decode cX12_asks 28 = .ok (.putfield 329, 3) := dgX12_asks_0 (28, (.putfield 329, 3)) (List.mem_of_getElem? (i := 17) rfl)
theorem dX12_asks_31 : decode cX12_asks 31 = .ok (.aload_n 0, 1) := dgX12_asks_0 (31, (.aload_n 0, 1)) (List.mem_of_getElem? (i := 18) rfl)
theorem dX12_asks_32 : decode cX12_asks 32 = .ok (.getfield 76, 3) := dgX12_asks_0 (32, (.getfield 76, 3)) (List.mem_of_getElem? (i := 19) rfl)
theorem dX12_asks_35 : decode cX12_asks 35 = .ok (.iconst 1, 1) := dgX12_asks_0 (35, (.iconst 1, 1)) (List.mem_of_getElem? (i := 20) rfl)
theorem dX12_asks_36 : decode cX12_asks 36 = .ok (.iload_n 2, 1) := dgX12_asks_0 (36, (.iload_n 2, 1)) (List.mem_of_getElem? (i := 21) rfl)
theorem dX12_asks_37 : decode cX12_asks 37 = .ok (.i2l, 1) := dgX12_asks_0 (37, (.i2l, 1)) (List.mem_of_getElem? (i := 22) rfl)
theorem dX12_asks_38 : decode cX12_asks 38 = .ok (.lastore, 1) := dgX12_asks_0 (38, (.lastore, 1)) (List.mem_of_getElem? (i := 23) rfl)
theorem dX12_asks_39 : decode cX12_asks 39 = .ok (.aload_n 0, 1) := dgX12_asks_0 (39, (.aload_n 0, 1)) (List.mem_of_getElem? (i := 24) rfl)
theorem dX12_asks_40 : decode cX12_asks 40 = .ok (.getfield 76, 3) := dgX12_asks_0 (40, (.getfield 76, 3)) (List.mem_of_getElem? (i := 25) rfl)
theorem dX12_asks_43 : decode cX12_asks 43 = .ok (.iconst 2, 1) := dgX12_asks_0 (43, (.iconst 2, 1)) (List.mem_of_getElem? (i := 26) rfl)
theorem dX12_asks_44 : decode cX12_asks 44 = .ok (.aload_n 0, 1) := dgX12_asks_0 (44, (.aload_n 0, 1)) (List.mem_of_getElem? (i := 27) rfl)
theorem dX12_asks_45 : decode cX12_asks 45 = .ok (.getfield 349, 3) := dgX12_asks_0 (45, (.getfield 349, 3)) (List.mem_of_getElem? (i := 28) rfl)
theorem dX12_asks_48 : decode cX12_asks 48 = .ok (.bipush 8, 2) := dgX12_asks_0 (48, (.bipush 8, 2)) (List.mem_of_getElem? (i := 29) rfl)
theorem dX12_asks_50 : decode cX12_asks 50 = .ok (.irem, 1) := dgX12_asks_0 (50, (.irem, 1)) (List.mem_of_getElem? (i := 30) rfl)
theorem dX12_asks_51 : decode cX12_asks 51 = .ok (.i2l, 1) := dgX12_asks_0 (51, (.i2l, 1)) (List.mem_of_getElem? (i := 31) rfl)
theorem dX12_asks_52 : decode cX12_asks 52 = .ok (.lastore, 1) := dgX12_asks_0 (52, (.lastore, 1)) (List.mem_of_getElem? (i := 32) rfl)
theorem dX12_asks_53 : decode cX12_asks 53 = .ok (.aload_n 0, 1) := dgX12_asks_0 (53, (.aload_n 0, 1)) (List.mem_of_getElem? (i := 33) rfl)
theorem dX12_asks_54 : decode cX12_asks 54 = .ok (.getfield 76, 3) := dgX12_asks_0 (54, (.getfield 76, 3)) (List.mem_of_getElem? (i := 34) rfl)
theorem dX12_asks_57 : decode cX12_asks 57 = .ok (.iconst 3, 1) := dgX12_asks_0 (57, (.iconst 3, 1)) (List.mem_of_getElem? (i := 35) rfl)
theorem dX12_asks_58 : decode cX12_asks 58 = .ok (.aload_n 0, 1) := dgX12_asks_0 (58, (.aload_n 0, 1)) (List.mem_of_getElem? (i := 36) rfl)
theorem dX12_asks_59 : decode cX12_asks 59 = .ok (.getfield 349, 3) := dgX12_asks_0 (59, (.getfield 349, 3)) (List.mem_of_getElem? (i := 37) rfl)
theorem dX12_asks_62 : decode cX12_asks 62 = .ok (.bipush 8, 2) := dgX12_asks_0 (62, (.bipush 8, 2)) (List.mem_of_getElem? (i := 38) rfl)
theorem dX12_asks_64 : decode cX12_asks 64 = .ok (.idiv, 1) := dgX12_asks_0 (64, (.idiv, 1)) (List.mem_of_getElem? (i := 39) rfl)
theorem dgX12_asks_1 : ∀ r ∈ ([(65, (.i2l, 1)), (66, (.lastore, 1)), (67, (.aload_n 0, 1)), (68, (.getfield 76, 3)), (71, (.iconst 4, 1)), (72, (.aload_n 0, 1)), (73, (.getfield 352, 3)), (76, (.i2l, 1)), (77, (.lastore, 1)), (78, (.aload_n 0, 1)), (79, (.getfield 76, 3)), (82, (.iconst 5, 1)), (83, (.aload_n 0, 1)), (84, (.getfield 355, 3)), (87, (.i2l, 1)), (88, (.lastore, 1)), (89, (.aload_n 0, 1)), (90, (.getfield 76, 3)), (93, (.bipush 6, 2)), (95, (.iload_n 3, 1)), (96, (.i2l, 1)), (97, (.lastore, 1)), (98, (.aload_n 0, 1)), (99, (.getfield 76, 3)), (102, (.bipush 7, 2)), (104, (.aload_n 0, 1)), (105, (.getfield 358, 3)), (108, (.i2l, 1)), (109, (.lastore, 1)), (110, (.aload_n 0, 1)), (111, (.getfield 76, 3)), (114, (.bipush 8, 2)), (116, (.aload_n 0, 1)), (117, (.getfield 361, 3)), (120, (.sipush 1000, 3)), (123, (.idiv, 1)), (124, (.i2l, 1)), (125, (.lastore, 1)), (126, (.iload 4, 2)), (128, (.i2l, 1))] : List (Nat × (Instr × Nat))), decode cX12_asks r.1 = .ok r.2 := by decide +kernel
theorem dX12_asks_65 : decode cX12_asks 65 = .ok (.i2l, 1) := dgX12_asks_1 (65, (.i2l, 1)) (List.mem_of_getElem? (i := 0) rfl)
theorem dX12_asks_66 : decode cX12_asks 66 = .ok (.lastore, 1) := dgX12_asks_1 (66, (.lastore, 1)) (List.mem_of_getElem? (i := 1) rfl)
theorem dX12_asks_67 : decode cX12_asks 67 = .ok (.aload_n 0, 1) := dgX12_asks_1 (67, (.aload_n 0, 1)) (List.mem_of_getElem? (i := 2) rfl)
theorem dX12_asks_68 : decode cX12_asks 68 = .ok (.getfield 76, 3) := dgX12_asks_1 (68, (.getfield 76, 3)) (List.mem_of_getElem? (i := 3) rfl)
theorem dX12_asks_71 : decode cX12_asks 71 = .ok (.iconst 4, 1) := dgX12_asks_1 (71, (.iconst 4, 1)) (List.mem_of_getElem? (i := 4) rfl)
theorem dX12_asks_72 : decode cX12_asks 72 = .ok (.aload_n 0, 1) := dgX12_asks_1 (72, (.aload_n 0, 1)) (List.mem_of_getElem? (i := 5) rfl)
theorem dX12_asks_73 : decode cX12_asks 73 = .ok (.getfield 352, 3) := dgX12_asks_1 (73, (.getfield 352, 3)) (List.mem_of_getElem? (i := 6) rfl)
theorem dX12_asks_76 : decode cX12_asks 76 = .ok (.i2l, 1) := dgX12_asks_1 (76, (.i2l, 1)) (List.mem_of_getElem? (i := 7) rfl)
theorem dX12_asks_77 : decode cX12_asks 77 = .ok (.lastore, 1) := dgX12_asks_1 (77, (.lastore, 1)) (List.mem_of_getElem? (i := 8) rfl)
theorem dX12_asks_78 : decode cX12_asks 78 = .ok (.aload_n 0, 1) := dgX12_asks_1 (78, (.aload_n 0, 1)) (List.mem_of_getElem? (i := 9) rfl)
theorem dX12_asks_79 : decode cX12_asks 79 = .ok (.getfield 76, 3) := dgX12_asks_1 (79, (.getfield 76, 3)) (List.mem_of_getElem? (i := 10) rfl)
theorem dX12_asks_82 : decode cX12_asks 82 = .ok (.iconst 5, 1) := dgX12_asks_1 (82, (.iconst 5, 1)) (List.mem_of_getElem? (i := 11) rfl)
theorem dX12_asks_83 : decode cX12_asks 83 = .ok (.aload_n 0, 1) := dgX12_asks_1 (83, (.aload_n 0, 1)) (List.mem_of_getElem? (i := 12) rfl)
theorem dX12_asks_84 : decode cX12_asks 84 = .ok (.getfield 355, 3) := dgX12_asks_1 (84, (.getfield 355, 3)) (List.mem_of_getElem? (i := 13) rfl)
theorem dX12_asks_87 : decode cX12_asks 87 = .ok (.i2l, 1) := dgX12_asks_1 (87, (.i2l, 1)) (List.mem_of_getElem? (i := 14) rfl)
theorem dX12_asks_88 : decode cX12_asks 88 = .ok (.lastore, 1) := dgX12_asks_1 (88, (.lastore, 1)) (List.mem_of_getElem? (i := 15) rfl)
theorem dX12_asks_89 : decode cX12_asks 89 = .ok (.aload_n 0, 1) := dgX12_asks_1 (89, (.aload_n 0, 1)) (List.mem_of_getElem? (i := 16) rfl)
theorem dX12_asks_90 : decode cX12_asks 90 = .ok (.getfield 76, 3) := dgX12_asks_1 (90, (.getfield 76, 3)) (List.mem_of_getElem? (i := 17) rfl)
theorem dX12_asks_93 : decode cX12_asks 93 = .ok (.bipush 6, 2) := dgX12_asks_1 (93, (.bipush 6, 2)) (List.mem_of_getElem? (i := 18) rfl)
theorem dX12_asks_95 : decode cX12_asks 95 = .ok (.iload_n 3, 1) := dgX12_asks_1 (95, (.iload_n 3, 1)) (List.mem_of_getElem? (i := 19) rfl)
theorem dX12_asks_96 : decode cX12_asks 96 = .ok (.i2l, 1) := dgX12_asks_1 (96, (.i2l, 1)) (List.mem_of_getElem? (i := 20) rfl)
theorem dX12_asks_97 : decode cX12_asks 97 = .ok (.lastore, 1) := dgX12_asks_1 (97, (.lastore, 1)) (List.mem_of_getElem? (i := 21) rfl)
theorem dX12_asks_98 : decode cX12_asks 98 = .ok (.aload_n 0, 1) := dgX12_asks_1 (98, (.aload_n 0, 1)) (List.mem_of_getElem? (i := 22) rfl)
theorem dX12_asks_99 : decode cX12_asks 99 = .ok (.getfield 76, 3) := dgX12_asks_1 (99, (.getfield 76, 3)) (List.mem_of_getElem? (i := 23) rfl)
theorem dX12_asks_102 : decode cX12_asks 102 = .ok (.bipush 7, 2) := dgX12_asks_1 (102, (.bipush 7, 2)) (List.mem_of_getElem? (i := 24) rfl)
theorem dX12_asks_104 : decode cX12_asks 104 = .ok (.aload_n 0, 1) := dgX12_asks_1 (104, (.aload_n 0, 1)) (List.mem_of_getElem? (i := 25) rfl)
theorem dX12_asks_105 : decode cX12_asks 105 = .ok (.getfield 358, 3) := dgX12_asks_1 (105, (.getfield 358, 3)) (List.mem_of_getElem? (i := 26) rfl)
theorem dX12_asks_108 : decode cX12_asks 108 = .ok (.i2l, 1) := dgX12_asks_1 (108, (.i2l, 1)) (List.mem_of_getElem? (i := 27) rfl)
theorem dX12_asks_109 : decode cX12_asks 109 = .ok (.lastore, 1) := dgX12_asks_1 (109, (.lastore, 1)) (List.mem_of_getElem? (i := 28) rfl)
theorem dX12_asks_110 : decode cX12_asks 110 = .ok (.aload_n 0, 1) := dgX12_asks_1 (110, (.aload_n 0, 1)) (List.mem_of_getElem? (i := 29) rfl)
theorem dX12_asks_111 : decode cX12_asks 111 = .ok (.getfield 76, 3) := dgX12_asks_1 (111, (.getfield 76, 3)) (List.mem_of_getElem? (i := 30) rfl)
theorem dX12_asks_114 : decode cX12_asks 114 = .ok (.bipush 8, 2) := dgX12_asks_1 (114, (.bipush 8, 2)) (List.mem_of_getElem? (i := 31) rfl)
theorem dX12_asks_116 : decode cX12_asks 116 = .ok (.aload_n 0, 1) := dgX12_asks_1 (116, (.aload_n 0, 1)) (List.mem_of_getElem? (i := 32) rfl)
theorem dX12_asks_117 : decode cX12_asks 117 = .ok (.getfield 361, 3) := dgX12_asks_1 (117, (.getfield 361, 3)) (List.mem_of_getElem? (i := 33) rfl)
theorem dX12_asks_120 : decode cX12_asks 120 = .ok (.sipush 1000, 3) := dgX12_asks_1 (120, (.sipush 1000, 3)) (List.mem_of_getElem? (i := 34) rfl)
theorem dX12_asks_123 : decode cX12_asks 123 = .ok (.idiv, 1) := dgX12_asks_1 (123, (.idiv, 1)) (List.mem_of_getElem? (i := 35) rfl)
theorem dX12_asks_124 : decode cX12_asks 124 = .ok (.i2l, 1) := dgX12_asks_1 (124, (.i2l, 1)) (List.mem_of_getElem? (i := 36) rfl)
theorem dX12_asks_125 : decode cX12_asks 125 = .ok (.lastore, 1) := dgX12_asks_1 (125, (.lastore, 1)) (List.mem_of_getElem? (i := 37) rfl)
theorem dX12_asks_126 : decode cX12_asks 126 = .ok (.iload 4, 2) := dgX12_asks_1 (126, (.iload 4, 2)) (List.mem_of_getElem? (i := 38) rfl)
theorem dX12_asks_128 : decode cX12_asks 128 = .ok (.i2l, 1) := dgX12_asks_1 (128, (.i2l, 1)) (List.mem_of_getElem? (i := 39) rfl)
theorem dgX12_asks_2 : ∀ r ∈ ([(129, (.lstore 6, 2)), (131, (.iconst 0, 1)), (132, (.istore 8, 2)), (134, (.iload 8, 2)), (136, (.aload_n 0, 1)), (137, (.getfield 13, 3)), (140, (.aload_n 0, 1)), (141, (.getfield 329, 3)), (144, (.iconst 1, 1)), (145, (.iadd, 1)), (146, (.iaload, 1)), (147, (.if_icmp .ge 58, 3)), (150, (.aload_n 0, 1)), (151, (.getfield 329, 3)), (154, (.iconst 2, 1)), (155, (.iadd, 1)), (156, (.bipush 8, 2)), (158, (.iload 8, 2)), (160, (.imul, 1)), (161, (.iadd, 1)), (162, (.istore 9, 2)), (164, (.aload_n 0, 1)), (165, (.getfield 13, 3)), (168, (.iload 9, 2)), (170, (.iaload, 1)), (171, (.iload_n 1, 1)), (172, (.if_icmp .ne 27, 3)), (175, (.aload_n 0, 1)), (176, (.iload 9, 2)), (178, (.invokevirtual 364, 3)), (181, (.ifCond .eq 18, 3)), (184, (.iload_n 1, 1)), (185, (.iconst 2, 1)), (186, (.if_icmp .ge 10, 3)), (189, (.aload_n 0, 1)), (190, (.getfield 346, 3)), (193, (.goto 4, 3)), (196, (.lconst 1, 1)), (197, (.lstore 6, 2)), (199, (.iinc 8 1, 3))] : List (Nat × (Instr × Nat))), decode cX12_asks r.1 = .ok r.2 := by decide +kernel
theorem dX12_asks_129 : decode cX12_asks 129 = .ok (.lstore 6, 2) := dgX12_asks_2 (129, (.lstore 6, 2)) (List.mem_of_getElem? (i := 0) rfl)
theorem dX12_asks_131 : decode cX12_asks 131 = .ok (.iconst 0, 1) := dgX12_asks_2 (131, (.iconst 0, 1)) (List.mem_of_getElem? (i := 1) rfl)
theorem dX12_asks_132 : decode cX12_asks 132 = .ok (.istore 8, 2) := dgX12_asks_2 (132, (.istore 8, 2)) (List.mem_of_getElem? (i := 2) rfl)
theorem dX12_asks_134 : decode cX12_asks 134 = .ok (.iload 8, 2) := dgX12_asks_2 (134, (.iload 8, 2)) (List.mem_of_getElem? (i := 3) rfl)
theorem dX12_asks_136 : decode cX12_asks 136 = .ok (.aload_n 0, 1) := dgX12_asks_2 (136, (.aload_n 0, 1)) (List.mem_of_getElem? (i := 4) rfl)
theorem dX12_asks_137 : decode cX12_asks 137 = .ok (.getfield 13, 3) := dgX12_asks_2 (137, (.getfield 13, 3)) (List.mem_of_getElem? (i := 5) rfl)
theorem dX12_asks_140 : decode cX12_asks 140 = .ok (.aload_n 0, 1) := dgX12_asks_2 (140, (.aload_n 0, 1)) (List.mem_of_getElem? (i := 6) rfl)
theorem dX12_asks_141 : decode cX12_asks 141 = .ok (.getfield 329, 3) := dgX12_asks_2 (141, (.getfield 329, 3)) (List.mem_of_getElem? (i := 7) rfl)
theorem dX12_asks_144 : decode cX12_asks 144 = .ok (.iconst 1, 1) := dgX12_asks_2 (144, (.iconst 1, 1)) (List.mem_of_getElem? (i := 8) rfl)
theorem dX12_asks_145 : decode cX12_asks 145 = .ok (.iadd, 1) := dgX12_asks_2 (145, (.iadd, 1)) (List.mem_of_getElem? (i := 9) rfl)
theorem dX12_asks_146 : decode cX12_asks 146 = .ok (.iaload, 1) := dgX12_asks_2 (146, (.iaload, 1)) (List.mem_of_getElem? (i := 10) rfl)
theorem dX12_asks_147 : decode cX12_asks 147 = .ok (.if_icmp .ge 58, 3) := dgX12_asks_2 (147, (.if_icmp .ge 58, 3)) (List.mem_of_getElem? (i := 11) rfl)
theorem dX12_asks_150 : decode cX12_asks 150 = .ok (.aload_n 0, 1) := dgX12_asks_2 (150, (.aload_n 0, 1)) (List.mem_of_getElem? (i := 12) rfl)
theorem dX12_asks_151 : decode cX12_asks 151 = .ok (.getfield 329, 3) := dgX12_asks_2 (151, (.getfield 329, 3)) (List.mem_of_getElem? (i := 13) rfl)
theorem dX12_asks_154 : decode cX12_asks 154 = .ok (.iconst 2, 1) := dgX12_asks_2 (154, (.iconst 2, 1)) (List.mem_of_getElem? (i := 14) rfl)
theorem dX12_asks_155 : decode cX12_asks 155 = .ok (.iadd, 1) := dgX12_asks_2 (155, (.iadd, 1)) (List.mem_of_getElem? (i := 15) rfl)
theorem dX12_asks_156 : decode cX12_asks 156 = .ok (.bipush 8, 2) := dgX12_asks_2 (156, (.bipush 8, 2)) (List.mem_of_getElem? (i := 16) rfl)
theorem dX12_asks_158 : decode cX12_asks 158 = .ok (.iload 8, 2) := dgX12_asks_2 (158, (.iload 8, 2)) (List.mem_of_getElem? (i := 17) rfl)
theorem dX12_asks_160 : decode cX12_asks 160 = .ok (.imul, 1) := dgX12_asks_2 (160, (.imul, 1)) (List.mem_of_getElem? (i := 18) rfl)
theorem dX12_asks_161 : decode cX12_asks 161 = .ok (.iadd, 1) := dgX12_asks_2 (161, (.iadd, 1)) (List.mem_of_getElem? (i := 19) rfl)
theorem dX12_asks_162 : decode cX12_asks 162 = .ok (.istore 9, 2) := dgX12_asks_2 (162, (.istore 9, 2)) (List.mem_of_getElem? (i := 20) rfl)
theorem dX12_asks_164 : decode cX12_asks 164 = .ok (.aload_n 0, 1) := dgX12_asks_2 (164, (.aload_n 0, 1)) (List.mem_of_getElem? (i := 21) rfl)
theorem dX12_asks_165 : decode cX12_asks 165 = .ok (.getfield 13, 3) := dgX12_asks_2 (165, (.getfield 13, 3)) (List.mem_of_getElem? (i := 22) rfl)
theorem dX12_asks_168 : decode cX12_asks 168 = .ok (.iload 9, 2) := dgX12_asks_2 (168, (.iload 9, 2)) (List.mem_of_getElem? (i := 23) rfl)
theorem dX12_asks_170 : decode cX12_asks 170 = .ok (.iaload, 1) := dgX12_asks_2 (170, (.iaload, 1)) (List.mem_of_getElem? (i := 24) rfl)
theorem dX12_asks_171 : decode cX12_asks 171 = .ok (.iload_n 1, 1) := dgX12_asks_2 (171, (.iload_n 1, 1)) (List.mem_of_getElem? (i := 25) rfl)
theorem dX12_asks_172 : decode cX12_asks 172 = .ok (.if_icmp .ne 27, 3) := dgX12_asks_2 (172, (.if_icmp .ne 27, 3)) (List.mem_of_getElem? (i := 26) rfl)
theorem dX12_asks_175 : decode cX12_asks 175 = .ok (.aload_n 0, 1) := dgX12_asks_2 (175, (.aload_n 0, 1)) (List.mem_of_getElem? (i := 27) rfl)
theorem dX12_asks_176 : decode cX12_asks 176 = .ok (.iload 9, 2) := dgX12_asks_2 (176, (.iload 9, 2)) (List.mem_of_getElem? (i := 28) rfl)
theorem dX12_asks_178 : decode cX12_asks 178 = .ok (.invokevirtual 364, 3) := dgX12_asks_2 (178, (.invokevirtual 364, 3)) (List.mem_of_getElem? (i := 29) rfl)
theorem dX12_asks_181 : decode cX12_asks 181 = .ok (.ifCond .eq 18, 3) := dgX12_asks_2 (181, (.ifCond .eq 18, 3)) (List.mem_of_getElem? (i := 30) rfl)
theorem dX12_asks_184 : decode cX12_asks 184 = .ok (.iload_n 1, 1) := dgX12_asks_2 (184, (.iload_n 1, 1)) (List.mem_of_getElem? (i := 31) rfl)
theorem dX12_asks_185 : decode cX12_asks 185 = .ok (.iconst 2, 1) := dgX12_asks_2 (185, (.iconst 2, 1)) (List.mem_of_getElem? (i := 32) rfl)
theorem dX12_asks_186 : decode cX12_asks 186 = .ok (.if_icmp .ge 10, 3) := dgX12_asks_2 (186, (.if_icmp .ge 10, 3)) (List.mem_of_getElem? (i := 33) rfl)
theorem dX12_asks_189 : decode cX12_asks 189 = .ok (.aload_n 0, 1) := dgX12_asks_2 (189, (.aload_n 0, 1)) (List.mem_of_getElem? (i := 34) rfl)
theorem dX12_asks_190 : decode cX12_asks 190 = .ok (.getfield 346, 3) := dgX12_asks_2 (190, (.getfield 346, 3)) (List.mem_of_getElem? (i := 35) rfl)
theorem dX12_asks_193 : decode cX12_asks 193 = .ok (.goto 4, 3) := dgX12_asks_2 (193, (.goto 4, 3)) (List.mem_of_getElem? (i := 36) rfl)
theorem dX12_asks_196 : decode cX12_asks 196 = .ok (.lconst 1, 1) := dgX12_asks_2 (196, (.lconst 1, 1)) (List.mem_of_getElem? (i := 37) rfl)
theorem dX12_asks_197 : decode cX12_asks 197 = .ok (.lstore 6, 2) := dgX12_asks_2 (197, (.lstore 6, 2)) (List.mem_of_getElem? (i := 38) rfl)
theorem dX12_asks_199 : decode cX12_asks 199 = .ok (.iinc 8 1, 3) := dgX12_asks_2 (199, (.iinc 8 1, 3)) (List.mem_of_getElem? (i := 39) rfl)
theorem dgX12_asks_3 : ∀ r ∈ ([(202, (.goto (-68), 3)), (205, (.lload 6, 2)), (207, (.lconst 0, 1)), (208, (.lcmp, 1)), (209, (.ifCond .ge 7, 3)), (212, (.iconst 0, 1)), (213, (.goto 20, 3)), (216, (.lload 6, 2)), (218, (.iload 5, 2)), (220, (.i2l, 1)), (221, (.lcmp, 1)), (222, (.ifCond .le 8, 3)), (225, (.iload 5, 2)), (227, (.goto 6, 3)), (230, (.lload 6, 2)), (232, (.l2i, 1)), (233, (.ireturn, 1))] : List (Nat × (Instr × Nat))), decode cX12_asks r.1 = .ok r.2 := by decide +kernel
theorem dX12_asks_202 : decode cX12_asks 202 = .ok (.goto (-68), 3) := dgX12_asks_3 (202, (.goto (-68), 3)) (List.mem_of_getElem? (i := 0) rfl)
theorem dX12_asks_205 : decode cX12_asks 205 = .ok (.lload 6, 2) := dgX12_asks_3 (205, (.lload 6, 2)) (List.mem_of_getElem? (i := 1) rfl)
theorem dX12_asks_207 : decode cX12_asks 207 = .ok (.lconst 0, 1) := dgX12_asks_3 (207, (.lconst 0, 1)) (List.mem_of_getElem? (i := 2) rfl)
theorem dX12_asks_208 : decode cX12_asks 208 = .ok (.lcmp, 1) := dgX12_asks_3 (208, (.lcmp, 1)) (List.mem_of_getElem? (i := 3) rfl)
theorem dX12_asks_209 : decode cX12_asks 209 = .ok (.ifCond .ge 7, 3) := dgX12_asks_3 (209, (.ifCond .ge 7, 3)) (List.mem_of_getElem? (i := 4) rfl)
theorem dX12_asks_212 : decode cX12_asks 212 = .ok (.iconst 0, 1) := dgX12_asks_3 (212, (.iconst 0, 1)) (List.mem_of_getElem? (i := 5) rfl)
theorem dX12_asks_213 : decode cX12_asks 213 = .ok (.goto 20, 3) := dgX12_asks_3 (213, (.goto 20, 3)) (List.mem_of_getElem? (i := 6) rfl)
theorem dX12_asks_216 : decode cX12_asks 216 = .ok (.lload 6, 2) := dgX12_asks_3 (216, (.lload 6, 2)) (List.mem_of_getElem? (i := 7) rfl)
theorem dX12_asks_218 : decode cX12_asks 218 = .ok (.iload 5, 2) := dgX12_asks_3 (218, (.iload 5, 2)) (List.mem_of_getElem? (i := 8) rfl)
theorem dX12_asks_220 : decode cX12_asks 220 = .ok (.i2l, 1) := dgX12_asks_3 (220, (.i2l, 1)) (List.mem_of_getElem? (i := 9) rfl)
theorem dX12_asks_221 : decode cX12_asks 221 = .ok (.lcmp, 1) := dgX12_asks_3 (221, (.lcmp, 1)) (List.mem_of_getElem? (i := 10) rfl)
theorem dX12_asks_222 : decode cX12_asks 222 = .ok (.ifCond .le 8, 3) := dgX12_asks_3 (222, (.ifCond .le 8, 3)) (List.mem_of_getElem? (i := 11) rfl)
theorem dX12_asks_225 : decode cX12_asks 225 = .ok (.iload 5, 2) := dgX12_asks_3 (225, (.iload 5, 2)) (List.mem_of_getElem? (i := 12) rfl)
theorem dX12_asks_227 : decode cX12_asks 227 = .ok (.goto 6, 3) := dgX12_asks_3 (227, (.goto 6, 3)) (List.mem_of_getElem? (i := 13) rfl)
theorem dX12_asks_230 : decode cX12_asks 230 = .ok (.lload 6, 2) := dgX12_asks_3 (230, (.lload 6, 2)) (List.mem_of_getElem? (i := 14) rfl)
theorem dX12_asks_232 : decode cX12_asks 232 = .ok (.l2i, 1) := dgX12_asks_3 (232, (.l2i, 1)) (List.mem_of_getElem? (i := 15) rfl)
theorem dX12_asks_233 : decode cX12_asks 233 = .ok (.ireturn, 1) := dgX12_asks_3 (233, (.ireturn, 1)) (List.mem_of_getElem? (i := 16) rfl)
theorem fl_X12_349 : Cond.fieldLink RX12 349 "LateGlassModel" "cell" "I" ∈ tblG := tg 1236 (by decide +kernel) (by decide +kernel)
theorem fl_X12_352 : Cond.fieldLink RX12 352 "LateGlassModel" "hour" "I" ∈ tblG := tg 1237 (by decide +kernel) (by decide +kernel)
theorem fl_X12_355 : Cond.fieldLink RX12 355 "LateGlassModel" "way" "I" ∈ tblG := tg 1238 (by decide +kernel) (by decide +kernel)
theorem fl_X12_358 : Cond.fieldLink RX12 358 "LateGlassModel" "points" "I" ∈ tblG := tg 1240 (by decide +kernel) (by decide +kernel)
theorem fl_X12_361 : Cond.fieldLink RX12 361 "LateGlassModel" "bright" "I" ∈ tblG := tg 1239 (by decide +kernel) (by decide +kernel)
theorem ml_X12_364 : Cond.methodLink RX12 364 yX12_isSo ∈ tblG := tg 1626 (by decide +kernel) (by decide +kernel)
theorem im_X12_isSo : Cond.instanceMethod yX12_isSo ∈ tblG := tg 1628 (by decide +kernel) (by decide +kernel)
theorem se_X12_isSo : Cond.selects RX12 yX12_isSo yX12_isSo ∈ tblG := tg 65 (by decide +kernel) (by decide +kernel)
theorem cd_X12_isSo : Cond.code yX12_isSo cX12_isSo 2 (some .boolean) ∈ tblG := tg 1629 (by decide +kernel) (by decide +kernel)
theorem gW_X12_isSo : GoodIn tblG (wsG yX12_isSo cX12_isSo 2 (some .boolean)) := tgi cd_X12_isSo
theorem gV_X12_364 : GoodIn tblG (wsV RX12 364 RX12 yX12_isSo (wsG yX12_isSo cX12_isSo 2 (some .boolean))) := tgV ml_X12_364 im_X12_isSo se_X12_isSo ini_X12 gW_X12_isSo
theorem hv_X12_isSo : yX12_isSo.cls = RX12 ∧ yX12_isSo.cls ≠ "java/lang/invoke/MethodHandle" ∧ yX12_isSo.cls ≠ "java/lang/invoke/VarHandle" ∧ (parseMethodDescriptor yX12_isSo.desc).map (fun d => d.parameters.length) = some 1 := by decide +kernel
set_option maxHeartbeats 4000000 in
set_option maxRecDepth 100000 in
theorem n_asks (l : Launch) (G : g5_G) (b_o b_ro b_se b_re b_rf b_im b_ke b_tp b_nl b_op b_ar b_pi b_pa b_ws b_hw b_pt b_ip b_ah b_be b_me b_tr b_ld b_wn : Nat) (sz : Nat) (u_th : Int32) (u_sa : Int32) (u_fd : Int32) (u_td : Int32) (u_fr : Int32) (u_to : Int32) (u_so : Int32) (u_fa : Int32) (u_bd : Int32) (u_nc : Int32) (u_co : Int32) (u_le : Int32) (u_pd : Int32) (u_od : Int32) (u_la : Int32) (u_bk : Int32) (u_ce : Int32) (u_ho : Int32) (u_wy : Int32) (u_bt : Int32) (u_ps : Int32) (u_tg : Int32) (u_sn : Int32) (u_ic : Int32) (u_wd : Int32) (u_id : Int32) (p_1 : Int32) (p_2 : Int32) (p_3 : Int32) (p_4 : Int32) (p_5 : Int32) (u_wo : Int64) (u_va : Int64) (u_su : Int64) (u_st : Int64) (v_ro : Nat → Int32) (v_se : Nat → Int64) (v_re : Nat → Int64) (h_u_td : 0 ≤ u_td.toInt ∧ u_td.toInt ≤ 400) (h_u_fr : 0 ≤ u_fr.toInt ∧ u_fr.toInt ≤ 400) (h_u_to : 0 ≤ u_to.toInt ∧ u_to.toInt ≤ 400) (h_u_bd : 0 ≤ u_bd.toInt ∧ u_bd.toInt ≤ 1) (h_u_nc : 0 ≤ u_nc.toInt ∧ u_nc.toInt ≤ 12) (h_u_co : 0 ≤ u_co.toInt ∧ u_co.toInt ≤ 400) (h_u_pd : 0 ≤ u_pd.toInt ∧ u_pd.toInt ≤ 400) (h_u_la : 0 ≤ u_la.toInt ∧ u_la.toInt ≤ 4840) (h_u_bk : 0 ≤ u_bk.toInt ∧ u_bk.toInt ≤ 1) (h_u_ce : 0 ≤ u_ce.toInt ∧ u_ce.toInt ≤ 63) (h_u_ho : 0 ≤ u_ho.toInt ∧ u_ho.toInt ≤ 23) (h_u_wy : 0 ≤ u_wy.toInt ∧ u_wy.toInt ≤ 3) (h_u_bt : 0 ≤ u_bt.toInt ∧ u_bt.toInt ≤ 1000000) (h_u_ps : 0 ≤ u_ps.toInt ∧ u_ps.toInt ≤ 200) (h_u_ic : 0 ≤ u_ic.toInt ∧ u_ic.toInt ≤ 1) (h_u_id : 0 ≤ u_id.toInt ∧ u_id.toInt ≤ 1) (h_p_4 : 0 ≤ p_4.toInt ∧ p_4.toInt ≤ 23) (h_p_5 : 0 ≤ p_5.toInt ∧ p_5.toInt ≤ 23) (r_ro : MI v_ro) (e_wm : p_4.toInt ≤ p_5.toInt) : Met l yX12_asks (wsG yX12_asks cX12_asks 10 (some .int)) ({ frames := 3, cells := 0, slots := 0, locals := 72 }) (va_Pc [.ref b_o, .int p_1, .int p_2, .int p_3, .int p_4, .int p_5] (g5_P G [(b_o, (oc12 u_th u_sa b_rf b_ro b_im b_ke u_fd b_tp u_td u_fr u_to u_so u_wo u_fa u_bd u_nc b_nl u_co b_op b_ar u_le b_pi b_pa u_pd u_od b_ws b_hw u_la b_se b_re u_bk u_va u_su u_ce u_ho u_wy u_bt u_ps b_pt u_tg u_sn b_ip u_ic b_ah b_be b_me u_wd b_tr b_ld u_st b_wn u_id)), (b_ro, (arI G 5740 v_ro)), (b_se, (arJ G 13 v_se)), (b_re, (arJ G 400 v_re))] sz)) (va_Qi (fun (r : Int32) (u : va_W) => (∃ (o_r : Int32) (o_la : Int32) (o_bk : Int32) (o_va : Int64) (o_su : Int64) (o_se : Nat → Int64) (o_re : Nat → Int64), (0 ≤ o_r.toInt ∧ o_r.toInt ≤ 23) ∧ (0 ≤ o_r.toInt ∧ o_r.toInt ≤ p_5.toInt) ∧ (0 ≤ o_la.toInt ∧ o_la.toInt ≤ 4840) ∧ (0 ≤ o_bk.toInt ∧ o_bk.toInt ≤ 1) ∧ (r = o_r) ∧ (u = [(b_o, (oc12 u_th u_sa b_rf b_ro b_im b_ke u_fd b_tp u_td u_fr u_to u_so u_wo u_fa u_bd u_nc b_nl u_co b_op b_ar u_le b_pi b_pa u_pd u_od b_ws b_hw o_la b_se b_re o_bk o_va o_su u_ce u_ho u_wy u_bt u_ps b_pt u_tg u_sn b_ip u_ic b_ah b_be b_me u_wd b_tr b_ld u_st b_wn u_id)), (b_ro, (arI G 5740 v_ro)), (b_se, (arJ G 13 o_se)), (b_re, (arJ G 400 o_re))]))) (g5_B G (va_A [(b_o, (oc12 u_th u_sa b_rf b_ro b_im b_ke u_fd b_tp u_td u_fr u_to u_so u_wo u_fa u_bd u_nc b_nl u_co b_op b_ar u_le b_pi b_pa u_pd u_od b_ws b_hw u_la b_se b_re u_bk u_va u_su u_ce u_ho u_wy u_bt u_ps b_pt u_tg u_sn b_ip u_ic b_ah b_be b_me u_wd b_tr b_ld u_st b_wn u_id)), (b_ro, (arI G 5740 v_ro)), (b_se, (arJ G 13 v_se)), (b_re, (arJ G 400 v_re))] sz)) (va_A [(b_o, (oc12 u_th u_sa b_rf b_ro b_im b_ke u_fd b_tp u_td u_fr u_to u_so u_wo u_fa u_bd u_nc b_nl u_co b_op b_ar u_le b_pi b_pa u_pd u_od b_ws b_hw u_la b_se b_re u_bk u_va u_su u_ce u_ho u_wy u_bt u_ps b_pt u_tg u_sn b_ip u_ic b_ah b_be b_me u_wd b_tr b_ld u_st b_wn u_id)), (b_ro, (arI G 5740 v_ro)), (b_se, (arJ G 13 v_se)), (b_re, (arJ G 400 v_re))] sz)) 0 0 (va_A [(b_o, (oc12 u_th u_sa b_rf b_ro b_im b_ke u_fd b_tp u_td u_fr u_to u_so u_wo u_fa u_bd u_nc b_nl u_co b_op b_ar u_le b_pi b_pa u_pd u_od b_ws b_hw u_la b_se b_re u_bk u_va u_su u_ce u_ho u_wy u_bt u_ps b_pt u_tg u_sn b_ip u_ic b_ah b_be b_me u_wd b_tr b_ld u_st b_wn u_id)), (b_ro, (arI G 5740 v_ro)), (b_se, (arJ G 13 v_se)), (b_re, (arJ G 400 v_re))] sz) := by
  refine Met.ofW (cc := cX12_asks) (maxL := 10) (ret := (some .int)) (by decide) rfl ?_
  intro p e s m args below meth c s₁ B hml hv
  obtain ⟨rfl, hsz, hP, hK, hD0, hN, hT⟩ := hv
  have hx := B.exec
  have hb := B.bytes
  have hr := B.returns
  have hts : ∀ w ∈ tblG, w.before _ s = true := fun w h => atoms_spec (ws := (wsG yX12_asks cX12_asks 10 (some .int))) B.pre w (List.mem_cons_of_mem _ h)
  have hown : s.vm.findClass RX12 = some m.cls := findClass_of_methodNamed B.named
  have hlocks := B.notSynchronized
  subst hsz
  have hD := hD0.self (sz := s.heap.size)
  generalize hAe : va_A [(b_o, (oc12 u_th u_sa b_rf b_ro b_im b_ke u_fd b_tp u_td u_fr u_to u_so u_wo u_fa u_bd u_nc b_nl u_co b_op b_ar u_le b_pi b_pa u_pd u_od b_ws b_hw u_la b_se b_re u_bk u_va u_su u_ce u_ho u_wy u_bt u_ps b_pt u_tg u_sn b_ip u_ic b_ah b_be b_me u_wd b_tr b_ld u_st b_wn u_id)), (b_ro, (arI G 5740 v_ro)), (b_se, (arJ G 13 v_se)), (b_re, (arJ G 400 v_re))] s.heap.size = A at hD hT ⊢
  have hA : ∀ q : Nat, s.heap.size ≤ q → A q := fun q h => by rw [← hAe]; exact Or.inr h
  have hS : va_S A s.heap s.heap [] := va_S.rf
  have hP : va_P G.1 vwCl [(b_o, (oc12 u_th u_sa b_rf b_ro b_im b_ke u_fd b_tp u_td u_fr u_to u_so u_wo u_fa u_bd u_nc b_nl u_co b_op b_ar u_le b_pi b_pa u_pd u_od b_ws b_hw u_la b_se b_re u_bk u_va u_su u_ce u_ho u_wy u_bt u_ps b_pt u_tg u_sn b_ip u_ic b_ah b_be b_me u_wd b_tr b_ld u_st b_wn u_id)), (b_ro, (arI G 5740 v_ro)), (b_se, (arJ G 13 v_se)), (b_re, (arJ G 400 v_re))] s.heap := hP
  have hl := lv_entry ([.ref b_o, .int p_1, .int p_2, .int p_3, .int p_4, .int p_5]) (n := 10) (Nat.le_of_ble_eq_true rfl)
  rw [lg_entry_eq]
  generalize (lg_sl ([.ref b_o, .int p_1, .int p_2, .int p_3, .int p_4, .int p_5]) ++ List.replicate (10 - (lg_sl ([.ref b_o, .int p_1, .int p_2, .int p_3, .int p_4, .int p_5])).length) Slot.unset).toArray = ls at hl ⊢
  have hl : lv_has ls 10 [(0, .ref b_o), (1, .int p_1), (2, .int p_2), (3, .int p_3), (4, .int p_4), (5, .int p_5)] := hl
  refine lv_aload_n hx hb dX12_asks_0 rfl (lv_at hl 0 rfl) ?_
  refine va_get (D := G.1) (ci := 12) (v := .ref b_ro) (C := RX12) (T := TX12) (N := 52) hx hb hts inG_X12 hown hK hP 0 rfl rfl 3 (by decide) (hts _ fl_X12_13) (fun _ h9 => h9) rfl dX12_asks_1 ?_
  refine lv_iconst (v := 3) hx hb dX12_asks_4 (by decide) ?_
  refine va_iald hx hb hK hP 1 0 rfl rfl (i := 3) (by unfold vp_in; decide) dX12_asks_5 ?_
  refine g5_ti (v := (v_ro 3)) rfl ?_
  have hr_1 : (-1) ≤ (v_ro 3).toInt ∧ (v_ro 3).toInt ≤ 5 := mi_3 r_ro
  refine lv_iconst (v := (-1)) hx hb dX12_asks_6 (by decide) ?_
  refine lv_icmp_ne (tgt := 13) hx hb dX12_asks_7 (by decide) (fun c_2 => ?_) (fun c_2 => ?_)
  ·
    have n_2 : gNe ((v_ro 3).toInt) ((-1)) := by have z := g5_ne (a := (v_ro 3).toInt) (b := (-1)) (by rfl) (by decide) c_2; unfold gNe; omega
    have i_2 : (v_ro 3).toInt ≥ 0 := by have z := g5_ne (a := (v_ro 3).toInt) (b := (-1)) (by rfl) (by decide) c_2; omega
    refine lv_aload_n hx hb dX12_asks_13 rfl (lv_at hl 0 rfl) ?_
    refine lv_sipush (v := 340) hx hb dX12_asks_14 (by decide) ?_
    refine lv_sipush (v := 900) hx hb dX12_asks_17 (by decide) ?_
    refine lv_aload_n hx hb dX12_asks_20 rfl (lv_at hl 0 rfl) ?_
    refine va_get (D := G.1) (ci := 12) (v := .ref b_ro) (C := RX12) (T := TX12) (N := 52) hx hb hts inG_X12 hown hK hP 0 rfl rfl 3 (by decide) (hts _ fl_X12_13) (fun _ h9 => h9) rfl dX12_asks_21 ?_
    refine lv_iconst (v := 3) hx hb dX12_asks_24 (by decide) ?_
    refine va_iald hx hb hK hP 1 0 rfl rfl (i := 3) (by unfold vp_in; decide) dX12_asks_25 ?_
    refine g5_ti (v := (v_ro 3)) rfl ?_
    have hr_3 : (-1) ≤ (v_ro 3).toInt ∧ (v_ro 3).toInt ≤ 5 := mi_3 r_ro
    refine lv_imul hx hb dX12_asks_26 ?_
    have t_4 : (900 * (v_ro 3)).toInt = 900 * (v_ro 3).toInt := g5_imul (a := 900) (b := (v_ro 3).toInt) (by decide) (by rfl) (by omega) (by omega)
    refine lv_iadd hx hb dX12_asks_27 ?_
    have t_5 : (340 + (900 * (v_ro 3))).toInt = 340 + (900 * (v_ro 3)).toInt := g5_iadd (a := 340) (b := (900 * (v_ro 3)).toInt) (by decide) (by rfl) (by omega) (by omega)
    refine va_put (D := G.1) (ci := 12) (v := .int (340 + (900 * (v_ro 3)))) (ty := .int) (C := RX12) (T := TX12) (N := 52) hx hb hts inG_X12 tyX12 tyX12_ok nmX12 hown hK hP hD hS 0 rfl rfl 27 (by decide) (hts _ fl_X12_329) (fun _ h9 => h9) rfl (by decide +kernel) rfl rfl (Nat.le_of_ble_eq_true rfl) dX12_asks_28 (fun H locs hP hD hS => ?_)
    refine g5_rs [(b_o, (oc12 u_th u_sa b_rf b_ro b_im b_ke u_fd b_tp u_td u_fr u_to u_so u_wo u_fa u_bd u_nc b_nl u_co b_op b_ar u_le b_pi b_pa u_pd u_od b_ws b_hw (340 + (900 * (v_ro 3))) b_se b_re u_bk u_va u_su u_ce u_ho u_wy u_bt u_ps b_pt u_tg u_sn b_ip u_ic b_ah b_be b_me u_wd b_tr b_ld u_st b_wn u_id)), (b_ro, (arI G 5740 v_ro)), (b_se, (arJ G 13 v_se)), (b_re, (arJ G 400 v_re))] hP hD (fun hP hD => ?_)
    refine lv_aload_n hx hb dX12_asks_31 rfl (lv_at hl 0 rfl) ?_
    refine va_get (D := G.1) (ci := 12) (v := .ref b_se) (C := RX12) (T := TX12) (N := 52) hx hb hts inG_X12 hown hK hP 0 rfl rfl 28 (by decide) (hts _ fl_X12_76) (fun _ h9 => h9) rfl dX12_asks_32 ?_
    refine lv_iconst (v := 1) hx hb dX12_asks_35 (by decide) ?_
    refine lv_iload_n hx hb dX12_asks_36 rfl (lv_at hl 2 rfl) ?_
    refine lv_i2l (v := p_2.toInt64) hx hb dX12_asks_37 rfl ?_
    refine va_last hx hb hK hP hD hS 2 1 rfl rfl (i := 1) (x := p_2.toInt64) (by unfold vp_in; decide) dX12_asks_38 (fun H locs hP hD hS => ?_)
    refine g5_rs [(b_o, (oc12 u_th u_sa b_rf b_ro b_im b_ke u_fd b_tp u_td u_fr u_to u_so u_wo u_fa u_bd u_nc b_nl u_co b_op b_ar u_le b_pi b_pa u_pd u_od b_ws b_hw (340 + (900 * (v_ro 3))) b_se b_re u_bk u_va u_su u_ce u_ho u_wy u_bt u_ps b_pt u_tg u_sn b_ip u_ic b_ah b_be b_me u_wd b_tr b_ld u_st b_wn u_id)), (b_ro, (arI G 5740 v_ro)), (b_se, (arJ G 13 (vp_updL v_se 1 p_2.toInt64))), (b_re, (arJ G 400 v_re))] hP hD (fun hP hD => ?_)
    refine lv_aload_n hx hb dX12_asks_39 rfl (lv_at hl 0 rfl) ?_
    refine va_get (D := G.1) (ci := 12) (v := .ref b_se) (C := RX12) (T := TX12) (N := 52) hx hb hts inG_X12 hown hK hP 0 rfl rfl 28 (by decide) (hts _ fl_X12_76) (fun _ h9 => h9) rfl dX12_asks_40 ?_
    refine lv_iconst (v := 2) hx hb dX12_asks_43 (by decide) ?_
    refine lv_aload_n hx hb dX12_asks_44 rfl (lv_at hl 0 rfl) ?_
    refine va_get (D := G.1) (ci := 12) (v := .int u_ce) (C := RX12) (T := TX12) (N := 52) hx hb hts inG_X12 hown hK hP 0 rfl rfl 33 (by decide) (hts _ fl_X12_349) (fun _ h9 => h9) rfl dX12_asks_45 ?_
    refine lv_bipush (v := 8) hx hb dX12_asks_48 (by decide) ?_
    refine lv_irem hx hb dX12_asks_50 (by decide) ?_
    have t_6 : (u_ce - u_ce / 8 * 8).toInt = u_ce.toInt % 8 := g5_irem (a := u_ce.toInt) (b := 8) rfl (by decide) (by omega) (by decide)
    refine lv_i2l (v := (u_ce - u_ce / 8 * 8).toInt64) hx hb dX12_asks_51 rfl ?_
    refine va_last hx hb hK hP hD hS 2 1 rfl rfl (i := 2) (x := (u_ce - u_ce / 8 * 8).toInt64) (by unfold vp_in; decide) dX12_asks_52 (fun H locs hP hD hS => ?_)
    refine g5_rs [(b_o, (oc12 u_th u_sa b_rf b_ro b_im b_ke u_fd b_tp u_td u_fr u_to u_so u_wo u_fa u_bd u_nc b_nl u_co b_op b_ar u_le b_pi b_pa u_pd u_od b_ws b_hw (340 + (900 * (v_ro 3))) b_se b_re u_bk u_va u_su u_ce u_ho u_wy u_bt u_ps b_pt u_tg u_sn b_ip u_ic b_ah b_be b_me u_wd b_tr b_ld u_st b_wn u_id)), (b_ro, (arI G 5740 v_ro)), (b_se, (arJ G 13 (vp_updL (vp_updL v_se 1 p_2.toInt64) 2 ((u_ce - u_ce / 8 * 8).toInt64)))), (b_re, (arJ G 400 v_re))] hP hD (fun hP hD => ?_)
    refine lv_aload_n hx hb dX12_asks_53 rfl (lv_at hl 0 rfl) ?_
    refine va_get (D := G.1) (ci := 12) (v := .ref b_se) (C := RX12) (T := TX12) (N := 52) hx hb hts inG_X12 hown hK hP 0 rfl rfl 28 (by decide) (hts _ fl_X12_76) (fun _ h9 => h9) rfl dX12_asks_54 ?_
    refine lv_iconst (v := 3) hx hb dX12_asks_57 (by decide) ?_
    refine lv_aload_n hx hb dX12_asks_58 rfl (lv_at hl 0 rfl) ?_
    refine va_get (D := G.1) (ci := 12) (v := .int u_ce) (C := RX12) (T := TX12) (N := 52) hx hb hts inG_X12 hown hK hP 0 rfl rfl 33 (by decide) (hts _ fl_X12_349) (fun _ h9 => h9) rfl dX12_asks_59 ?_
    refine lv_bipush (v := 8) hx hb dX12_asks_62 (by decide) ?_
    refine lv_idiv hx hb dX12_asks_64 (by decide) ?_
    have t_7 : (u_ce / 8).toInt = u_ce.toInt / 8 := g5_idiv (a := u_ce.toInt) (b := 8) rfl (by decide) (by omega) (by decide)
    refine lv_i2l (v := (u_ce / 8).toInt64) hx hb dX12_asks_65 rfl ?_
    refine va_last hx hb hK hP hD hS 2 1 rfl rfl (i := 3) (x := (u_ce / 8).toInt64) (by unfold vp_in; decide) dX12_asks_66 (fun H locs hP hD hS => ?_)
    refine g5_rs [(b_o, (oc12 u_th u_sa b_rf b_ro b_im b_ke u_fd b_tp u_td u_fr u_to u_so u_wo u_fa u_bd u_nc b_nl u_co b_op b_ar u_le b_pi b_pa u_pd u_od b_ws b_hw (340 + (900 * (v_ro 3))) b_se b_re u_bk u_va u_su u_ce u_ho u_wy u_bt u_ps b_pt u_tg u_sn b_ip u_ic b_ah b_be b_me u_wd b_tr b_ld u_st b_wn u_id)), (b_ro, (arI G 5740 v_ro)), (b_se, (arJ G 13 (vp_updL (vp_updL (vp_updL v_se 1 p_2.toInt64) 2 ((u_ce - u_ce / 8 * 8).toInt64)) 3 ((u_ce / 8).toInt64)))), (b_re, (arJ G 400 v_re))] hP hD (fun hP hD => ?_)
    refine lv_aload_n hx hb dX12_asks_67 rfl (lv_at hl 0 rfl) ?_
    refine va_get (D := G.1) (ci := 12) (v := .ref b_se) (C := RX12) (T := TX12) (N := 52) hx hb hts inG_X12 hown hK hP 0 rfl rfl 28 (by decide) (hts _ fl_X12_76) (fun _ h9 => h9) rfl dX12_asks_68 ?_
    refine lv_iconst (v := 4) hx hb dX12_asks_71 (by decide) ?_
    refine lv_aload_n hx hb dX12_asks_72 rfl (lv_at hl 0 rfl) ?_
    refine va_get (D := G.1) (ci := 12) (v := .int u_ho) (C := RX12) (T := TX12) (N := 52) hx hb hts inG_X12 hown hK hP 0 rfl rfl 34 (by decide) (hts _ fl_X12_352) (fun _ h9 => h9) rfl dX12_asks_73 ?_
    refine lv_i2l (v := u_ho.toInt64) hx hb dX12_asks_76 rfl ?_
    refine va_last hx hb hK hP hD hS 2 1 rfl rfl (i := 4) (x := u_ho.toInt64) (by unfold vp_in; decide) dX12_asks_77 (fun H locs hP hD hS => ?_)
    refine g5_rs [(b_o, (oc12 u_th u_sa b_rf b_ro b_im b_ke u_fd b_tp u_td u_fr u_to u_so u_wo u_fa u_bd u_nc b_nl u_co b_op b_ar u_le b_pi b_pa u_pd u_od b_ws b_hw (340 + (900 * (v_ro 3))) b_se b_re u_bk u_va u_su u_ce u_ho u_wy u_bt u_ps b_pt u_tg u_sn b_ip u_ic b_ah b_be b_me u_wd b_tr b_ld u_st b_wn u_id)), (b_ro, (arI G 5740 v_ro)), (b_se, (arJ G 13 (vp_updL (vp_updL (vp_updL (vp_updL v_se 1 p_2.toInt64) 2 ((u_ce - u_ce / 8 * 8).toInt64)) 3 ((u_ce / 8).toInt64)) 4 u_ho.toInt64))), (b_re, (arJ G 400 v_re))] hP hD (fun hP hD => ?_)
    refine lv_aload_n hx hb dX12_asks_78 rfl (lv_at hl 0 rfl) ?_
    refine va_get (D := G.1) (ci := 12) (v := .ref b_se) (C := RX12) (T := TX12) (N := 52) hx hb hts inG_X12 hown hK hP 0 rfl rfl 28 (by decide) (hts _ fl_X12_76) (fun _ h9 => h9) rfl dX12_asks_79 ?_
    refine lv_iconst (v := 5) hx hb dX12_asks_82 (by decide) ?_
    refine lv_aload_n hx hb dX12_asks_83 rfl (lv_at hl 0 rfl) ?_
    refine va_get (D := G.1) (ci := 12) (v := .int u_wy) (C := RX12) (T := TX12) (N := 52) hx hb hts inG_X12 hown hK hP 0 rfl rfl 35 (by decide) (hts _ fl_X12_355) (fun _ h9 => h9) rfl dX12_asks_84 ?_
    refine lv_i2l (v := u_wy.toInt64) hx hb dX12_asks_87 rfl ?_
    refine va_last hx hb hK hP hD hS 2 1 rfl rfl (i := 5) (x := u_wy.toInt64) (by unfold vp_in; decide) dX12_asks_88 (fun H locs hP hD hS => ?_)
    refine g5_rs [(b_o, (oc12 u_th u_sa b_rf b_ro b_im b_ke u_fd b_tp u_td u_fr u_to u_so u_wo u_fa u_bd u_nc b_nl u_co b_op b_ar u_le b_pi b_pa u_pd u_od b_ws b_hw (340 + (900 * (v_ro 3))) b_se b_re u_bk u_va u_su u_ce u_ho u_wy u_bt u_ps b_pt u_tg u_sn b_ip u_ic b_ah b_be b_me u_wd b_tr b_ld u_st b_wn u_id)), (b_ro, (arI G 5740 v_ro)), (b_se, (arJ G 13 (vp_updL (vp_updL (vp_updL (vp_updL (vp_updL v_se 1 p_2.toInt64) 2 ((u_ce - u_ce / 8 * 8).toInt64)) 3 ((u_ce / 8).toInt64)) 4 u_ho.toInt64) 5 u_wy.toInt64))), (b_re, (arJ G 400 v_re))] hP hD (fun hP hD => ?_)
    refine lv_aload_n hx hb dX12_asks_89 rfl (lv_at hl 0 rfl) ?_
    refine va_get (D := G.1) (ci := 12) (v := .ref b_se) (C := RX12) (T := TX12) (N := 52) hx hb hts inG_X12 hown hK hP 0 rfl rfl 28 (by decide) (hts _ fl_X12_76) (fun _ h9 => h9) rfl dX12_asks_90 ?_
    refine lv_bipush (v := 6) hx hb dX12_asks_93 (by decide) ?_
    refine lv_iload_n hx hb dX12_asks_95 rfl (lv_at hl 3 rfl) ?_
    refine lv_i2l (v := p_3.toInt64) hx hb dX12_asks_96 rfl ?_
    refine va_last hx hb hK hP hD hS 2 1 rfl rfl (i := 6) (x := p_3.toInt64) (by unfold vp_in; decide) dX12_asks_97 (fun H locs hP hD hS => ?_)
    refine g5_rs [(b_o, (oc12 u_th u_sa b_rf b_ro b_im b_ke u_fd b_tp u_td u_fr u_to u_so u_wo u_fa u_bd u_nc b_nl u_co b_op b_ar u_le b_pi b_pa u_pd u_od b_ws b_hw (340 + (900 * (v_ro 3))) b_se b_re u_bk u_va u_su u_ce u_ho u_wy u_bt u_ps b_pt u_tg u_sn b_ip u_ic b_ah b_be b_me u_wd b_tr b_ld u_st b_wn u_id)), (b_ro, (arI G 5740 v_ro)), (b_se, (arJ G 13 (vp_updL (vp_updL (vp_updL (vp_updL (vp_updL (vp_updL v_se 1 p_2.toInt64) 2 ((u_ce - u_ce / 8 * 8).toInt64)) 3 ((u_ce / 8).toInt64)) 4 u_ho.toInt64) 5 u_wy.toInt64) 6 p_3.toInt64))), (b_re, (arJ G 400 v_re))] hP hD (fun hP hD => ?_)
    refine lv_aload_n hx hb dX12_asks_98 rfl (lv_at hl 0 rfl) ?_
    refine va_get (D := G.1) (ci := 12) (v := .ref b_se) (C := RX12) (T := TX12) (N := 52) hx hb hts inG_X12 hown hK hP 0 rfl rfl 28 (by decide) (hts _ fl_X12_76) (fun _ h9 => h9) rfl dX12_asks_99 ?_
    refine lv_bipush (v := 7) hx hb dX12_asks_102 (by decide) ?_
    refine lv_aload_n hx hb dX12_asks_104 rfl (lv_at hl 0 rfl) ?_
    refine va_get (D := G.1) (ci := 12) (v := .int u_ps) (C := RX12) (T := TX12) (N := 52) hx hb hts inG_X12 hown hK hP 0 rfl rfl 37 (by decide) (hts _ fl_X12_358) (fun _ h9 => h9) rfl dX12_asks_105 ?_
    refine lv_i2l (v := u_ps.toInt64) hx hb dX12_asks_108 rfl ?_
    refine va_last hx hb hK hP hD hS 2 1 rfl rfl (i := 7) (x := u_ps.toInt64) (by unfold vp_in; decide) dX12_asks_109 (fun H locs hP hD hS => ?_)
    refine g5_rs [(b_o, (oc12 u_th u_sa b_rf b_ro b_im b_ke u_fd b_tp u_td u_fr u_to u_so u_wo u_fa u_bd u_nc b_nl u_co b_op b_ar u_le b_pi b_pa u_pd u_od b_ws b_hw (340 + (900 * (v_ro 3))) b_se b_re u_bk u_va u_su u_ce u_ho u_wy u_bt u_ps b_pt u_tg u_sn b_ip u_ic b_ah b_be b_me u_wd b_tr b_ld u_st b_wn u_id)), (b_ro, (arI G 5740 v_ro)), (b_se, (arJ G 13 (vp_updL (vp_updL (vp_updL (vp_updL (vp_updL (vp_updL (vp_updL v_se 1 p_2.toInt64) 2 ((u_ce - u_ce / 8 * 8).toInt64)) 3 ((u_ce / 8).toInt64)) 4 u_ho.toInt64) 5 u_wy.toInt64) 6 p_3.toInt64) 7 u_ps.toInt64))), (b_re, (arJ G 400 v_re))] hP hD (fun hP hD => ?_)
    refine lv_aload_n hx hb dX12_asks_110 rfl (lv_at hl 0 rfl) ?_
    refine va_get (D := G.1) (ci := 12) (v := .ref b_se) (C := RX12) (T := TX12) (N := 52) hx hb hts inG_X12 hown hK hP 0 rfl rfl 28 (by decide) (hts _ fl_X12_76) (fun _ h9 => h9) rfl dX12_asks_111 ?_
    refine lv_bipush (v := 8) hx hb dX12_asks_114 (by decide) ?_
    refine lv_aload_n hx hb dX12_asks_116 rfl (lv_at hl 0 rfl) ?_
    refine va_get (D := G.1) (ci := 12) (v := .int u_bt) (C := RX12) (T := TX12) (N := 52) hx hb hts inG_X12 hown hK hP 0 rfl rfl 36 (by decide) (hts _ fl_X12_361) (fun _ h9 => h9) rfl dX12_asks_117 ?_
    refine lv_sipush (v := 1000) hx hb dX12_asks_120 (by decide) ?_
    refine lv_idiv hx hb dX12_asks_123 (by decide) ?_
    have t_8 : (u_bt / 1000).toInt = u_bt.toInt / 1000 := g5_idiv (a := u_bt.toInt) (b := 1000) rfl (by decide) (by omega) (by decide)
    refine lv_i2l (v := (u_bt / 1000).toInt64) hx hb dX12_asks_124 rfl ?_
    refine va_last hx hb hK hP hD hS 2 1 rfl rfl (i := 8) (x := (u_bt / 1000).toInt64) (by unfold vp_in; decide) dX12_asks_125 (fun H locs hP hD hS => ?_)
    refine g5_rs [(b_o, (oc12 u_th u_sa b_rf b_ro b_im b_ke u_fd b_tp u_td u_fr u_to u_so u_wo u_fa u_bd u_nc b_nl u_co b_op b_ar u_le b_pi b_pa u_pd u_od b_ws b_hw (340 + (900 * (v_ro 3))) b_se b_re u_bk u_va u_su u_ce u_ho u_wy u_bt u_ps b_pt u_tg u_sn b_ip u_ic b_ah b_be b_me u_wd b_tr b_ld u_st b_wn u_id)), (b_ro, (arI G 5740 v_ro)), (b_se, (arJ G 13 (vp_updL (vp_updL (vp_updL (vp_updL (vp_updL (vp_updL (vp_updL (vp_updL v_se 1 p_2.toInt64) 2 ((u_ce - u_ce / 8 * 8).toInt64)) 3 ((u_ce / 8).toInt64)) 4 u_ho.toInt64) 5 u_wy.toInt64) 6 p_3.toInt64) 7 u_ps.toInt64) 8 ((u_bt / 1000).toInt64)))), (b_re, (arJ G 400 v_re))] hP hD (fun hP hD => ?_)
    refine lv_iload hx hb dX12_asks_126 (lv_at hl 4 rfl) ?_
    refine lv_i2l (v := p_4.toInt64) hx hb dX12_asks_128 rfl ?_
    refine lv_lstore (lv' := [(6, .long p_4.toInt64), (0, .ref b_o), (1, .int p_1), (2, .int p_2), (3, .int p_3), (4, .int p_4), (5, .int p_5)]) hx hb dX12_asks_129 hl (by decide) rfl (fun ls hl => ?_)
    have hLW := r_ro.2.2.2 (v_ro 3).toInt.toNat (by have zq := r_ro.2.2.1; omega)
    have hT9 : (340 + (900 * (v_ro 3))).toNatClampNeg = 340 + 900 * (v_ro 3).toInt.toNat := by have zz := g5_clamp (340 + (900 * (v_ro 3))); omega
    rw [← hT9] at hLW
    have hz9 : ((340 + (900 * (v_ro 3))) + 1).toNatClampNeg = (340 + (900 * (v_ro 3))).toNatClampNeg + 1 := g_clk (n := 1) (by decide) (by omega) (by omega) (by decide)
    refine lv_iconst (v := 0) hx hb dX12_asks_131 (by decide) ?_
    refine lv_istore (lv' := [(8, .int 0), (6, .long p_4.toInt64), (0, .ref b_o), (1, .int p_1), (2, .int p_2), (3, .int p_3), (4, .int p_4), (5, .int p_5)]) hx hb dX12_asks_132 hl (by decide) rfl (fun ls hl => ?_)
    refine g5_loop (α := (Int32) × (Int64) × (Int32) × (Int64) × (Int64) × (Nat → Int64)) (fun (q : (Int32) × (Int64) × (Int32) × (Int64) × (Int64) × (Nat → Int64)) (ls : Array Slot) (H : Heap) (locs : List Loc) => match q with | (k134_8, k134_6, k134_bk, k134_va, k134_su, k134_re) => lv_has ls 10 [(6, .long k134_6), (8, .int k134_8), (0, .ref b_o), (1, .int p_1), (2, .int p_2), (3, .int p_3), (4, .int p_4), (5, .int p_5)] ∧ va_P G.1 vwCl [(b_o, (oc12 u_th u_sa b_rf b_ro b_im b_ke u_fd b_tp u_td u_fr u_to u_so u_wo u_fa u_bd u_nc b_nl u_co b_op b_ar u_le b_pi b_pa u_pd u_od b_ws b_hw (340 + (900 * (v_ro 3))) b_se b_re k134_bk k134_va k134_su u_ce u_ho u_wy u_bt u_ps b_pt u_tg u_sn b_ip u_ic b_ah b_be b_me u_wd b_tr b_ld u_st b_wn u_id)), (b_ro, (arI G 5740 v_ro)), (b_se, (arJ G 13 (vp_updL (vp_updL (vp_updL (vp_updL (vp_updL (vp_updL (vp_updL (vp_updL v_se 1 p_2.toInt64) 2 ((u_ce - u_ce / 8 * 8).toInt64)) 3 ((u_ce / 8).toInt64)) 4 u_ho.toInt64) 5 u_wy.toInt64) 6 p_3.toInt64) 7 u_ps.toInt64) 8 ((u_bt / 1000).toInt64)))), (b_re, (arJ G 400 k134_re))] H ∧ va_D A [(b_o, (oc12 u_th u_sa b_rf b_ro b_im b_ke u_fd b_tp u_td u_fr u_to u_so u_wo u_fa u_bd u_nc b_nl u_co b_op b_ar u_le b_pi b_pa u_pd u_od b_ws b_hw (340 + (900 * (v_ro 3))) b_se b_re k134_bk k134_va k134_su u_ce u_ho u_wy u_bt u_ps b_pt u_tg u_sn b_ip u_ic b_ah b_be b_me u_wd b_tr b_ld u_st b_wn u_id)), (b_ro, (arI G 5740 v_ro)), (b_se, (arJ G 13 (vp_updL (vp_updL (vp_updL (vp_updL (vp_updL (vp_updL (vp_updL (vp_updL v_se 1 p_2.toInt64) 2 ((u_ce - u_ce / 8 * 8).toInt64)) 3 ((u_ce / 8).toInt64)) 4 u_ho.toInt64) 5 u_wy.toInt64) 6 p_3.toInt64) 7 u_ps.toInt64) 8 ((u_bt / 1000).toInt64)))), (b_re, (arJ G 400 k134_re))] ∧ va_S A s.heap H locs ∧ (0 ≤ k134_8.toInt ∧ k134_8.toInt ≤ 12) ∧ (0 ≤ k134_bk.toInt ∧ k134_bk.toInt ≤ 1)) (fun (q : (Int32) × (Int64) × (Int32) × (Int64) × (Int64) × (Nat → Int64)) => match q with | (k134_8, k134_6, k134_bk, k134_va, k134_su, k134_re) => Int.toNat (12 - k134_8.toInt)) (0, p_4.toInt64, u_bk, u_va, u_su, v_re) ⟨lv_sub hl [1, 0, 2, 3, 4, 5, 6, 7] rfl, hP, hD, hS, ⟨by decide, by decide⟩, h_u_bk⟩ ?_
    rintro ⟨k134_8, k134_6, k134_bk, k134_va, k134_su, k134_re⟩ ls H locs ⟨hl, hP, hD, hS, i_9, i_10⟩ ih_134_11
    have hl : lv_has ls 10 [(6, .long k134_6), (8, .int k134_8), (0, .ref b_o), (1, .int p_1), (2, .int p_2), (3, .int p_3), (4, .int p_4), (5, .int p_5)] := hl
    have i_9 : 0 ≤ k134_8.toInt ∧ k134_8.toInt ≤ 12 := i_9
    have i_10 : 0 ≤ k134_bk.toInt ∧ k134_bk.toInt ≤ 1 := i_10
    refine g5_rs [(b_o, (oc12 u_th u_sa b_rf b_ro b_im b_ke u_fd b_tp u_td u_fr u_to u_so u_wo u_fa u_bd u_nc b_nl u_co b_op b_ar u_le b_pi b_pa u_pd u_od b_ws b_hw (340 + (900 * (v_ro 3))) b_se b_re k134_bk k134_va k134_su u_ce u_ho u_wy u_bt u_ps b_pt u_tg u_sn b_ip u_ic b_ah b_be b_me u_wd b_tr b_ld u_st b_wn u_id)), (b_ro, (arI G 5740 v_ro)), (b_se, (arJ G 13 (vp_updL (vp_updL (vp_updL (vp_updL (vp_updL (vp_updL (vp_updL (vp_updL v_se 1 p_2.toInt64) 2 ((u_ce - u_ce / 8 * 8).toInt64)) 3 ((u_ce / 8).toInt64)) 4 u_ho.toInt64) 5 u_wy.toInt64) 6 p_3.toInt64) 7 u_ps.toInt64) 8 ((u_bt / 1000).toInt64)))), (b_re, (arJ G 400 k134_re))] hP hD (fun hP hD => ?_)
    refine lv_iload hx hb dX12_asks_134 (lv_at hl 1 rfl) ?_
    refine lv_aload_n hx hb dX12_asks_136 rfl (lv_at hl 2 rfl) ?_
    refine va_get (D := G.1) (ci := 12) (v := .ref b_ro) (C := RX12) (T := TX12) (N := 52) hx hb hts inG_X12 hown hK hP 0 rfl rfl 3 (by decide) (hts _ fl_X12_13) (fun _ h9 => h9) rfl dX12_asks_137 ?_
    refine lv_aload_n hx hb dX12_asks_140 rfl (lv_at hl 2 rfl) ?_
    refine va_get (D := G.1) (ci := 12) (v := .int (340 + (900 * (v_ro 3)))) (C := RX12) (T := TX12) (N := 52) hx hb hts inG_X12 hown hK hP 0 rfl rfl 27 (by decide) (hts _ fl_X12_329) (fun _ h9 => h9) rfl dX12_asks_141 ?_
    refine lv_iconst (v := 1) hx hb dX12_asks_144 (by decide) ?_
    refine lv_iadd hx hb dX12_asks_145 ?_
    have t_12 : ((340 + (900 * (v_ro 3))) + 1).toInt = (340 + (900 * (v_ro 3))).toInt + 1 := g5_iadd (a := (340 + (900 * (v_ro 3))).toInt) (b := 1) (by rfl) (by decide) (by omega) (by omega)
    refine va_iald hx hb hK hP 1 0 rfl rfl (i := ((340 + (900 * (v_ro 3))) + 1)) (vp_in_iff.mpr ⟨by omega, by omega⟩) dX12_asks_146 ?_
    have hc9 : 0 ≤ (v_ro ((340 + (900 * (v_ro 3))) + 1).toNatClampNeg).toInt ∧ (v_ro ((340 + (900 * (v_ro 3))) + 1).toNatClampNeg).toInt ≤ 12 := by rw [hz9]; exact hLW.1
    refine lv_icmp_ge (tgt := 205) hx hb dX12_asks_147 (by decide) (fun c_13 => ?_) (fun c_13 => ?_)
    ·
      have i_13 : k134_8.toInt ≥ (v_ro ((340 + (900 * (v_ro 3))) + 1).toNatClampNeg).toInt := by have z := g5_ge (a := k134_8.toInt) (b := (v_ro ((340 + (900 * (v_ro 3))) + 1).toNatClampNeg).toInt) (by rfl) (by rfl) c_13; omega
      refine lv_lload hx hb dX12_asks_205 (lv_at hl 0 rfl) ?_
      refine lv_lconst (v := 0) hx hb dX12_asks_207 (by decide) ?_
      refine W.lcmp hx hb dX12_asks_208 ?_
      refine lv_if_ge (tgt := 216) hx hb dX12_asks_209 (by decide) (fun c_14 => ?_) (fun c_14 => ?_)
      ·
        have i_14 : (lg_cmp k134_6 0).toInt ≥ 0 := by have z := g5_ge (a := (lg_cmp k134_6 0).toInt) (b := 0) (by rfl) (by decide) c_14; omega
        refine lv_lload hx hb dX12_asks_216 (lv_at hl 0 rfl) ?_
        refine lv_iload hx hb dX12_asks_218 (lv_at hl 7 rfl) ?_
        refine lv_i2l (v := p_5.toInt64) hx hb dX12_asks_220 rfl ?_
        refine W.lcmp hx hb dX12_asks_221 ?_
        refine lv_if_le (tgt := 230) hx hb dX12_asks_222 (by decide) (fun c_15 => ?_) (fun c_15 => ?_)
        ·
          have i_15 : (lg_cmp k134_6 p_5.toInt64).toInt ≤ 0 := by have z := g5_le (a := (lg_cmp k134_6 p_5.toInt64).toInt) (b := 0) (by rfl) (by decide) c_15; omega
          refine lv_lload hx hb dX12_asks_230 (lv_at hl 0 rfl) ?_
          refine lv_l2i (v := k134_6.toInt32) hx hb dX12_asks_232 rfl ?_
          exact W.iret (v := k134_6.toInt32) hx hb hr (fun t ht hW => ⟨⟨k134_6.toInt32, [(b_o, (oc12 u_th u_sa b_rf b_ro b_im b_ke u_fd b_tp u_td u_fr u_to u_so u_wo u_fa u_bd u_nc b_nl u_co b_op b_ar u_le b_pi b_pa u_pd u_od b_ws b_hw (340 + (900 * (v_ro 3))) b_se b_re k134_bk k134_va k134_su u_ce u_ho u_wy u_bt u_ps b_pt u_tg u_sn b_ip u_ic b_ah b_be b_me u_wd b_tr b_ld u_st b_wn u_id)), (b_ro, (arI G 5740 v_ro)), (b_se, (arJ G 13 (vp_updL (vp_updL (vp_updL (vp_updL (vp_updL (vp_updL (vp_updL (vp_updL v_se 1 p_2.toInt64) 2 ((u_ce - u_ce / 8 * 8).toInt64)) 3 ((u_ce / 8).toInt64)) 4 u_ho.toInt64) 5 u_wy.toInt64) 6 p_3.toInt64) 7 u_ps.toInt64) 8 ((u_bt / 1000).toInt64)))), (b_re, (arJ G 400 k134_re))], rfl, ⟨k134_6.toInt32, (340 + (900 * (v_ro 3))), k134_bk, k134_va, k134_su, (vp_updL (vp_updL (vp_updL (vp_updL (vp_updL (vp_updL (vp_updL (vp_updL v_se 1 p_2.toInt64) 2 ((u_ce - u_ce / 8 * 8).toInt64)) 3 ((u_ce / 8).toInt64)) 4 u_ho.toInt64) 5 u_wy.toInt64) 6 p_3.toInt64) 7 u_ps.toInt64) 8 ((u_bt / 1000).toInt64)), k134_re, by have z9 : 0 ≤ k134_6.toInt32.toInt ∧ k134_6.toInt32.toInt ≤ p_5.toInt := g_l2i (by omega) (by omega); omega, (g_l2i (m := p_5) (by omega) (by omega)), ⟨by omega, by omega⟩, i_10, rfl, rfl⟩, by rw [ht]; exact hP.sub [0, 1, 2, 3] rfl, hD.sub [0, 1, 2, 3] (by decide) rfl⟩, hS.F ht⟩) hS.2.2 dX12_asks_233
        ·
          have i_15 : (lg_cmp k134_6 p_5.toInt64).toInt > 0 := by have z := g5_leN (a := (lg_cmp k134_6 p_5.toInt64).toInt) (b := 0) (by rfl) (by decide) c_15; omega
          refine lv_iload hx hb dX12_asks_225 (lv_at hl 7 rfl) ?_
          refine lv_goto (tgt := 233) hx hb dX12_asks_227 (by decide) ?_
          exact W.iret (v := p_5) hx hb hr (fun t ht hW => ⟨⟨p_5, [(b_o, (oc12 u_th u_sa b_rf b_ro b_im b_ke u_fd b_tp u_td u_fr u_to u_so u_wo u_fa u_bd u_nc b_nl u_co b_op b_ar u_le b_pi b_pa u_pd u_od b_ws b_hw (340 + (900 * (v_ro 3))) b_se b_re k134_bk k134_va k134_su u_ce u_ho u_wy u_bt u_ps b_pt u_tg u_sn b_ip u_ic b_ah b_be b_me u_wd b_tr b_ld u_st b_wn u_id)), (b_ro, (arI G 5740 v_ro)), (b_se, (arJ G 13 (vp_updL (vp_updL (vp_updL (vp_updL (vp_updL (vp_updL (vp_updL (vp_updL v_se 1 p_2.toInt64) 2 ((u_ce - u_ce / 8 * 8).toInt64)) 3 ((u_ce / 8).toInt64)) 4 u_ho.toInt64) 5 u_wy.toInt64) 6 p_3.toInt64) 7 u_ps.toInt64) 8 ((u_bt / 1000).toInt64)))), (b_re, (arJ G 400 k134_re))], rfl, ⟨p_5, (340 + (900 * (v_ro 3))), k134_bk, k134_va, k134_su, (vp_updL (vp_updL (vp_updL (vp_updL (vp_updL (vp_updL (vp_updL (vp_updL v_se 1 p_2.toInt64) 2 ((u_ce - u_ce / 8 * 8).toInt64)) 3 ((u_ce / 8).toInt64)) 4 u_ho.toInt64) 5 u_wy.toInt64) 6 p_3.toInt64) 7 u_ps.toInt64) 8 ((u_bt / 1000).toInt64)), k134_re, h_p_5, ⟨by omega, by omega⟩, ⟨by omega, by omega⟩, i_10, rfl, rfl⟩, by rw [ht]; exact hP.sub [0, 1, 2, 3] rfl, hD.sub [0, 1, 2, 3] (by decide) rfl⟩, hS.F ht⟩) hS.2.2 dX12_asks_233
      ·
        have i_14 : (lg_cmp k134_6 0).toInt < 0 := by have z := g5_geN (a := (lg_cmp k134_6 0).toInt) (b := 0) (by rfl) (by decide) c_14; omega
        refine lv_iconst (v := 0) hx hb dX12_asks_212 (by decide) ?_
        refine lv_goto (tgt := 233) hx hb dX12_asks_213 (by decide) ?_
        exact W.iret (v := 0) hx hb hr (fun t ht hW => ⟨⟨0, [(b_o, (oc12 u_th u_sa b_rf b_ro b_im b_ke u_fd b_tp u_td u_fr u_to u_so u_wo u_fa u_bd u_nc b_nl u_co b_op b_ar u_le b_pi b_pa u_pd u_od b_ws b_hw (340 + (900 * (v_ro 3))) b_se b_re k134_bk k134_va k134_su u_ce u_ho u_wy u_bt u_ps b_pt u_tg u_sn b_ip u_ic b_ah b_be b_me u_wd b_tr b_ld u_st b_wn u_id)), (b_ro, (arI G 5740 v_ro)), (b_se, (arJ G 13 (vp_updL (vp_updL (vp_updL (vp_updL (vp_updL (vp_updL (vp_updL (vp_updL v_se 1 p_2.toInt64) 2 ((u_ce - u_ce / 8 * 8).toInt64)) 3 ((u_ce / 8).toInt64)) 4 u_ho.toInt64) 5 u_wy.toInt64) 6 p_3.toInt64) 7 u_ps.toInt64) 8 ((u_bt / 1000).toInt64)))), (b_re, (arJ G 400 k134_re))], rfl, ⟨0, (340 + (900 * (v_ro 3))), k134_bk, k134_va, k134_su, (vp_updL (vp_updL (vp_updL (vp_updL (vp_updL (vp_updL (vp_updL (vp_updL v_se 1 p_2.toInt64) 2 ((u_ce - u_ce / 8 * 8).toInt64)) 3 ((u_ce / 8).toInt64)) 4 u_ho.toInt64) 5 u_wy.toInt64) 6 p_3.toInt64) 7 u_ps.toInt64) 8 ((u_bt / 1000).toInt64)), k134_re, ⟨by have zc_o_r : (0 : Int32).toInt = 0 := (by decide); omega, by have zc_o_r : (0 : Int32).toInt = 0 := (by decide); omega⟩, ⟨by have zc_o_r : (0 : Int32).toInt = 0 := (by decide); omega, by have zc_o_r : (0 : Int32).toInt = 0 := (by decide); omega⟩, ⟨by omega, by omega⟩, i_10, rfl, rfl⟩, by rw [ht]; exact hP.sub [0, 1, 2, 3] rfl, hD.sub [0, 1, 2, 3] (by decide) rfl⟩, hS.F ht⟩) hS.2.2 dX12_asks_233
    ·
      have i_13 : k134_8.toInt < (v_ro ((340 + (900 * (v_ro 3))) + 1).toNatClampNeg).toInt := by have z := g5_geN (a := k134_8.toInt) (b := (v_ro ((340 + (900 * (v_ro 3))) + 1).toNatClampNeg).toInt) (by rfl) (by rfl) c_13; omega
      refine lv_aload_n hx hb dX12_asks_150 rfl (lv_at hl 2 rfl) ?_
      refine va_get (D := G.1) (ci := 12) (v := .int (340 + (900 * (v_ro 3)))) (C := RX12) (T := TX12) (N := 52) hx hb hts inG_X12 hown hK hP 0 rfl rfl 27 (by decide) (hts _ fl_X12_329) (fun _ h9 => h9) rfl dX12_asks_151 ?_
      refine lv_iconst (v := 2) hx hb dX12_asks_154 (by decide) ?_
      refine lv_iadd hx hb dX12_asks_155 ?_
      have t_16 : ((340 + (900 * (v_ro 3))) + 2).toInt = (340 + (900 * (v_ro 3))).toInt + 2 := g5_iadd (a := (340 + (900 * (v_ro 3))).toInt) (b := 2) (by rfl) (by decide) (by omega) (by omega)
      refine lv_bipush (v := 8) hx hb dX12_asks_156 (by decide) ?_
      refine lv_iload hx hb dX12_asks_158 (lv_at hl 1 rfl) ?_
      refine lv_imul hx hb dX12_asks_160 ?_
      have t_17 : (8 * k134_8).toInt = 8 * k134_8.toInt := g5_imul (a := 8) (b := k134_8.toInt) (by decide) (by rfl) (by omega) (by omega)
      refine lv_iadd hx hb dX12_asks_161 ?_
      have t_18 : (((340 + (900 * (v_ro 3))) + 2) + (8 * k134_8)).toInt = ((340 + (900 * (v_ro 3))) + 2).toInt + (8 * k134_8).toInt := g5_iadd (a := ((340 + (900 * (v_ro 3))) + 2).toInt) (b := (8 * k134_8).toInt) (by rfl) (by rfl) (by omega) (by omega)
      refine lv_istore (lv' := [(9, .int (((340 + (900 * (v_ro 3))) + 2) + (8 * k134_8))), (6, .long k134_6), (8, .int k134_8), (0, .ref b_o), (1, .int p_1), (2, .int p_2), (3, .int p_3), (4, .int p_4), (5, .int p_5)]) hx hb dX12_asks_162 hl (by decide) rfl (fun ls hl => ?_)
      refine lv_aload_n hx hb dX12_asks_164 rfl (lv_at hl 3 rfl) ?_
      refine va_get (D := G.1) (ci := 12) (v := .ref b_ro) (C := RX12) (T := TX12) (N := 52) hx hb hts inG_X12 hown hK hP 0 rfl rfl 3 (by decide) (hts _ fl_X12_13) (fun _ h9 => h9) rfl dX12_asks_165 ?_
      refine lv_iload hx hb dX12_asks_168 (lv_at hl 0 rfl) ?_
      refine va_iald hx hb hK hP 1 0 rfl rfl (i := (((340 + (900 * (v_ro 3))) + 2) + (8 * k134_8))) (vp_in_iff.mpr ⟨by omega, by omega⟩) dX12_asks_170 ?_
      refine lv_iload_n hx hb dX12_asks_171 rfl (lv_at hl 4 rfl) ?_
      refine lv_icmp_ne (tgt := 199) hx hb dX12_asks_172 (by decide) (fun c_19 => ?_) (fun c_19 => ?_)
      ·
        have n_19 : gNe ((v_ro (((340 + (900 * (v_ro 3))) + 2) + (8 * k134_8)).toNatClampNeg).toInt) (p_1.toInt) := by have z := g5_ne (a := (v_ro (((340 + (900 * (v_ro 3))) + 2) + (8 * k134_8)).toNatClampNeg).toInt) (b := p_1.toInt) (by rfl) (by rfl) c_19; unfold gNe; omega
        refine lv_iinc (v := (k134_8 + 1)) (lv' := [(8, .int (k134_8 + 1)), (9, .int (((340 + (900 * (v_ro 3))) + 2) + (8 * k134_8))), (6, .long k134_6), (0, .ref b_o), (1, .int p_1), (2, .int p_2), (3, .int p_3), (4, .int p_4), (5, .int p_5)]) hx hb dX12_asks_199 hl (k := 2) rfl rfl (by decide) rfl (fun ls hl => ?_)
        have t_20 : (k134_8 + 1).toInt = k134_8.toInt + 1 := g5_iadd (a := k134_8.toInt) (b := 1) rfl (by decide) (by omega) (by omega)
        refine lv_goto (tgt := 134) hx hb dX12_asks_202 (by decide) ?_
        exact ih_134_11 ((k134_8 + 1), k134_6, k134_bk, k134_va, k134_su, k134_re) ls H locs (show Int.toNat (12 - (k134_8 + 1).toInt) < Int.toNat (12 - k134_8.toInt) from g_up (show k134_8.toInt < (k134_8 + 1).toInt by omega) (show k134_8.toInt < 12 by omega)) ⟨lv_sub hl [2, 0, 3, 4, 5, 6, 7, 8] rfl, hP, hD, hS, ⟨by omega, by omega⟩, i_10⟩
      ·
        have i_19 : (v_ro (((340 + (900 * (v_ro 3))) + 2) + (8 * k134_8)).toNatClampNeg).toInt = p_1.toInt := by have z := g5_neN (a := (v_ro (((340 + (900 * (v_ro 3))) + 2) + (8 * k134_8)).toNatClampNeg).toInt) (b := p_1.toInt) (by rfl) (by rfl) c_19; omega
        refine lv_aload_n hx hb dX12_asks_175 rfl (lv_at hl 3 rfl) ?_
        refine lv_iload hx hb dX12_asks_176 (lv_at hl 0 rfl) ?_
        obtain ⟨hPc, hDc, hFc⟩ := g5_sub3 (wc := [(b_o, (oc12 u_th u_sa b_rf b_ro b_im b_ke u_fd b_tp u_td u_fr u_to u_so u_wo u_fa u_bd u_nc b_nl u_co b_op b_ar u_le b_pi b_pa u_pd u_od b_ws b_hw (340 + (900 * (v_ro 3))) b_se b_re k134_bk k134_va k134_su u_ce u_ho u_wy u_bt u_ps b_pt u_tg u_sn b_ip u_ic b_ah b_be b_me u_wd b_tr b_ld u_st b_wn u_id)), (b_ro, (arI G 5740 v_ro)), (b_se, (arJ G 13 (vp_updL (vp_updL (vp_updL (vp_updL (vp_updL (vp_updL (vp_updL (vp_updL v_se 1 p_2.toInt64) 2 ((u_ce - u_ce / 8 * 8).toInt64)) 3 ((u_ce / 8).toInt64)) 4 u_ho.toInt64) 5 u_wy.toInt64) 6 p_3.toInt64) 7 u_ps.toInt64) 8 ((u_bt / 1000).toInt64)))), (b_re, (arJ G 400 k134_re))]) hP hD hS hA [0, 1, 2, 3] (by decide) rfl
        refine va_calli (va_runV (As := [.int (((340 + (900 * (v_ro 3))) + 2) + (8 * k134_8))]) (rest := []) ⟨hx, hb, hml, hown, hts⟩ (n_isSo l G b_o b_ro b_se b_re b_rf b_im b_ke b_tp b_nl b_op b_ar b_pi b_pa b_ws b_hw b_pt b_ip b_ah b_be b_me b_tr b_ld b_wn H.size u_th u_sa u_fd u_td u_fr u_to u_so u_fa u_bd u_nc u_co u_le u_pd u_od (340 + (900 * (v_ro 3))) k134_bk u_ce u_ho u_wy u_bt u_ps u_tg u_sn u_ic u_wd u_id (((340 + (900 * (v_ro 3))) + 2) + (8 * k134_8)) u_wo k134_va k134_su u_st v_ro (vp_updL (vp_updL (vp_updL (vp_updL (vp_updL (vp_updL (vp_updL (vp_updL v_se 1 p_2.toInt64) 2 ((u_ce - u_ce / 8 * 8).toInt64)) 3 ((u_ce / 8).toInt64)) 4 u_ho.toInt64) 5 u_wy.toInt64) 6 p_3.toInt64) 7 u_ps.toInt64) 8 ((u_bt / 1000).toInt64)) k134_re h_u_td h_u_fr h_u_to h_u_bd h_u_nc h_u_co h_u_pd ⟨by omega, by omega⟩ i_10 h_u_ce h_u_ho h_u_wy h_u_bt h_u_ps h_u_ic h_u_id ⟨by omega, by omega⟩ (r_ro) (by have hk9 : (((340 + (900 * (v_ro 3))) + 2) + (8 * k134_8)).toNatClampNeg = (340 + (900 * (v_ro 3))).toNatClampNeg + 2 + 8 * k134_8.toInt.toNat := (by have z1 := g5_clamp (((340 + (900 * (v_ro 3))) + 2) + (8 * k134_8)); have z2 := g5_clamp (340 + (900 * (v_ro 3))); omega); rw [hk9]; exact hLW.2 k134_8.toInt.toNat (by rw [← hz9]; omega))) (cwV 1 hts gV_X12_364 rfl rfl rfl hv_X12_isSo ⟨Nat.le_of_ble_eq_true rfl, Nat.le_of_ble_eq_true rfl⟩) (g5_preV hPc hK hDc hN hT hS hFc (ci := 12) (q0 := 0) rfl rfl) rfl rfl hl.1 rfl (lv_room (Nat.le_of_ble_eq_true rfl)) dX12_asks_178 ⟨Nat.le_of_ble_eq_true rfl, Nat.le_of_ble_eq_true rfl⟩) hS (fun q _ h => hFc q h) hFc (fun r u t H1 locs ht hvm hw hB hz1 hk1 hS => ?_)
        obtain ⟨hP1, hD1⟩ := hB
        rw [ht] at hP1
        obtain ⟨z23, z24, z25, z26, z27, i_21, i_22, y28, rfl⟩ := hw
        have i_21 : 0 ≤ z23.toInt ∧ z23.toInt ≤ 1 := i_21
        have i_22 : 0 ≤ z24.toInt ∧ z24.toInt ≤ 1 := i_22
        obtain ⟨hP, hD⟩ := va_join (wr := []) hP hD [0, 1, 2, 3] [] rfl rfl (by decide) (by decide) hk1 hFc hP1 hD1
        generalize H1 = H at hP hS ⊢
        refine g5_rs [(b_o, (oc12 u_th u_sa b_rf b_ro b_im b_ke u_fd b_tp u_td u_fr u_to u_so u_wo u_fa u_bd u_nc b_nl u_co b_op b_ar u_le b_pi b_pa u_pd u_od b_ws b_hw (340 + (900 * (v_ro 3))) b_se b_re z24 z25 z26 u_ce u_ho u_wy u_bt u_ps b_pt u_tg u_sn b_ip u_ic b_ah b_be b_me u_wd b_tr b_ld u_st b_wn u_id)), (b_ro, (arI G 5740 v_ro)), (b_se, (arJ G 13 (vp_updL (vp_updL (vp_updL (vp_updL (vp_updL (vp_updL (vp_updL (vp_updL v_se 1 p_2.toInt64) 2 ((u_ce - u_ce / 8 * 8).toInt64)) 3 ((u_ce / 8).toInt64)) 4 u_ho.toInt64) 5 u_wy.toInt64) 6 p_3.toInt64) 7 u_ps.toInt64) 8 ((u_bt / 1000).toInt64)))), (b_re, (arJ G 400 z27))] hP hD (fun hP hD => ?_)
        refine g5_ti (v := z23) y28 ?_
        refine lv_if_eq (tgt := 199) hx hb dX12_asks_181 (by decide) (fun c_29 => ?_) (fun c_29 => ?_)
        ·
          have i_29 : z23.toInt = 0 := by have z := g5_eq (a := z23.toInt) (b := 0) (by rfl) (by decide) c_29; omega
          refine lv_iinc (v := (k134_8 + 1)) (lv' := [(8, .int (k134_8 + 1)), (9, .int (((340 + (900 * (v_ro 3))) + 2) + (8 * k134_8))), (6, .long k134_6), (0, .ref b_o), (1, .int p_1), (2, .int p_2), (3, .int p_3), (4, .int p_4), (5, .int p_5)]) hx hb dX12_asks_199 hl (k := 2) rfl rfl (by decide) rfl (fun ls hl => ?_)
          have t_30 : (k134_8 + 1).toInt = k134_8.toInt + 1 := g5_iadd (a := k134_8.toInt) (b := 1) rfl (by decide) (by omega) (by omega)
          refine lv_goto (tgt := 134) hx hb dX12_asks_202 (by decide) ?_
          exact ih_134_11 ((k134_8 + 1), k134_6, z24, z25, z26, z27) ls H locs (show Int.toNat (12 - (k134_8 + 1).toInt) < Int.toNat (12 - k134_8.toInt) from g_up (show k134_8.toInt < (k134_8 + 1).toInt by omega) (show k134_8.toInt < 12 by omega)) ⟨lv_sub hl [2, 0, 3, 4, 5, 6, 7, 8] rfl, hP, hD, hS, ⟨by omega, by omega⟩, i_22⟩
        ·
          have n_29 : gNe (z23.toInt) (0) := by have z := g5_eqN (a := z23.toInt) (b := 0) (by rfl) (by decide) c_29; unfold gNe; omega
          have i_29 : z23.toInt ≥ 1 := by have z := g5_eqN (a := z23.toInt) (b := 0) (by rfl) (by decide) c_29; omega
          refine lv_iload_n hx hb dX12_asks_184 rfl (lv_at hl 4 rfl) ?_
          refine lv_iconst (v := 2) hx hb dX12_asks_185 (by decide) ?_
          refine lv_icmp_ge (tgt := 196) hx hb dX12_asks_186 (by decide) (fun c_31 => ?_) (fun c_31 => ?_)
          ·
            have i_31 : p_1.toInt ≥ 2 := by have z := g5_ge (a := p_1.toInt) (b := 2) (by rfl) (by decide) c_31; omega
            refine lv_lconst (v := 1) hx hb dX12_asks_196 (by decide) ?_
            refine lv_lstore (lv' := [(6, .long 1), (9, .int (((340 + (900 * (v_ro 3))) + 2) + (8 * k134_8))), (8, .int k134_8), (0, .ref b_o), (1, .int p_1), (2, .int p_2), (3, .int p_3), (4, .int p_4), (5, .int p_5)]) hx hb dX12_asks_197 hl (by decide) rfl (fun ls hl => ?_)
            refine lv_iinc (v := (k134_8 + 1)) (lv' := [(8, .int (k134_8 + 1)), (6, .long 1), (9, .int (((340 + (900 * (v_ro 3))) + 2) + (8 * k134_8))), (0, .ref b_o), (1, .int p_1), (2, .int p_2), (3, .int p_3), (4, .int p_4), (5, .int p_5)]) hx hb dX12_asks_199 hl (k := 2) rfl rfl (by decide) rfl (fun ls hl => ?_)
            have t_32 : (k134_8 + 1).toInt = k134_8.toInt + 1 := g5_iadd (a := k134_8.toInt) (b := 1) rfl (by decide) (by omega) (by omega)
            refine lv_goto (tgt := 134) hx hb dX12_asks_202 (by decide) ?_
            exact ih_134_11 ((k134_8 + 1), 1, z24, z25, z26, z27) ls H locs (show Int.toNat (12 - (k134_8 + 1).toInt) < Int.toNat (12 - k134_8.toInt) from g_up (show k134_8.toInt < (k134_8 + 1).toInt by omega) (show k134_8.toInt < 12 by omega)) ⟨lv_sub hl [1, 0, 3, 4, 5, 6, 7, 8] rfl, hP, hD, hS, ⟨by omega, by omega⟩, i_22⟩
          ·
            have i_31 : p_1.toInt < 2 := by have z := g5_geN (a := p_1.toInt) (b := 2) (by rfl) (by decide) c_31; omega
            refine lv_aload_n hx hb dX12_asks_189 rfl (lv_at hl 3 rfl) ?_
            refine va_get (D := G.1) (ci := 12) (v := .long z26) (C := RX12) (T := TX12) (N := 52) hx hb hts inG_X12 hown hK hP 0 rfl rfl 32 (by decide) (hts _ fl_X12_346) (fun _ h9 => h9) rfl dX12_asks_190 ?_
            refine lv_goto (tgt := 197) hx hb dX12_asks_193 (by decide) ?_
            refine lv_lstore (lv' := [(6, .long z26), (9, .int (((340 + (900 * (v_ro 3))) + 2) + (8 * k134_8))), (8, .int k134_8), (0, .ref b_o), (1, .int p_1), (2, .int p_2), (3, .int p_3), (4, .int p_4), (5, .int p_5)]) hx hb dX12_asks_197 hl (by decide) rfl (fun ls hl => ?_)
            refine lv_iinc (v := (k134_8 + 1)) (lv' := [(8, .int (k134_8 + 1)), (6, .long z26), (9, .int (((340 + (900 * (v_ro 3))) + 2) + (8 * k134_8))), (0, .ref b_o), (1, .int p_1), (2, .int p_2), (3, .int p_3), (4, .int p_4), (5, .int p_5)]) hx hb dX12_asks_199 hl (k := 2) rfl rfl (by decide) rfl (fun ls hl => ?_)
            have t_33 : (k134_8 + 1).toInt = k134_8.toInt + 1 := g5_iadd (a := k134_8.toInt) (b := 1) rfl (by decide) (by omega) (by omega)
            refine lv_goto (tgt := 134) hx hb dX12_asks_202 (by decide) ?_
            exact ih_134_11 ((k134_8 + 1), z26, z24, z25, z26, z27) ls H locs (show Int.toNat (12 - (k134_8 + 1).toInt) < Int.toNat (12 - k134_8.toInt) from g_up (show k134_8.toInt < (k134_8 + 1).toInt by omega) (show k134_8.toInt < 12 by omega)) ⟨lv_sub hl [1, 0, 3, 4, 5, 6, 7, 8] rfl, hP, hD, hS, ⟨by omega, by omega⟩, i_22⟩
  ·
    have i_2 : (v_ro 3).toInt = (-1) := by have z := g5_neN (a := (v_ro 3).toInt) (b := (-1)) (by rfl) (by decide) c_2; omega
    refine lv_iload hx hb dX12_asks_10 (lv_at hl 4 rfl) ?_
    exact W.iret (v := p_4) hx hb hr (fun t ht hW => ⟨⟨p_4, [(b_o, (oc12 u_th u_sa b_rf b_ro b_im b_ke u_fd b_tp u_td u_fr u_to u_so u_wo u_fa u_bd u_nc b_nl u_co b_op b_ar u_le b_pi b_pa u_pd u_od b_ws b_hw u_la b_se b_re u_bk u_va u_su u_ce u_ho u_wy u_bt u_ps b_pt u_tg u_sn b_ip u_ic b_ah b_be b_me u_wd b_tr b_ld u_st b_wn u_id)), (b_ro, (arI G 5740 v_ro)), (b_se, (arJ G 13 v_se)), (b_re, (arJ G 400 v_re))], rfl, ⟨p_4, u_la, u_bk, u_va, u_su, v_se, v_re, h_p_4, ⟨by omega, by omega⟩, h_u_la, h_u_bk, rfl, rfl⟩, by rw [ht]; exact hP.sub [0, 1, 2, 3] rfl, hD.sub [0, 1, 2, 3] (by decide) rfl⟩, hS.F ht⟩) hS.2.2 dX12_asks_12
theorem dgX12_isFree_0 : ∀ r ∈ ([(0, (.iconst 0, 1)), (1, (.istore_n 1, 1)), (2, (.iload_n 1, 1)), (3, (.aload_n 0, 1)), (4, (.getfield 13, 3)), (7, (.iconst 1, 1)), (8, (.iaload, 1)), (9, (.if_icmp .ge 44, 3)), (12, (.aload_n 0, 1)), (13, (.iload_n 1, 1)), (14, (.aload_n 0, 1)), (15, (.getfield 352, 3)), (18, (.invokevirtual 187, 3)), (21, (.aload_n 0, 1)), (22, (.getfield 349, 3)), (25, (.if_icmp .ne 22, 3)), (28, (.aload_n 0, 1)), (29, (.iconst 3, 1)), (30, (.iconst (-1), 1)), (31, (.iload_n 1, 1)), (32, (.iconst 0, 1)), (33, (.iconst 1, 1)), (34, (.invokevirtual 383, 3)), (37, (.ifCond .ne 10, 3)), (40, (.aload_n 0, 1)), (41, (.iload_n 1, 1)), (42, (.putfield 371, 3)), (45, (.iconst 0, 1)), (46, (.ireturn, 1)), (47, (.iinc 1 1, 3)), (50, (.goto (-48), 3)), (53, (.iconst 1, 1)), (54, (.ireturn, 1))] : List (Nat × (Instr × Nat))), decode cX12_isFree r.1 = .ok r.2 := by decide +kernel
theorem dX12_isFree_0 : decode cX12_isFree 0 = .ok (.iconst 0, 1) := dgX12_isFree_0 (0, (.iconst 0, 1)) (List.mem_of_getElem? (i := 0) rfl)
theorem dX12_isFree_1 : decode cX12_isFree 1 = .ok (.istore_n 1, 1) := dgX12_isFree_0 (1, (.istore_n 1, 1)) (List.mem_of_getElem? (i := 1) rfl)
theorem dX12_isFree_2 : decode cX12_isFree 2 = .ok (.iload_n 1, 1) := dgX12_isFree_0 (2, (.iload_n 1, 1)) (List.mem_of_getElem? (i := 2) rfl)
theorem dX12_isFree_3 : decode cX12_isFree 3 = .ok (.aload_n 0, 1) := dgX12_isFree_0 (3, (.aload_n 0, 1)) (List.mem_of_getElem? (i := 3) rfl)
theorem dX12_isFree_4 : decode cX12_isFree 4 = .ok (.getfield 13, 3) := dgX12_isFree_0 (4, (.getfield 13, 3)) (List.mem_of_getElem? (i := 4) rfl)
theorem dX12_isFree_7 : decode cX12_isFree 7 = .ok (.iconst 1, 1) := dgX12_isFree_0 (7, (.iconst 1, 1)) (List.mem_of_getElem? (i := 5) rfl)
theorem dX12_isFree_8 : decode cX12_isFree 8 = .ok (.iaload, 1) := dgX12_isFree_0 (8, (.iaload, 1)) (List.mem_of_getElem? (i := 6) rfl)
theorem dX12_isFree_9 : decode cX12_isFree 9 = .ok (.if_icmp .ge 44, 3) := dgX12_isFree_0 (9, (.if_icmp .ge 44, 3)) (List.mem_of_getElem? (i := 7) rfl)
theorem dX12_isFree_12 : decode cX12_isFree 12 = .ok (.aload_n 0, 1) := dgX12_isFree_0 (12, (.aload_n 0, 1)) (List.mem_of_getElem? (i := 8) rfl)
theorem dX12_isFree_13 : decode cX12_isFree 13 = .ok (.iload_n 1, 1) := dgX12_isFree_0 (13, (.iload_n 1, 1)) (List.mem_of_getElem? (i := 9) rfl)
theorem dX12_isFree_14 : decode cX12_isFree 14 = .ok (.aload_n 0, 1) := dgX12_isFree_0 (14, (.aload_n 0, 1)) (List.mem_of_getElem? (i := 10) rfl)
theorem dX12_isFree_15 : decode cX12_isFree 15 = .ok (.getfield 352, 3) := dgX12_isFree_0 (15, (.getfield 352, 3)) (List.mem_of_getElem? (i := 11) rfl)
theorem dX12_isFree_18 : decode cX12_isFree 18 = .ok (.invokevirtual 187, 3) := dgX12_isFree_0 (18, (.invokevirtual 187, 3)) (List.mem_of_getElem? (i := 12) rfl)
theorem dX12_isFree_21 : decode cX12_isFree 21 = .ok (.aload_n 0, 1) := dgX12_isFree_0 (21, (.aload_n 0, 1)) (List.mem_of_getElem? (i := 13) rfl)
theorem dX12_isFree_22 : decode cX12_isFree 22 = .ok (.getfield 349, 3) := dgX12_isFree_0 (22, (.getfield 349, 3)) (List.mem_of_getElem? (i := 14) rfl)
theorem dX12_isFree_25 : decode cX12_isFree 25 = .ok (.if_icmp .ne 22, 3) := dgX12_isFree_0 (25, (.if_icmp .ne 22, 3)) (List.mem_of_getElem? (i := 15) rfl)
theorem dX12_isFree_28 : decode cX12_isFree 28 = .ok (.aload_n 0, 1) := dgX12_isFree_0 (28, (.aload_n 0, 1)) (List.mem_of_getElem? (i := 16) rfl)
theorem dX12_isFree_29 : decode cX12_isFree 29 = .ok (.iconst 3, 1) := dgX12_isFree_0 (29, (.iconst 3, 1)) (List.mem_of_getElem? (i := 17) rfl)
theorem dX12_isFree_30 : decode cX12_isFree 30 = .ok (.iconst (-1), 1) := dgX12_isFree_0 (30, (.iconst (-1), 1)) (List.mem_of_getElem? (i := 18) rfl)
theorem dX12_isFree_31 : decode cX12_isFree 31 = .ok (.iload_n 1, 1) := dgX12_isFree_0 (31, (.iload_n 1, 1)) (List.mem_of_getElem? (i := 19) rfl)
theorem dX12_isFree_32 : decode cX12_isFree 32 = .ok (.iconst 0, 1) := dgX12_isFree_0 (32, (.iconst 0, 1)) (List.mem_of_getElem? (i := 20) rfl)
theorem dX12_isFree_33 : decode cX12_isFree 33 = .ok (.iconst 1, 1) := dgX12_isFree_0 (33, (.iconst 1, 1)) (List.mem_of_getElem? (i := 21) rfl)
theorem dX12_isFree_34 : decode cX12_isFree 34 = .ok (.invokevirtual 383, 3) := dgX12_isFree_0 (34, (.invokevirtual 383, 3)) (List.mem_of_getElem? (i := 22) rfl)
theorem dX12_isFree_37 : decode cX12_isFree 37 = .ok (.ifCond .ne 10, 3) := dgX12_isFree_0 (37, (.ifCond .ne 10, 3)) (List.mem_of_getElem? (i := 23) rfl)
theorem dX12_isFree_40 : decode cX12_isFree 40 = .ok (.aload_n 0, 1) := dgX12_isFree_0 (40, (.aload_n 0, 1)) (List.mem_of_getElem? (i := 24) rfl)
theorem dX12_isFree_41 : decode cX12_isFree 41 = .ok (.iload_n 1, 1) := dgX12_isFree_0 (41, (.iload_n 1, 1)) (List.mem_of_getElem? (i := 25) rfl)
theorem dX12_isFree_42 : decode cX12_isFree 42 = .ok (.putfield 371, 3) := dgX12_isFree_0 (42, (.putfield 371, 3)) (List.mem_of_getElem? (i := 26) rfl)
theorem dX12_isFree_45 : decode cX12_isFree 45 = .ok (.iconst 0, 1) := dgX12_isFree_0 (45, (.iconst 0, 1)) (List.mem_of_getElem? (i := 27) rfl)
theorem dX12_isFree_46 : decode cX12_isFree 46 = .ok (.ireturn, 1) := dgX12_isFree_0 (46, (.ireturn, 1)) (List.mem_of_getElem? (i := 28) rfl)
theorem dX12_isFree_47 : decode cX12_isFree 47 = .ok (.iinc 1 1, 3) := dgX12_isFree_0 (47, (.iinc 1 1, 3)) (List.mem_of_getElem? (i := 29) rfl)
theorem dX12_isFree_50 : decode cX12_isFree 50 = .ok (.goto (-48), 3) := dgX12_isFree_0 (50, (.goto (-48), 3)) (List.mem_of_getElem? (i := 30) rfl)
theorem dX12_isFree_53 : decode cX12_isFree 53 = .ok (.iconst 1, 1) := dgX12_isFree_0 (53, (.iconst 1, 1)) (List.mem_of_getElem? (i := 31) rfl)
theorem dX12_isFree_54 : decode cX12_isFree 54 = .ok (.ireturn, 1) := dgX12_isFree_0 (54, (.ireturn, 1)) (List.mem_of_getElem? (i := 32) rfl)
theorem ml_X12_383 : Cond.methodLink RX12 383 yX12_asks ∈ tblG := tg 1622 (by decide +kernel) (by decide +kernel)
theorem im_X12_asks : Cond.instanceMethod yX12_asks ∈ tblG := tg 1624 (by decide +kernel) (by decide +kernel)
theorem se_X12_asks : Cond.selects RX12 yX12_asks yX12_asks ∈ tblG := tg 64 (by decide +kernel) (by decide +kernel)
theorem cd_X12_asks : Cond.code yX12_asks cX12_asks 10 (some .int) ∈ tblG := tg 1625 (by decide +kernel) (by decide +kernel)
theorem gW_X12_asks : GoodIn tblG (wsG yX12_asks cX12_asks 10 (some .int)) := tgi cd_X12_asks
theorem gV_X12_383 : GoodIn tblG (wsV RX12 383 RX12 yX12_asks (wsG yX12_asks cX12_asks 10 (some .int))) := tgV ml_X12_383 im_X12_asks se_X12_asks ini_X12 gW_X12_asks
theorem hv_X12_asks : yX12_asks.cls = RX12 ∧ yX12_asks.cls ≠ "java/lang/invoke/MethodHandle" ∧ yX12_asks.cls ≠ "java/lang/invoke/VarHandle" ∧ (parseMethodDescriptor yX12_asks.desc).map (fun d => d.parameters.length) = some 5 := by decide +kernel
theorem fl_X12_371 : Cond.fieldLink RX12 371 "LateGlassModel" "seen" "I" ∈ tblG := tg 1243 (by decide +kernel) (by decide +kernel)
