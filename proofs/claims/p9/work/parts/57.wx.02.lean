set_option maxHeartbeats 4000000 in
set_option maxRecDepth 100000 in
theorem n_wanderE (l : Launch) (G : g5_G) (b_o b_rf b_ro b_se b_re b_pt b_ip b_wn b_im b_ke b_tp b_nl b_op b_ar b_pi b_pa b_ws b_hw b_ah b_be b_me b_tr b_ld : Nat) (sz : Nat) (u_th : Int32) (u_sa : Int32) (u_fd : Int32) (u_td : Int32) (u_fr : Int32) (u_to : Int32) (u_so : Int32) (u_fa : Int32) (u_bd : Int32) (u_nc : Int32) (u_co : Int32) (u_le : Int32) (u_pd : Int32) (u_od : Int32) (u_la : Int32) (u_bk : Int32) (u_ce : Int32) (u_ho : Int32) (u_wy : Int32) (u_bt : Int32) (u_ps : Int32) (u_tg : Int32) (u_sn : Int32) (u_ic : Int32) (u_wd : Int32) (u_id : Int32) (p_1 : Int32) (p_2 : Int32) (u_wo : Int64) (u_va : Int64) (u_su : Int64) (u_st : Int64) (v_rf : Nat → Int32) (v_ro : Nat → Int32) (v_se : Nat → Int64) (v_re : Nat → Int64) (v_pt : Nat → Int32) (v_ip : Nat → Int32) (v_wn : Nat → Int32) (h_u_td : 0 ≤ u_td.toInt ∧ u_td.toInt ≤ 400) (h_u_fr : 0 ≤ u_fr.toInt ∧ u_fr.toInt ≤ 400) (h_u_to : 0 ≤ u_to.toInt ∧ u_to.toInt ≤ 400) (h_u_bd : 0 ≤ u_bd.toInt ∧ u_bd.toInt ≤ 1) (h_u_nc : 0 ≤ u_nc.toInt ∧ u_nc.toInt ≤ 12) (h_u_co : 0 ≤ u_co.toInt ∧ u_co.toInt ≤ 400) (h_u_pd : 0 ≤ u_pd.toInt ∧ u_pd.toInt ≤ 400) (h_u_la : 0 ≤ u_la.toInt ∧ u_la.toInt ≤ 4840) (h_u_bk : 0 ≤ u_bk.toInt ∧ u_bk.toInt ≤ 1) (h_u_ce : 0 ≤ u_ce.toInt ∧ u_ce.toInt ≤ 63) (h_u_ho : 0 ≤ u_ho.toInt ∧ u_ho.toInt ≤ 23) (h_u_wy : 0 ≤ u_wy.toInt ∧ u_wy.toInt ≤ 3) (h_u_bt : 0 ≤ u_bt.toInt ∧ u_bt.toInt ≤ 1000000) (h_u_ps : 0 ≤ u_ps.toInt ∧ u_ps.toInt ≤ 200) (h_u_ic : 0 ≤ u_ic.toInt ∧ u_ic.toInt ≤ 1) (h_u_id : 0 ≤ u_id.toInt ∧ u_id.toInt ≤ 1) (r_ro : MI v_ro) (r_pt : PTI v_pt) (r_wn : WNI v_wn) : Met l yX12_wander (wsG yX12_wander cX12_wander 7 (some .int)) ({ frames := 9, cells := 0, slots := 0, locals := 222 }) (va_Pc [.ref b_o, .int p_1, .int p_2] (g5_P G [(b_o, (oc12 u_th u_sa b_rf b_ro b_im b_ke u_fd b_tp u_td u_fr u_to u_so u_wo u_fa u_bd u_nc b_nl u_co b_op b_ar u_le b_pi b_pa u_pd u_od b_ws b_hw u_la b_se b_re u_bk u_va u_su u_ce u_ho u_wy u_bt u_ps b_pt u_tg u_sn b_ip u_ic b_ah b_be b_me u_wd b_tr b_ld u_st b_wn u_id)), (b_rf, (arI G 7 v_rf)), (b_ro, (arI G 5740 v_ro)), (b_se, (arJ G 13 v_se)), (b_re, (arJ G 400 v_re)), (b_pt, (arI G 200 v_pt)), (b_ip, (arZ G 1536 v_ip)), (b_wn, (arI G 24 v_wn))] sz)) (va_Qi (fun (r : Int32) (u : va_W) => (∃ (o_r : Int32) (o_th : Int32) (o_sa : Int32) (o_la : Int32) (o_bk : Int32) (o_va : Int64) (o_su : Int64) (o_ce : Int32) (o_ho : Int32) (o_wy : Int32) (o_bt : Int32) (o_ps : Int32) (o_tg : Int32) (o_sn : Int32) (o_ic : Int32) (o_st : Int64) (o_id : Int32) (o_rf : Nat → Int32) (o_se : Nat → Int64) (o_re : Nat → Int64) (o_pt : Nat → Int32) (o_ip : Nat → Int32) (o_wn : Nat → Int32), (0 ≤ o_la.toInt ∧ o_la.toInt ≤ 4840) ∧ (0 ≤ o_bk.toInt ∧ o_bk.toInt ≤ 1) ∧ (0 ≤ o_ce.toInt ∧ o_ce.toInt ≤ 63) ∧ (0 ≤ o_ho.toInt ∧ o_ho.toInt ≤ 23) ∧ (0 ≤ o_wy.toInt ∧ o_wy.toInt ≤ 3) ∧ (0 ≤ o_bt.toInt ∧ o_bt.toInt ≤ 1000000) ∧ (0 ≤ o_ps.toInt ∧ o_ps.toInt ≤ 200) ∧ (PTI o_pt) ∧ (0 ≤ o_ic.toInt ∧ o_ic.toInt ≤ 1) ∧ (WNI o_wn) ∧ (0 ≤ o_id.toInt ∧ o_id.toInt ≤ 1) ∧ (o_wn = swand v_ro v_wn p_1 p_2) ∧ (o_id = swanf v_ro u_id p_1 p_2) ∧ (r = o_r) ∧ (u = [(b_o, (oc12 o_th o_sa b_rf b_ro b_im b_ke u_fd b_tp u_td u_fr u_to u_so u_wo u_fa u_bd u_nc b_nl u_co b_op b_ar u_le b_pi b_pa u_pd u_od b_ws b_hw o_la b_se b_re o_bk o_va o_su o_ce o_ho o_wy o_bt o_ps b_pt o_tg o_sn b_ip o_ic b_ah b_be b_me u_wd b_tr b_ld o_st b_wn o_id)), (b_rf, (arI G 7 o_rf)), (b_ro, (arI G 5740 v_ro)), (b_se, (arJ G 13 o_se)), (b_re, (arJ G 400 o_re)), (b_pt, (arI G 200 o_pt)), (b_ip, (arZ G 1536 o_ip)), (b_wn, (arI G 24 o_wn))]))) (g5_B G (va_A [(b_o, (oc12 u_th u_sa b_rf b_ro b_im b_ke u_fd b_tp u_td u_fr u_to u_so u_wo u_fa u_bd u_nc b_nl u_co b_op b_ar u_le b_pi b_pa u_pd u_od b_ws b_hw u_la b_se b_re u_bk u_va u_su u_ce u_ho u_wy u_bt u_ps b_pt u_tg u_sn b_ip u_ic b_ah b_be b_me u_wd b_tr b_ld u_st b_wn u_id)), (b_rf, (arI G 7 v_rf)), (b_ro, (arI G 5740 v_ro)), (b_se, (arJ G 13 v_se)), (b_re, (arJ G 400 v_re)), (b_pt, (arI G 200 v_pt)), (b_ip, (arZ G 1536 v_ip)), (b_wn, (arI G 24 v_wn))] sz)) (va_A [(b_o, (oc12 u_th u_sa b_rf b_ro b_im b_ke u_fd b_tp u_td u_fr u_to u_so u_wo u_fa u_bd u_nc b_nl u_co b_op b_ar u_le b_pi b_pa u_pd u_od b_ws b_hw u_la b_se b_re u_bk u_va u_su u_ce u_ho u_wy u_bt u_ps b_pt u_tg u_sn b_ip u_ic b_ah b_be b_me u_wd b_tr b_ld u_st b_wn u_id)), (b_rf, (arI G 7 v_rf)), (b_ro, (arI G 5740 v_ro)), (b_se, (arJ G 13 v_se)), (b_re, (arJ G 400 v_re)), (b_pt, (arI G 200 v_pt)), (b_ip, (arZ G 1536 v_ip)), (b_wn, (arI G 24 v_wn))] sz)) 0 0 (va_A [(b_o, (oc12 u_th u_sa b_rf b_ro b_im b_ke u_fd b_tp u_td u_fr u_to u_so u_wo u_fa u_bd u_nc b_nl u_co b_op b_ar u_le b_pi b_pa u_pd u_od b_ws b_hw u_la b_se b_re u_bk u_va u_su u_ce u_ho u_wy u_bt u_ps b_pt u_tg u_sn b_ip u_ic b_ah b_be b_me u_wd b_tr b_ld u_st b_wn u_id)), (b_rf, (arI G 7 v_rf)), (b_ro, (arI G 5740 v_ro)), (b_se, (arJ G 13 v_se)), (b_re, (arJ G 400 v_re)), (b_pt, (arI G 200 v_pt)), (b_ip, (arZ G 1536 v_ip)), (b_wn, (arI G 24 v_wn))] sz) := by
  refine Met.ofW (cc := cX12_wander) (maxL := 7) (ret := (some .int)) (by decide) rfl ?_
  intro p e s m args below meth c s₁ B hml hv
  obtain ⟨rfl, hsz, hP, hK, hD0, hN, hT⟩ := hv
  have hx := B.exec
  have hb := B.bytes
  have hr := B.returns
  have hts : ∀ w ∈ tblG, w.before _ s = true := fun w h => atoms_spec (ws := (wsG yX12_wander cX12_wander 7 (some .int))) B.pre w (List.mem_cons_of_mem _ h)
  have hown : s.vm.findClass RX12 = some m.cls := findClass_of_methodNamed B.named
  have hlocks := B.notSynchronized
  subst hsz
  have hD := hD0.self (sz := s.heap.size)
  generalize hAe : va_A [(b_o, (oc12 u_th u_sa b_rf b_ro b_im b_ke u_fd b_tp u_td u_fr u_to u_so u_wo u_fa u_bd u_nc b_nl u_co b_op b_ar u_le b_pi b_pa u_pd u_od b_ws b_hw u_la b_se b_re u_bk u_va u_su u_ce u_ho u_wy u_bt u_ps b_pt u_tg u_sn b_ip u_ic b_ah b_be b_me u_wd b_tr b_ld u_st b_wn u_id)), (b_rf, (arI G 7 v_rf)), (b_ro, (arI G 5740 v_ro)), (b_se, (arJ G 13 v_se)), (b_re, (arJ G 400 v_re)), (b_pt, (arI G 200 v_pt)), (b_ip, (arZ G 1536 v_ip)), (b_wn, (arI G 24 v_wn))] s.heap.size = A at hD hT ⊢
  have hA : ∀ q : Nat, s.heap.size ≤ q → A q := fun q h => by rw [← hAe]; exact Or.inr h
  have hS : va_S A s.heap s.heap [] := va_S.rf
  have hP : va_P G.1 vwCl [(b_o, (oc12 u_th u_sa b_rf b_ro b_im b_ke u_fd b_tp u_td u_fr u_to u_so u_wo u_fa u_bd u_nc b_nl u_co b_op b_ar u_le b_pi b_pa u_pd u_od b_ws b_hw u_la b_se b_re u_bk u_va u_su u_ce u_ho u_wy u_bt u_ps b_pt u_tg u_sn b_ip u_ic b_ah b_be b_me u_wd b_tr b_ld u_st b_wn u_id)), (b_rf, (arI G 7 v_rf)), (b_ro, (arI G 5740 v_ro)), (b_se, (arJ G 13 v_se)), (b_re, (arJ G 400 v_re)), (b_pt, (arI G 200 v_pt)), (b_ip, (arZ G 1536 v_ip)), (b_wn, (arI G 24 v_wn))] s.heap := hP
  have hl := lv_entry ([.ref b_o, .int p_1, .int p_2]) (n := 7) (Nat.le_of_ble_eq_true rfl)
  rw [lg_entry_eq]
  generalize (lg_sl ([.ref b_o, .int p_1, .int p_2]) ++ List.replicate (7 - (lg_sl ([.ref b_o, .int p_1, .int p_2])).length) Slot.unset).toArray = ls at hl ⊢
  have hl : lv_has ls 7 [(0, .ref b_o), (1, .int p_1), (2, .int p_2)] := hl
  refine lv_aload_n hx hb dX12_wander_0 rfl (lv_at hl 0 rfl) ?_
  refine lv_iconst (v := 0) hx hb dX12_wander_1 (by decide) ?_
  refine va_put (D := G.1) (ci := 12) (v := .int 0) (ty := .int) (C := RX12) (T := TX12) (N := 52) hx hb hts inG_X12 tyX12 tyX12_ok nmX12 hown hK hP hD hS 0 rfl rfl 0 (by decide) (hts _ fl_X12_107) (fun _ h9 => h9) rfl (by decide +kernel) rfl rfl (Nat.le_of_ble_eq_true rfl) dX12_wander_2 (fun H locs hP hD hS => ?_)
  refine g5_rs [(b_o, (oc12 0 u_sa b_rf b_ro b_im b_ke u_fd b_tp u_td u_fr u_to u_so u_wo u_fa u_bd u_nc b_nl u_co b_op b_ar u_le b_pi b_pa u_pd u_od b_ws b_hw u_la b_se b_re u_bk u_va u_su u_ce u_ho u_wy u_bt u_ps b_pt u_tg u_sn b_ip u_ic b_ah b_be b_me u_wd b_tr b_ld u_st b_wn u_id)), (b_rf, (arI G 7 v_rf)), (b_ro, (arI G 5740 v_ro)), (b_se, (arJ G 13 v_se)), (b_re, (arJ G 400 v_re)), (b_pt, (arI G 200 v_pt)), (b_ip, (arZ G 1536 v_ip)), (b_wn, (arI G 24 v_wn))] hP hD (fun hP hD => ?_)
  refine lv_iload_n hx hb dX12_wander_5 rfl (lv_at hl 1 rfl) ?_
  refine lv_i2l (v := p_1.toInt64) hx hb dX12_wander_6 rfl ?_
  refine lv_lconst (v := 0) hx hb dX12_wander_7 (by decide) ?_
  refine lv_ldc2 (v := 1000000) hx hb hown (hts _ kl_X12_190) dX12_wander_8 ?_
  obtain ⟨hPc, hDc, hFc⟩ := g5_sub3 (wc := []) hP hD hS hA [] (by decide) rfl
  refine va_calli (va_runS (As := [.long p_1.toInt64, .long 0, .long 1000000]) (rest := []) ⟨hx, hb, hml, hown, hts⟩ (n_in_0_1000000 l G H.size p_1) (va_cwS 3 hts gS_X12_121 rfl rfl rfl hs_X12_in ⟨Nat.le_of_ble_eq_true rfl, Nat.le_of_ble_eq_true rfl⟩) (g5_preS hPc hK hDc hN hT hS hFc) rfl rfl hl.1 rfl (lv_room (Nat.le_of_ble_eq_true rfl)) dX12_wander_11 ⟨Nat.le_of_ble_eq_true rfl, Nat.le_of_ble_eq_true rfl⟩) hS (fun q _ h => hFc q h) hFc (fun r u t H1 locs ht hvm hw hB hz1 hk1 hS => ?_)
  obtain ⟨hP1, hD1⟩ := hB
  rw [ht] at hP1
  rcases hw with ⟨i_1, rfl, rfl⟩ | ⟨i_2, rfl, rfl⟩
  ·
    have i_1 : p_1.toInt < 0 ∨ 1000000 < p_1.toInt := i_1
    have hP := g5_same hP hk1
    generalize H1 = H at hP hS ⊢
    refine lv_if_eq (tgt := 24) hx hb dX12_wander_14 (by decide) (fun c_3 => ?_) (fun c_3 => ?_)
    ·
      refine lv_aload_n hx hb dX12_wander_24 rfl (lv_at hl 0 rfl) ?_
      refine lv_iconst (v := (-1)) hx hb dX12_wander_25 (by decide) ?_
      obtain ⟨hPc, hDc, hFc⟩ := g5_sub3 (wc := [(b_o, (oc12 0 u_sa b_rf b_ro b_im b_ke u_fd b_tp u_td u_fr u_to u_so u_wo u_fa u_bd u_nc b_nl u_co b_op b_ar u_le b_pi b_pa u_pd u_od b_ws b_hw u_la b_se b_re u_bk u_va u_su u_ce u_ho u_wy u_bt u_ps b_pt u_tg u_sn b_ip u_ic b_ah b_be b_me u_wd b_tr b_ld u_st b_wn u_id)), (b_rf, (arI G 7 v_rf))]) hP hD hS hA [0, 1] (by decide) rfl
      refine va_calli (va_runV (As := [.int (-1)]) (rest := []) ⟨hx, hb, hml, hown, hts⟩ (n_tell1 l G b_o b_rf b_ro b_im b_ke b_tp b_nl b_op b_ar b_pi b_pa b_ws b_hw b_se b_re b_pt b_ip b_ah b_be b_me b_tr b_ld b_wn H.size 0 u_sa u_fd u_td u_fr u_to u_so u_fa u_bd u_nc u_co u_le u_pd u_od u_la u_bk u_ce u_ho u_wy u_bt u_ps u_tg u_sn u_ic u_wd u_id u_wo u_va u_su u_st v_rf h_u_td h_u_fr h_u_to h_u_bd h_u_nc h_u_co h_u_pd h_u_la h_u_bk h_u_ce h_u_ho h_u_wy h_u_bt h_u_ps h_u_ic h_u_id) (cwV 1 hts gV_X12_125 rfl rfl rfl hv_X12_tell ⟨Nat.le_of_ble_eq_true rfl, Nat.le_of_ble_eq_true rfl⟩) (g5_preV hPc hK hDc hN hT hS hFc (ci := 12) (q0 := 0) rfl rfl) rfl rfl hl.1 rfl (lv_room (Nat.le_of_ble_eq_true rfl)) dX12_wander_26 ⟨Nat.le_of_ble_eq_true rfl, Nat.le_of_ble_eq_true rfl⟩) hS (fun q _ h => hFc q h) hFc (fun r u t H1 locs ht hvm hw hB hz1 hk1 hS => ?_)
      obtain ⟨hP1, hD1⟩ := hB
      rw [ht] at hP1
      obtain ⟨z5, z6, z7, i_4, rfl, rfl⟩ := hw
      have i_4 : 0 ≤ z6.toInt ∧ z6.toInt ≤ 1 := i_4
      obtain ⟨hP, hD⟩ := va_join (wr := [(b_ro, (arI G 5740 v_ro)), (b_se, (arJ G 13 v_se)), (b_re, (arJ G 400 v_re)), (b_pt, (arI G 200 v_pt)), (b_ip, (arZ G 1536 v_ip)), (b_wn, (arI G 24 v_wn))]) hP hD [0, 1] [2, 3, 4, 5, 6, 7] rfl rfl (by decide) (by decide) hk1 hFc hP1 hD1
      generalize H1 = H at hP hS ⊢
      refine g5_rs [(b_ro, (arI G 5740 v_ro)), (b_se, (arJ G 13 v_se)), (b_re, (arJ G 400 v_re)), (b_pt, (arI G 200 v_pt)), (b_ip, (arZ G 1536 v_ip)), (b_wn, (arI G 24 v_wn)), (b_o, (oc12 0 z5 b_rf b_ro b_im b_ke u_fd b_tp u_td u_fr u_to u_so u_wo u_fa u_bd u_nc b_nl u_co b_op b_ar u_le b_pi b_pa u_pd u_od b_ws b_hw u_la b_se b_re u_bk u_va u_su u_ce u_ho u_wy u_bt u_ps b_pt u_tg u_sn b_ip z6 b_ah b_be b_me u_wd b_tr b_ld u_st b_wn u_id)), (b_rf, (arI G 7 z7))] hP hD (fun hP hD => ?_)
      exact W.iret (v := (-1)) hx hb hr (fun t ht hW => ⟨⟨(-1), [(b_o, (oc12 0 z5 b_rf b_ro b_im b_ke u_fd b_tp u_td u_fr u_to u_so u_wo u_fa u_bd u_nc b_nl u_co b_op b_ar u_le b_pi b_pa u_pd u_od b_ws b_hw u_la b_se b_re u_bk u_va u_su u_ce u_ho u_wy u_bt u_ps b_pt u_tg u_sn b_ip z6 b_ah b_be b_me u_wd b_tr b_ld u_st b_wn u_id)), (b_rf, (arI G 7 z7)), (b_ro, (arI G 5740 v_ro)), (b_se, (arJ G 13 v_se)), (b_re, (arJ G 400 v_re)), (b_pt, (arI G 200 v_pt)), (b_ip, (arZ G 1536 v_ip)), (b_wn, (arI G 24 v_wn))], rfl, ⟨(-1), 0, z5, u_la, u_bk, u_va, u_su, u_ce, u_ho, u_wy, u_bt, u_ps, u_tg, u_sn, z6, u_st, u_id, z7, v_se, v_re, v_pt, v_ip, v_wn, h_u_la, h_u_bk, h_u_ce, h_u_ho, h_u_wy, h_u_bt, h_u_ps, r_pt, i_4, r_wn, h_u_id, (wand_1 (f := v_ro) (g := v_wn) (n := u_id) (s := p_1) (c := p_2) (fun q => by unfold okD at q; omega)).1.symm, (wand_1 (f := v_ro) (g := v_wn) (n := u_id) (s := p_1) (c := p_2) (fun q => by unfold okD at q; omega)).2.symm, rfl, rfl⟩, by rw [ht]; exact hP.sub [6, 7, 0, 1, 2, 3, 4, 5] rfl, hD.sub [6, 7, 0, 1, 2, 3, 4, 5] (by decide) rfl⟩, hS.F ht⟩) hS.2.2 dX12_wander_29
    ·
      exact absurd c_3 (by decide)
  ·
    have i_2 : 0 ≤ p_1.toInt ∧ p_1.toInt ≤ 1000000 := i_2
    have hP := g5_same hP hk1
    generalize H1 = H at hP hS ⊢
    refine lv_if_eq (tgt := 24) hx hb dX12_wander_14 (by decide) (fun c_8 => ?_) (fun c_8 => ?_)
    ·
      exact absurd c_8 (by decide)
    ·
      refine lv_iload_n hx hb dX12_wander_17 rfl (lv_at hl 2 rfl) ?_
      obtain ⟨hPc, hDc, hFc⟩ := g5_sub3 (wc := []) hP hD hS hA [] (by decide) rfl
      refine va_calli (va_runS (As := [.int p_2]) (rest := []) ⟨hx, hb, hml, hown, hts⟩ (n_isCellE l G H.size p_2) (va_cwS 1 hts gS_X12_138 rfl rfl rfl hs_X12_isCell ⟨Nat.le_of_ble_eq_true rfl, Nat.le_of_ble_eq_true rfl⟩) (g5_preS hPc hK hDc hN hT hS hFc) rfl rfl hl.1 rfl (lv_room (Nat.le_of_ble_eq_true rfl)) dX12_wander_18 ⟨Nat.le_of_ble_eq_true rfl, Nat.le_of_ble_eq_true rfl⟩) hS (fun q _ h => hFc q h) hFc (fun r u t H1 locs ht hvm hw hB hz1 hk1 hS => ?_)
      obtain ⟨hP1, hD1⟩ := hB
      rw [ht] at hP1
      rcases hw with ⟨i_9, rfl, rfl⟩ | ⟨i_10, rfl, rfl⟩
      ·
        have i_9 : 0 ≤ p_2.toInt ∧ p_2.toInt ≤ 63 := i_9
        have hP := g5_same hP hk1
        generalize H1 = H at hP hS ⊢
        refine lv_if_ne (tgt := 30) hx hb dX12_wander_21 (by decide) (fun c_11 => ?_) (fun c_11 => ?_)
        ·
          refine lv_aload_n hx hb dX12_wander_30 rfl (lv_at hl 0 rfl) ?_
          refine lv_iload_n hx hb dX12_wander_31 rfl (lv_at hl 2 rfl) ?_
          obtain ⟨hPc, hDc, hFc⟩ := g5_sub3 (wc := [(b_o, (oc12 0 u_sa b_rf b_ro b_im b_ke u_fd b_tp u_td u_fr u_to u_so u_wo u_fa u_bd u_nc b_nl u_co b_op b_ar u_le b_pi b_pa u_pd u_od b_ws b_hw u_la b_se b_re u_bk u_va u_su u_ce u_ho u_wy u_bt u_ps b_pt u_tg u_sn b_ip u_ic b_ah b_be b_me u_wd b_tr b_ld u_st b_wn u_id)), (b_ro, (arI G 5740 v_ro))]) hP hD hS hA [0, 2] (by decide) rfl
          refine va_calli (va_runV (As := [.int p_2]) (rest := []) ⟨hx, hb, hml, hown, hts⟩ (n_isWallE l G b_o b_ro b_rf b_im b_ke b_tp b_nl b_op b_ar b_pi b_pa b_ws b_hw b_se b_re b_pt b_ip b_ah b_be b_me b_tr b_ld b_wn H.size 0 u_sa u_fd u_td u_fr u_to u_so u_fa u_bd u_nc u_co u_le u_pd u_od u_la u_bk u_ce u_ho u_wy u_bt u_ps u_tg u_sn u_ic u_wd u_id p_2 u_wo u_va u_su u_st v_ro h_u_td h_u_fr h_u_to h_u_bd h_u_nc h_u_co h_u_pd h_u_la h_u_bk h_u_ce h_u_ho h_u_wy h_u_bt h_u_ps h_u_ic h_u_id i_9 (r_ro)) (cwV 1 hts gV_X12_160 rfl rfl rfl hv_X12_isWall ⟨Nat.le_of_ble_eq_true rfl, Nat.le_of_ble_eq_true rfl⟩) (g5_preV hPc hK hDc hN hT hS hFc (ci := 12) (q0 := 0) rfl rfl) rfl rfl hl.1 rfl (lv_room (Nat.le_of_ble_eq_true rfl)) dX12_wander_32 ⟨Nat.le_of_ble_eq_true rfl, Nat.le_of_ble_eq_true rfl⟩) hS (fun q _ h => hFc q h) hFc (fun r u t H1 locs ht hvm hw hB hz1 hk1 hS => ?_)
          obtain ⟨hP1, hD1⟩ := hB
          rw [ht] at hP1
          rcases hw with ⟨i_12, rfl, rfl⟩ | ⟨i_13, rfl, rfl⟩
          ·
            have i_12 : wallAt v_ro p_2.toInt := i_12
            obtain ⟨hP, hD⟩ := va_join (wr := [(b_rf, (arI G 7 v_rf)), (b_se, (arJ G 13 v_se)), (b_re, (arJ G 400 v_re)), (b_pt, (arI G 200 v_pt)), (b_ip, (arZ G 1536 v_ip)), (b_wn, (arI G 24 v_wn))]) hP hD [0, 2] [1, 3, 4, 5, 6, 7] rfl rfl (by decide) (by decide) hk1 hFc hP1 hD1
            generalize H1 = H at hP hS ⊢
            refine g5_rs [(b_rf, (arI G 7 v_rf)), (b_se, (arJ G 13 v_se)), (b_re, (arJ G 400 v_re)), (b_pt, (arI G 200 v_pt)), (b_ip, (arZ G 1536 v_ip)), (b_wn, (arI G 24 v_wn)), (b_o, (oc12 0 u_sa b_rf b_ro b_im b_ke u_fd b_tp u_td u_fr u_to u_so u_wo u_fa u_bd u_nc b_nl u_co b_op b_ar u_le b_pi b_pa u_pd u_od b_ws b_hw u_la b_se b_re u_bk u_va u_su u_ce u_ho u_wy u_bt u_ps b_pt u_tg u_sn b_ip u_ic b_ah b_be b_me u_wd b_tr b_ld u_st b_wn u_id)), (b_ro, (arI G 5740 v_ro))] hP hD (fun hP hD => ?_)
            refine lv_if_eq (tgt := 45) hx hb dX12_wander_35 (by decide) (fun c_14 => ?_) (fun c_14 => ?_)
            ·
              exact absurd c_14 (by decide)
            ·
              refine lv_aload_n hx hb dX12_wander_38 rfl (lv_at hl 0 rfl) ?_
              refine lv_bipush (v := (-3)) hx hb dX12_wander_39 (by decide) ?_
              obtain ⟨hPc, hDc, hFc⟩ := g5_sub3 (wc := [(b_o, (oc12 0 u_sa b_rf b_ro b_im b_ke u_fd b_tp u_td u_fr u_to u_so u_wo u_fa u_bd u_nc b_nl u_co b_op b_ar u_le b_pi b_pa u_pd u_od b_ws b_hw u_la b_se b_re u_bk u_va u_su u_ce u_ho u_wy u_bt u_ps b_pt u_tg u_sn b_ip u_ic b_ah b_be b_me u_wd b_tr b_ld u_st b_wn u_id)), (b_rf, (arI G 7 v_rf))]) hP hD hS hA [6, 0] (by decide) rfl
              refine va_calli (va_runV (As := [.int (-3)]) (rest := []) ⟨hx, hb, hml, hown, hts⟩ (n_tell3 l G b_o b_rf b_ro b_im b_ke b_tp b_nl b_op b_ar b_pi b_pa b_ws b_hw b_se b_re b_pt b_ip b_ah b_be b_me b_tr b_ld b_wn H.size 0 u_sa u_fd u_td u_fr u_to u_so u_fa u_bd u_nc u_co u_le u_pd u_od u_la u_bk u_ce u_ho u_wy u_bt u_ps u_tg u_sn u_ic u_wd u_id u_wo u_va u_su u_st v_rf h_u_td h_u_fr h_u_to h_u_bd h_u_nc h_u_co h_u_pd h_u_la h_u_bk h_u_ce h_u_ho h_u_wy h_u_bt h_u_ps h_u_ic h_u_id) (cwV 1 hts gV_X12_125 rfl rfl rfl hv_X12_tell ⟨Nat.le_of_ble_eq_true rfl, Nat.le_of_ble_eq_true rfl⟩) (g5_preV hPc hK hDc hN hT hS hFc (ci := 12) (q0 := 0) rfl rfl) rfl rfl hl.1 rfl (lv_room (Nat.le_of_ble_eq_true rfl)) dX12_wander_41 ⟨Nat.le_of_ble_eq_true rfl, Nat.le_of_ble_eq_true rfl⟩) hS (fun q _ h => hFc q h) hFc (fun r u t H1 locs ht hvm hw hB hz1 hk1 hS => ?_)
              obtain ⟨hP1, hD1⟩ := hB
              rw [ht] at hP1
              obtain ⟨z16, z17, z18, i_15, rfl, rfl⟩ := hw
              have i_15 : 0 ≤ z17.toInt ∧ z17.toInt ≤ 1 := i_15
              obtain ⟨hP, hD⟩ := va_join (wr := [(b_se, (arJ G 13 v_se)), (b_re, (arJ G 400 v_re)), (b_pt, (arI G 200 v_pt)), (b_ip, (arZ G 1536 v_ip)), (b_wn, (arI G 24 v_wn)), (b_ro, (arI G 5740 v_ro))]) hP hD [6, 0] [1, 2, 3, 4, 5, 7] rfl rfl (by decide) (by decide) hk1 hFc hP1 hD1
              generalize H1 = H at hP hS ⊢
              refine g5_rs [(b_se, (arJ G 13 v_se)), (b_re, (arJ G 400 v_re)), (b_pt, (arI G 200 v_pt)), (b_ip, (arZ G 1536 v_ip)), (b_wn, (arI G 24 v_wn)), (b_ro, (arI G 5740 v_ro)), (b_o, (oc12 0 z16 b_rf b_ro b_im b_ke u_fd b_tp u_td u_fr u_to u_so u_wo u_fa u_bd u_nc b_nl u_co b_op b_ar u_le b_pi b_pa u_pd u_od b_ws b_hw u_la b_se b_re u_bk u_va u_su u_ce u_ho u_wy u_bt u_ps b_pt u_tg u_sn b_ip z17 b_ah b_be b_me u_wd b_tr b_ld u_st b_wn u_id)), (b_rf, (arI G 7 z18))] hP hD (fun hP hD => ?_)
              exact W.iret (v := (-3)) hx hb hr (fun t ht hW => ⟨⟨(-3), [(b_o, (oc12 0 z16 b_rf b_ro b_im b_ke u_fd b_tp u_td u_fr u_to u_so u_wo u_fa u_bd u_nc b_nl u_co b_op b_ar u_le b_pi b_pa u_pd u_od b_ws b_hw u_la b_se b_re u_bk u_va u_su u_ce u_ho u_wy u_bt u_ps b_pt u_tg u_sn b_ip z17 b_ah b_be b_me u_wd b_tr b_ld u_st b_wn u_id)), (b_rf, (arI G 7 z18)), (b_ro, (arI G 5740 v_ro)), (b_se, (arJ G 13 v_se)), (b_re, (arJ G 400 v_re)), (b_pt, (arI G 200 v_pt)), (b_ip, (arZ G 1536 v_ip)), (b_wn, (arI G 24 v_wn))], rfl, ⟨(-3), 0, z16, u_la, u_bk, u_va, u_su, u_ce, u_ho, u_wy, u_bt, u_ps, u_tg, u_sn, z17, u_st, u_id, z18, v_se, v_re, v_pt, v_ip, v_wn, h_u_la, h_u_bk, h_u_ce, h_u_ho, h_u_wy, h_u_bt, h_u_ps, r_pt, i_15, r_wn, h_u_id, (wand_3 (f := v_ro) (g := v_wn) (n := u_id) (s := p_1) (c := p_2) i_12).1.symm, (wand_3 (f := v_ro) (g := v_wn) (n := u_id) (s := p_1) (c := p_2) i_12).2.symm, rfl, rfl⟩, by rw [ht]; exact hP.sub [6, 7, 5, 0, 1, 2, 3, 4] rfl, hD.sub [6, 7, 5, 0, 1, 2, 3, 4] (by decide) rfl⟩, hS.F ht⟩) hS.2.2 dX12_wander_44
          ·
            have i_13 : ¬ wallAt v_ro p_2.toInt := i_13
            obtain ⟨hP, hD⟩ := va_join (wr := [(b_rf, (arI G 7 v_rf)), (b_se, (arJ G 13 v_se)), (b_re, (arJ G 400 v_re)), (b_pt, (arI G 200 v_pt)), (b_ip, (arZ G 1536 v_ip)), (b_wn, (arI G 24 v_wn))]) hP hD [0, 2] [1, 3, 4, 5, 6, 7] rfl rfl (by decide) (by decide) hk1 hFc hP1 hD1
            generalize H1 = H at hP hS ⊢
            refine g5_rs [(b_rf, (arI G 7 v_rf)), (b_se, (arJ G 13 v_se)), (b_re, (arJ G 400 v_re)), (b_pt, (arI G 200 v_pt)), (b_ip, (arZ G 1536 v_ip)), (b_wn, (arI G 24 v_wn)), (b_o, (oc12 0 u_sa b_rf b_ro b_im b_ke u_fd b_tp u_td u_fr u_to u_so u_wo u_fa u_bd u_nc b_nl u_co b_op b_ar u_le b_pi b_pa u_pd u_od b_ws b_hw u_la b_se b_re u_bk u_va u_su u_ce u_ho u_wy u_bt u_ps b_pt u_tg u_sn b_ip u_ic b_ah b_be b_me u_wd b_tr b_ld u_st b_wn u_id)), (b_ro, (arI G 5740 v_ro))] hP hD (fun hP hD => ?_)
            refine lv_if_eq (tgt := 45) hx hb dX12_wander_35 (by decide) (fun c_19 => ?_) (fun c_19 => ?_)
            ·
              refine lv_aload_n hx hb dX12_wander_45 rfl (lv_at hl 0 rfl) ?_
              refine lv_iload_n hx hb dX12_wander_46 rfl (lv_at hl 1 rfl) ?_
              refine lv_i2l (v := p_1.toInt64) hx hb dX12_wander_47 rfl ?_
              refine va_put (D := G.1) (ci := 12) (v := .long p_1.toInt64) (ty := .long) (C := RX12) (T := TX12) (N := 52) hx hb hts inG_X12 tyX12 tyX12_ok nmX12 hown hK hP hD hS 6 rfl rfl 49 (by decide) (hts _ fl_X12_469) (fun _ h9 => h9) rfl (by decide +kernel) rfl rfl (Nat.le_of_ble_eq_true rfl) dX12_wander_48 (fun H locs hP hD hS => ?_)
              refine g5_rs [(b_rf, (arI G 7 v_rf)), (b_se, (arJ G 13 v_se)), (b_re, (arJ G 400 v_re)), (b_pt, (arI G 200 v_pt)), (b_ip, (arZ G 1536 v_ip)), (b_wn, (arI G 24 v_wn)), (b_o, (oc12 0 u_sa b_rf b_ro b_im b_ke u_fd b_tp u_td u_fr u_to u_so u_wo u_fa u_bd u_nc b_nl u_co b_op b_ar u_le b_pi b_pa u_pd u_od b_ws b_hw u_la b_se b_re u_bk u_va u_su u_ce u_ho u_wy u_bt u_ps b_pt u_tg u_sn b_ip u_ic b_ah b_be b_me u_wd b_tr b_ld p_1.toInt64 b_wn u_id)), (b_ro, (arI G 5740 v_ro))] hP hD (fun hP hD => ?_)
              refine lv_iload_n hx hb dX12_wander_51 rfl (lv_at hl 2 rfl) ?_
              refine lv_istore_n (lv' := [(3, .int p_2), (0, .ref b_o), (1, .int p_1), (2, .int p_2)]) hx hb dX12_wander_52 rfl hl (by decide) rfl (fun ls hl => ?_)
              refine lv_iconst (v := 0) hx hb dX12_wander_53 (by decide) ?_
              refine lv_istore (lv' := [(4, .int 0), (3, .int p_2), (0, .ref b_o), (1, .int p_1), (2, .int p_2)]) hx hb dX12_wander_54 hl (by decide) rfl (fun ls hl => ?_)
              refine g5_loop (α := (Int32) × (Int32) × (Int64) × (Nat → Int32)) (fun (q : (Int32) × (Int32) × (Int64) × (Nat → Int32)) (ls : Array Slot) (H : Heap) (locs : List Loc) => match q with | (k56_4, k56_3, k56_st, k56_wn) => lv_has ls 7 [(3, .int k56_3), (4, .int k56_4), (0, .ref b_o), (1, .int p_1), (2, .int p_2)] ∧ va_P G.1 vwCl [(b_rf, (arI G 7 v_rf)), (b_se, (arJ G 13 v_se)), (b_re, (arJ G 400 v_re)), (b_pt, (arI G 200 v_pt)), (b_ip, (arZ G 1536 v_ip)), (b_wn, (arI G 24 k56_wn)), (b_o, (oc12 0 u_sa b_rf b_ro b_im b_ke u_fd b_tp u_td u_fr u_to u_so u_wo u_fa u_bd u_nc b_nl u_co b_op b_ar u_le b_pi b_pa u_pd u_od b_ws b_hw u_la b_se b_re u_bk u_va u_su u_ce u_ho u_wy u_bt u_ps b_pt u_tg u_sn b_ip u_ic b_ah b_be b_me u_wd b_tr b_ld k56_st b_wn u_id)), (b_ro, (arI G 5740 v_ro))] H ∧ va_D A [(b_rf, (arI G 7 v_rf)), (b_se, (arJ G 13 v_se)), (b_re, (arJ G 400 v_re)), (b_pt, (arI G 200 v_pt)), (b_ip, (arZ G 1536 v_ip)), (b_wn, (arI G 24 k56_wn)), (b_o, (oc12 0 u_sa b_rf b_ro b_im b_ke u_fd b_tp u_td u_fr u_to u_so u_wo u_fa u_bd u_nc b_nl u_co b_op b_ar u_le b_pi b_pa u_pd u_od b_ws b_hw u_la b_se b_re u_bk u_va u_su u_ce u_ho u_wy u_bt u_ps b_pt u_tg u_sn b_ip u_ic b_ah b_be b_me u_wd b_tr b_ld k56_st b_wn u_id)), (b_ro, (arI G 5740 v_ro))] ∧ va_S A s.heap H locs ∧ (0 ≤ k56_4.toInt ∧ k56_4.toInt ≤ 24) ∧ (0 ≤ k56_3.toInt ∧ k56_3.toInt ≤ 63) ∧ (WNI k56_wn) ∧ (k56_st = wdS p_1.toInt64 (k56_4.toInt.toNat - 1)) ∧ (k56_3.toInt = wdC v_ro p_1.toInt64 p_2.toInt (k56_4.toInt.toNat - 1)) ∧ (k56_wn = wdR v_ro p_1.toInt64 p_2.toInt v_wn k56_4.toInt.toNat)) (fun (q : (Int32) × (Int32) × (Int64) × (Nat → Int32)) => match q with | (k56_4, k56_3, k56_st, k56_wn) => Int.toNat (24 - k56_4.toInt)) (0, p_2, p_1.toInt64, v_wn) ⟨lv_sub hl [1, 0, 2, 3, 4] rfl, hP, hD, hS, ⟨by decide, by decide⟩, i_9, r_wn, by rw [show (0 : Int32).toInt.toNat = 0 from by decide]; rfl, by rw [show (0 : Int32).toInt.toNat = 0 from by decide]; rfl, by rw [show (0 : Int32).toInt.toNat = 0 from by decide]; rfl⟩ ?_
              rintro ⟨k56_4, k56_3, k56_st, k56_wn⟩ ls H locs ⟨hl, hP, hD, hS, i_20, i_21, i_22, i_23, i_24, i_25⟩ ih_56_26
              have hl : lv_has ls 7 [(3, .int k56_3), (4, .int k56_4), (0, .ref b_o), (1, .int p_1), (2, .int p_2)] := hl
              have i_20 : 0 ≤ k56_4.toInt ∧ k56_4.toInt ≤ 24 := i_20
              have i_21 : 0 ≤ k56_3.toInt ∧ k56_3.toInt ≤ 63 := i_21
              have i_22 : WNI k56_wn := i_22
              have i_23 : k56_st = wdS p_1.toInt64 (k56_4.toInt.toNat - 1) := i_23
              have i_24 : k56_3.toInt = wdC v_ro p_1.toInt64 p_2.toInt (k56_4.toInt.toNat - 1) := i_24
              have i_25 : k56_wn = wdR v_ro p_1.toInt64 p_2.toInt v_wn k56_4.toInt.toNat := i_25
              refine g5_rs [(b_rf, (arI G 7 v_rf)), (b_se, (arJ G 13 v_se)), (b_re, (arJ G 400 v_re)), (b_pt, (arI G 200 v_pt)), (b_ip, (arZ G 1536 v_ip)), (b_wn, (arI G 24 k56_wn)), (b_o, (oc12 0 u_sa b_rf b_ro b_im b_ke u_fd b_tp u_td u_fr u_to u_so u_wo u_fa u_bd u_nc b_nl u_co b_op b_ar u_le b_pi b_pa u_pd u_od b_ws b_hw u_la b_se b_re u_bk u_va u_su u_ce u_ho u_wy u_bt u_ps b_pt u_tg u_sn b_ip u_ic b_ah b_be b_me u_wd b_tr b_ld k56_st b_wn u_id)), (b_ro, (arI G 5740 v_ro))] hP hD (fun hP hD => ?_)
              refine lv_iload hx hb dX12_wander_56 (lv_at hl 1 rfl) ?_
              refine lv_bipush (v := 24) hx hb dX12_wander_58 (by decide) ?_
              refine lv_icmp_ge (tgt := 162) hx hb dX12_wander_60 (by decide) (fun c_27 => ?_) (fun c_27 => ?_)
              ·
                have i_27 : k56_4.toInt ≥ 24 := by have z := g5_ge (a := k56_4.toInt) (b := 24) (by rfl) (by decide) c_27; omega
                refine lv_aload_n hx hb dX12_wander_162 rfl (lv_at hl 2 rfl) ?_
                refine lv_iconst (v := 1) hx hb dX12_wander_163 (by decide) ?_
                refine va_put (D := G.1) (ci := 12) (v := .int 1) (ty := .boolean) (C := RX12) (T := TX12) (N := 52) hx hb hts inG_X12 tyX12 tyX12_ok nmX12 hown hK hP hD hS 6 rfl rfl 51 (by decide) (hts _ fl_X12_478) (fun _ h9 => h9) rfl (by decide +kernel) rfl rfl (Nat.le_of_ble_eq_true rfl) dX12_wander_164 (fun H locs hP hD hS => ?_)
                refine g5_rs [(b_rf, (arI G 7 v_rf)), (b_se, (arJ G 13 v_se)), (b_re, (arJ G 400 v_re)), (b_pt, (arI G 200 v_pt)), (b_ip, (arZ G 1536 v_ip)), (b_wn, (arI G 24 k56_wn)), (b_o, (oc12 0 u_sa b_rf b_ro b_im b_ke u_fd b_tp u_td u_fr u_to u_so u_wo u_fa u_bd u_nc b_nl u_co b_op b_ar u_le b_pi b_pa u_pd u_od b_ws b_hw u_la b_se b_re u_bk u_va u_su u_ce u_ho u_wy u_bt u_ps b_pt u_tg u_sn b_ip u_ic b_ah b_be b_me u_wd b_tr b_ld k56_st b_wn 1)), (b_ro, (arI G 5740 v_ro))] hP hD (fun hP hD => ?_)
                refine lv_aload_n hx hb dX12_wander_167 rfl (lv_at hl 2 rfl) ?_
                obtain ⟨hPc, hDc, hFc⟩ := g5_sub3 (wc := [(b_o, (oc12 0 u_sa b_rf b_ro b_im b_ke u_fd b_tp u_td u_fr u_to u_so u_wo u_fa u_bd u_nc b_nl u_co b_op b_ar u_le b_pi b_pa u_pd u_od b_ws b_hw u_la b_se b_re u_bk u_va u_su u_ce u_ho u_wy u_bt u_ps b_pt u_tg u_sn b_ip u_ic b_ah b_be b_me u_wd b_tr b_ld k56_st b_wn 1)), (b_ro, (arI G 5740 v_ro)), (b_se, (arJ G 13 v_se)), (b_re, (arJ G 400 v_re)), (b_pt, (arI G 200 v_pt)), (b_ip, (arZ G 1536 v_ip))]) hP hD hS hA [6, 7, 1, 2, 3, 4] (by decide) rfl
                refine va_callv (va_runV (As := []) (rest := []) ⟨hx, hb, hml, hown, hts⟩ (n_markAll l G b_o b_ro b_se b_re b_pt b_ip b_rf b_im b_ke b_tp b_nl b_op b_ar b_pi b_pa b_ws b_hw b_ah b_be b_me b_tr b_ld b_wn H.size 0 u_sa u_fd u_td u_fr u_to u_so u_fa u_bd u_nc u_co u_le u_pd u_od u_la u_bk u_ce u_ho u_wy u_bt u_ps u_tg u_sn u_ic u_wd 1 u_wo u_va u_su k56_st v_ro v_se v_re v_pt v_ip h_u_td h_u_fr h_u_to h_u_bd h_u_nc h_u_co h_u_pd h_u_la h_u_bk h_u_ce h_u_ho h_u_wy h_u_bt h_u_ps h_u_ic ⟨by decide, by decide⟩ (r_ro) (r_pt)) (cwV 0 hts gV_X12_419 rfl rfl rfl hv_X12_markAll ⟨Nat.le_of_ble_eq_true rfl, Nat.le_of_ble_eq_true rfl⟩) (g5_preV hPc hK hDc hN hT hS hFc (ci := 12) (q0 := 0) rfl rfl) rfl rfl hl.1 rfl (lv_room (Nat.le_of_ble_eq_true rfl)) dX12_wander_168 ⟨Nat.le_of_ble_eq_true rfl, Nat.le_of_ble_eq_true rfl⟩) hS (fun q _ h => hFc q h) hFc (fun u t H1 locs ht hvm hw hB hz1 hk1 hS => ?_)
                obtain ⟨hP1, hD1⟩ := hB
                rw [ht] at hP1
                obtain ⟨z36, z37, z38, z39, z40, z41, z42, z43, z44, z45, z46, z47, z48, z49, z50, i_28, i_29, i_30, i_31, i_32, i_33, i_34, i_35, rfl⟩ := hw
                have i_28 : 0 ≤ z36.toInt ∧ z36.toInt ≤ 4840 := i_28
                have i_29 : 0 ≤ z37.toInt ∧ z37.toInt ≤ 1 := i_29
                have i_30 : 0 ≤ z40.toInt ∧ z40.toInt ≤ 63 := i_30
                have i_31 : 0 ≤ z41.toInt ∧ z41.toInt ≤ 23 := i_31
                have i_32 : 0 ≤ z42.toInt ∧ z42.toInt ≤ 3 := i_32
                have i_33 : 0 ≤ z43.toInt ∧ z43.toInt ≤ 1000000 := i_33
                have i_34 : 0 ≤ z44.toInt ∧ z44.toInt ≤ 200 := i_34
                have i_35 : PTI z49 := i_35
                obtain ⟨hP, hD⟩ := va_join (wr := [(b_rf, (arI G 7 v_rf)), (b_wn, (arI G 24 k56_wn))]) hP hD [6, 7, 1, 2, 3, 4] [0, 5] rfl rfl (by decide) (by decide) hk1 hFc hP1 hD1
                generalize H1 = H at hP hS ⊢
                refine g5_rs [(b_rf, (arI G 7 v_rf)), (b_wn, (arI G 24 k56_wn)), (b_o, (oc12 0 u_sa b_rf b_ro b_im b_ke u_fd b_tp u_td u_fr u_to u_so u_wo u_fa u_bd u_nc b_nl u_co b_op b_ar u_le b_pi b_pa u_pd u_od b_ws b_hw z36 b_se b_re z37 z38 z39 z40 z41 z42 z43 z44 b_pt z45 z46 b_ip u_ic b_ah b_be b_me u_wd b_tr b_ld k56_st b_wn 1)), (b_ro, (arI G 5740 v_ro)), (b_se, (arJ G 13 z47)), (b_re, (arJ G 400 z48)), (b_pt, (arI G 200 z49)), (b_ip, (arZ G 1536 z50))] hP hD (fun hP hD => ?_)
                refine lv_iconst (v := 0) hx hb dX12_wander_171 (by decide) ?_
                refine lv_istore (lv' := [(4, .int 0), (3, .int k56_3), (0, .ref b_o), (1, .int p_1), (2, .int p_2)]) hx hb dX12_wander_172 hl (by decide) rfl (fun ls hl => ?_)
                refine lv_iconst (v := 0) hx hb dX12_wander_174 (by decide) ?_
                refine lv_istore (lv' := [(5, .int 0), (4, .int 0), (3, .int k56_3), (0, .ref b_o), (1, .int p_1), (2, .int p_2)]) hx hb dX12_wander_175 hl (by decide) rfl (fun ls hl => ?_)
                refine g5_loop (α := (Int32) × (Int32)) (fun (q : (Int32) × (Int32)) (ls : Array Slot) (H : Heap) (locs : List Loc) => match q with | (k177_5, k177_4) => lv_has ls 7 [(4, .int k177_4), (5, .int k177_5), (3, .int k56_3), (0, .ref b_o), (1, .int p_1), (2, .int p_2)] ∧ va_P G.1 vwCl [(b_rf, (arI G 7 v_rf)), (b_wn, (arI G 24 k56_wn)), (b_o, (oc12 0 u_sa b_rf b_ro b_im b_ke u_fd b_tp u_td u_fr u_to u_so u_wo u_fa u_bd u_nc b_nl u_co b_op b_ar u_le b_pi b_pa u_pd u_od b_ws b_hw z36 b_se b_re z37 z38 z39 z40 z41 z42 z43 z44 b_pt z45 z46 b_ip u_ic b_ah b_be b_me u_wd b_tr b_ld k56_st b_wn 1)), (b_ro, (arI G 5740 v_ro)), (b_se, (arJ G 13 z47)), (b_re, (arJ G 400 z48)), (b_pt, (arI G 200 z49)), (b_ip, (arZ G 1536 z50))] H ∧ va_D A [(b_rf, (arI G 7 v_rf)), (b_wn, (arI G 24 k56_wn)), (b_o, (oc12 0 u_sa b_rf b_ro b_im b_ke u_fd b_tp u_td u_fr u_to u_so u_wo u_fa u_bd u_nc b_nl u_co b_op b_ar u_le b_pi b_pa u_pd u_od b_ws b_hw z36 b_se b_re z37 z38 z39 z40 z41 z42 z43 z44 b_pt z45 z46 b_ip u_ic b_ah b_be b_me u_wd b_tr b_ld k56_st b_wn 1)), (b_ro, (arI G 5740 v_ro)), (b_se, (arJ G 13 z47)), (b_re, (arJ G 400 z48)), (b_pt, (arI G 200 z49)), (b_ip, (arZ G 1536 z50))] ∧ va_S A s.heap H locs ∧ (0 ≤ k177_5.toInt ∧ k177_5.toInt ≤ 24) ∧ (0 ≤ k177_4.toInt ∧ k177_4.toInt ≤ 24) ∧ (k177_4.toInt ≤ k177_5.toInt)) (fun (q : (Int32) × (Int32)) => match q with | (k177_5, k177_4) => Int.toNat (24 - k177_5.toInt)) (0, 0) ⟨lv_sub hl [1, 0, 2, 3, 4, 5] rfl, hP, hD, hS, ⟨by decide, by decide⟩, ⟨by decide, by decide⟩, Int.le_refl _⟩ ?_
                rintro ⟨k177_5, k177_4⟩ ls H locs ⟨hl, hP, hD, hS, i_51, i_52, i_53⟩ ih_177_54
                have hl : lv_has ls 7 [(4, .int k177_4), (5, .int k177_5), (3, .int k56_3), (0, .ref b_o), (1, .int p_1), (2, .int p_2)] := hl
                have i_51 : 0 ≤ k177_5.toInt ∧ k177_5.toInt ≤ 24 := i_51
                have i_52 : 0 ≤ k177_4.toInt ∧ k177_4.toInt ≤ 24 := i_52
                have i_53 : k177_4.toInt ≤ k177_5.toInt := i_53
                refine g5_rs [(b_rf, (arI G 7 v_rf)), (b_wn, (arI G 24 k56_wn)), (b_o, (oc12 0 u_sa b_rf b_ro b_im b_ke u_fd b_tp u_td u_fr u_to u_so u_wo u_fa u_bd u_nc b_nl u_co b_op b_ar u_le b_pi b_pa u_pd u_od b_ws b_hw z36 b_se b_re z37 z38 z39 z40 z41 z42 z43 z44 b_pt z45 z46 b_ip u_ic b_ah b_be b_me u_wd b_tr b_ld k56_st b_wn 1)), (b_ro, (arI G 5740 v_ro)), (b_se, (arJ G 13 z47)), (b_re, (arJ G 400 z48)), (b_pt, (arI G 200 z49)), (b_ip, (arZ G 1536 z50))] hP hD (fun hP hD => ?_)
                refine lv_iload hx hb dX12_wander_177 (lv_at hl 1 rfl) ?_
                refine lv_bipush (v := 24) hx hb dX12_wander_179 (by decide) ?_
                refine lv_icmp_ge (tgt := 221) hx hb dX12_wander_181 (by decide) (fun c_55 => ?_) (fun c_55 => ?_)
                ·
                  have i_55 : k177_5.toInt ≥ 24 := by have z := g5_ge (a := k177_5.toInt) (b := 24) (by rfl) (by decide) c_55; omega
                  refine lv_aload_n hx hb dX12_wander_221 rfl (lv_at hl 3 rfl) ?_
                  refine lv_iload hx hb dX12_wander_222 (lv_at hl 0 rfl) ?_
                  obtain ⟨hPc, hDc, hFc⟩ := g5_sub3 (wc := [(b_o, (oc12 0 u_sa b_rf b_ro b_im b_ke u_fd b_tp u_td u_fr u_to u_so u_wo u_fa u_bd u_nc b_nl u_co b_op b_ar u_le b_pi b_pa u_pd u_od b_ws b_hw z36 b_se b_re z37 z38 z39 z40 z41 z42 z43 z44 b_pt z45 z46 b_ip u_ic b_ah b_be b_me u_wd b_tr b_ld k56_st b_wn 1)), (b_rf, (arI G 7 v_rf))]) hP hD hS hA [2, 0] (by decide) rfl
                  refine va_calli (va_runV (As := [.int k177_4]) (rest := []) ⟨hx, hb, hml, hown, hts⟩ (n_tell l G b_o b_rf b_ro b_im b_ke b_tp b_nl b_op b_ar b_pi b_pa b_ws b_hw b_se b_re b_pt b_ip b_ah b_be b_me b_tr b_ld b_wn H.size 0 u_sa u_fd u_td u_fr u_to u_so u_fa u_bd u_nc u_co u_le u_pd u_od z36 z37 z40 z41 z42 z43 z44 z45 z46 u_ic u_wd 1 k177_4 u_wo z38 z39 k56_st v_rf h_u_td h_u_fr h_u_to h_u_bd h_u_nc h_u_co h_u_pd i_28 i_29 i_30 i_31 i_32 i_33 i_34 h_u_ic ⟨by decide, by decide⟩ ⟨by omega, by omega⟩) (cwV 1 hts gV_X12_125 rfl rfl rfl hv_X12_tell ⟨Nat.le_of_ble_eq_true rfl, Nat.le_of_ble_eq_true rfl⟩) (g5_preV hPc hK hDc hN hT hS hFc (ci := 12) (q0 := 0) rfl rfl) rfl rfl hl.1 rfl (lv_room (Nat.le_of_ble_eq_true rfl)) dX12_wander_224 ⟨Nat.le_of_ble_eq_true rfl, Nat.le_of_ble_eq_true rfl⟩) hS (fun q _ h => hFc q h) hFc (fun r u t H1 locs ht hvm hw hB hz1 hk1 hS => ?_)
                  obtain ⟨hP1, hD1⟩ := hB
                  rw [ht] at hP1
                  obtain ⟨z57, z58, z59, i_56, y60, rfl⟩ := hw
                  have i_56 : 0 ≤ z58.toInt ∧ z58.toInt ≤ 1 := i_56
                  obtain ⟨hP, hD⟩ := va_join (wr := [(b_wn, (arI G 24 k56_wn)), (b_ro, (arI G 5740 v_ro)), (b_se, (arJ G 13 z47)), (b_re, (arJ G 400 z48)), (b_pt, (arI G 200 z49)), (b_ip, (arZ G 1536 z50))]) hP hD [2, 0] [1, 3, 4, 5, 6, 7] rfl rfl (by decide) (by decide) hk1 hFc hP1 hD1
                  generalize H1 = H at hP hS ⊢
                  refine g5_rs [(b_wn, (arI G 24 k56_wn)), (b_ro, (arI G 5740 v_ro)), (b_se, (arJ G 13 z47)), (b_re, (arJ G 400 z48)), (b_pt, (arI G 200 z49)), (b_ip, (arZ G 1536 z50)), (b_o, (oc12 0 z57 b_rf b_ro b_im b_ke u_fd b_tp u_td u_fr u_to u_so u_wo u_fa u_bd u_nc b_nl u_co b_op b_ar u_le b_pi b_pa u_pd u_od b_ws b_hw z36 b_se b_re z37 z38 z39 z40 z41 z42 z43 z44 b_pt z45 z46 b_ip z58 b_ah b_be b_me u_wd b_tr b_ld k56_st b_wn 1)), (b_rf, (arI G 7 z59))] hP hD (fun hP hD => ?_)
                  refine g5_ti (v := k177_4) y60 ?_
                  exact W.iret (v := k177_4) hx hb hr (fun t ht hW => ⟨⟨k177_4, [(b_o, (oc12 0 z57 b_rf b_ro b_im b_ke u_fd b_tp u_td u_fr u_to u_so u_wo u_fa u_bd u_nc b_nl u_co b_op b_ar u_le b_pi b_pa u_pd u_od b_ws b_hw z36 b_se b_re z37 z38 z39 z40 z41 z42 z43 z44 b_pt z45 z46 b_ip z58 b_ah b_be b_me u_wd b_tr b_ld k56_st b_wn 1)), (b_rf, (arI G 7 z59)), (b_ro, (arI G 5740 v_ro)), (b_se, (arJ G 13 z47)), (b_re, (arJ G 400 z48)), (b_pt, (arI G 200 z49)), (b_ip, (arZ G 1536 z50)), (b_wn, (arI G 24 k56_wn))], rfl, ⟨k177_4, 0, z57, z36, z37, z38, z39, z40, z41, z42, z43, z44, z45, z46, z58, k56_st, 1, z59, z47, z48, z49, z50, k56_wn, i_28, i_29, i_30, i_31, i_32, i_33, i_34, i_35, i_56, i_22, ⟨by have zc_o_id : (1 : Int32).toInt = 1 := (by decide); omega, by have zc_o_id : (1 : Int32).toInt = 1 := (by decide); omega⟩, by rw [(wand_0 (f := v_ro) (g := v_wn) (n := u_id) (s := p_1) (c := p_2) (by unfold okD; omega) i_13).1, i_25, show k56_4.toInt.toNat = 24 by omega], (wand_0 (f := v_ro) (g := v_wn) (n := u_id) (s := p_1) (c := p_2) (by unfold okD; omega) i_13).2.symm, rfl, rfl⟩, by rw [ht]; exact hP.sub [6, 7, 1, 2, 3, 4, 5, 0] rfl, hD.sub [6, 7, 1, 2, 3, 4, 5, 0] (by decide) rfl⟩, hS.F ht⟩) hS.2.2 dX12_wander_227
                ·
                  have i_55 : k177_5.toInt < 24 := by have z := g5_geN (a := k177_5.toInt) (b := 24) (by rfl) (by decide) c_55; omega
                  refine lv_iload hx hb dX12_wander_184 (lv_at hl 0 rfl) ?_
                  refine lv_aload_n hx hb dX12_wander_186 rfl (lv_at hl 3 rfl) ?_
                  refine va_get (D := G.1) (ci := 12) (v := .ref b_ip) (C := RX12) (T := TX12) (N := 52) hx hb hts inG_X12 hown hK hP 2 rfl rfl 41 (by decide) (hts _ fl_X12_85) (fun _ h9 => h9) rfl dX12_wander_187 ?_
                  refine lv_bipush (v := 64) hx hb dX12_wander_190 (by decide) ?_
                  refine lv_iload hx hb dX12_wander_192 (lv_at hl 1 rfl) ?_
                  refine lv_imul hx hb dX12_wander_194 ?_
                  have t_61 : (64 * k177_5).toInt = 64 * k177_5.toInt := g5_imul (a := 64) (b := k177_5.toInt) (by decide) (by rfl) (by omega) (by omega)
                  refine lv_aload_n hx hb dX12_wander_195 rfl (lv_at hl 3 rfl) ?_
                  refine va_get (D := G.1) (ci := 12) (v := .ref b_wn) (C := RX12) (T := TX12) (N := 52) hx hb hts inG_X12 hown hK hP 2 rfl rfl 50 (by decide) (hts _ fl_X12_104) (fun _ h9 => h9) rfl dX12_wander_196 ?_
                  refine lv_iload hx hb dX12_wander_199 (lv_at hl 1 rfl) ?_
                  refine va_iald hx hb hK hP 1 0 rfl rfl (i := k177_5) (vp_in_iff.mpr ⟨by omega, by omega⟩) dX12_wander_201 ?_
                  have hr_62 : 0 ≤ (k56_wn k177_5.toNatClampNeg).toInt ∧ (k56_wn k177_5.toNatClampNeg).toInt ≤ 63 := i_22 (k177_5.toNatClampNeg)
                  refine lv_iadd hx hb dX12_wander_202 ?_
                  have t_63 : ((64 * k177_5) + (k56_wn k177_5.toNatClampNeg)).toInt = (64 * k177_5).toInt + (k56_wn k177_5.toNatClampNeg).toInt := g5_iadd (a := (64 * k177_5).toInt) (b := (k56_wn k177_5.toNatClampNeg).toInt) (by rfl) (by rfl) (by omega) (by omega)
                  refine va_zald hx hb hK hP 7 2 rfl rfl (i := ((64 * k177_5) + (k56_wn k177_5.toNatClampNeg))) (vp_in_iff.mpr ⟨by omega, by omega⟩) dX12_wander_203 ?_
                  refine lv_if_eq (tgt := 211) hx hb dX12_wander_204 (by decide) (fun c_64 => ?_) (fun c_64 => ?_)
                  ·
                    have i_64 : (z50 ((64 * k177_5) + (k56_wn k177_5.toNatClampNeg)).toNatClampNeg).toInt = 0 := by have z := g5_eq (a := (z50 ((64 * k177_5) + (k56_wn k177_5.toNatClampNeg)).toNatClampNeg).toInt) (b := 0) (by rfl) (by decide) c_64; omega
                    refine lv_iconst (v := 0) hx hb dX12_wander_211 (by decide) ?_
                    refine lv_iadd hx hb dX12_wander_212 ?_
                    refine g5_ti (v := k177_4) (by simp) ?_
                    refine lv_istore (lv' := [(4, .int k177_4), (5, .int k177_5), (3, .int k56_3), (0, .ref b_o), (1, .int p_1), (2, .int p_2)]) hx hb dX12_wander_213 hl (by decide) rfl (fun ls hl => ?_)
                    refine lv_iinc (v := (k177_5 + 1)) (lv' := [(5, .int (k177_5 + 1)), (4, .int k177_4), (3, .int k56_3), (0, .ref b_o), (1, .int p_1), (2, .int p_2)]) hx hb dX12_wander_215 hl (k := 1) rfl rfl (by decide) rfl (fun ls hl => ?_)
                    have t_65 : (k177_5 + 1).toInt = k177_5.toInt + 1 := g5_iadd (a := k177_5.toInt) (b := 1) rfl (by decide) (by omega) (by omega)
                    refine lv_goto (tgt := 177) hx hb dX12_wander_218 (by decide) ?_
                    exact ih_177_54 ((k177_5 + 1), k177_4) ls H locs (show Int.toNat (24 - (k177_5 + 1).toInt) < Int.toNat (24 - k177_5.toInt) from g_up (show k177_5.toInt < (k177_5 + 1).toInt by omega) (show k177_5.toInt < 24 by omega)) ⟨lv_sub hl [1, 0, 2, 3, 4, 5] rfl, hP, hD, hS, ⟨by omega, by omega⟩, i_52, by omega⟩
                  ·
                    have n_64 : gNe ((z50 ((64 * k177_5) + (k56_wn k177_5.toNatClampNeg)).toNatClampNeg).toInt) (0) := by have z := g5_eqN (a := (z50 ((64 * k177_5) + (k56_wn k177_5.toNatClampNeg)).toNatClampNeg).toInt) (b := 0) (by rfl) (by decide) c_64; unfold gNe; omega
                    refine lv_iconst (v := 1) hx hb dX12_wander_207 (by decide) ?_
                    refine lv_goto (tgt := 212) hx hb dX12_wander_208 (by decide) ?_
                    refine lv_iadd hx hb dX12_wander_212 ?_
                    have t_66 : (k177_4 + 1).toInt = k177_4.toInt + 1 := g5_iadd (a := k177_4.toInt) (b := 1) (by rfl) (by decide) (by omega) (by omega)
                    refine lv_istore (lv' := [(4, .int (k177_4 + 1)), (5, .int k177_5), (3, .int k56_3), (0, .ref b_o), (1, .int p_1), (2, .int p_2)]) hx hb dX12_wander_213 hl (by decide) rfl (fun ls hl => ?_)
                    refine lv_iinc (v := (k177_5 + 1)) (lv' := [(5, .int (k177_5 + 1)), (4, .int (k177_4 + 1)), (3, .int k56_3), (0, .ref b_o), (1, .int p_1), (2, .int p_2)]) hx hb dX12_wander_215 hl (k := 1) rfl rfl (by decide) rfl (fun ls hl => ?_)
                    have t_67 : (k177_5 + 1).toInt = k177_5.toInt + 1 := g5_iadd (a := k177_5.toInt) (b := 1) rfl (by decide) (by omega) (by omega)
                    refine lv_goto (tgt := 177) hx hb dX12_wander_218 (by decide) ?_
                    exact ih_177_54 ((k177_5 + 1), (k177_4 + 1)) ls H locs (show Int.toNat (24 - (k177_5 + 1).toInt) < Int.toNat (24 - k177_5.toInt) from g_up (show k177_5.toInt < (k177_5 + 1).toInt by omega) (show k177_5.toInt < 24 by omega)) ⟨lv_sub hl [1, 0, 2, 3, 4, 5] rfl, hP, hD, hS, ⟨by omega, by omega⟩, ⟨by omega, by omega⟩, by omega⟩
              ·
                have i_27 : k56_4.toInt < 24 := by have z := g5_geN (a := k56_4.toInt) (b := 24) (by rfl) (by decide) c_27; omega
                refine lv_iload hx hb dX12_wander_63 (lv_at hl 1 rfl) ?_
                refine lv_if_le (tgt := 148) hx hb dX12_wander_65 (by decide) (fun c_68 => ?_) (fun c_68 => ?_)
                ·
                  have i_68 : k56_4.toInt ≤ 0 := by have z := g5_le (a := k56_4.toInt) (b := 0) (by rfl) (by decide) c_68; omega
                  refine lv_aload_n hx hb dX12_wander_148 rfl (lv_at hl 2 rfl) ?_
                  refine va_get (D := G.1) (ci := 12) (v := .ref b_wn) (C := RX12) (T := TX12) (N := 52) hx hb hts inG_X12 hown hK hP 6 rfl rfl 50 (by decide) (hts _ fl_X12_104) (fun _ h9 => h9) rfl dX12_wander_149 ?_
                  refine lv_iload hx hb dX12_wander_152 (lv_at hl 1 rfl) ?_
                  refine lv_iload_n hx hb dX12_wander_154 rfl (lv_at hl 0 rfl) ?_
                  refine va_iast hx hb hK hP hD hS 5 0 rfl rfl (i := k56_4) (x := k56_3) (vp_in_iff.mpr ⟨by omega, by omega⟩) dX12_wander_155 (fun H locs hP hD hS => ?_)
                  refine g5_rs [(b_rf, (arI G 7 v_rf)), (b_se, (arJ G 13 v_se)), (b_re, (arJ G 400 v_re)), (b_pt, (arI G 200 v_pt)), (b_ip, (arZ G 1536 v_ip)), (b_wn, (arI G 24 (upd k56_wn k56_4.toNatClampNeg k56_3))), (b_o, (oc12 0 u_sa b_rf b_ro b_im b_ke u_fd b_tp u_td u_fr u_to u_so u_wo u_fa u_bd u_nc b_nl u_co b_op b_ar u_le b_pi b_pa u_pd u_od b_ws b_hw u_la b_se b_re u_bk u_va u_su u_ce u_ho u_wy u_bt u_ps b_pt u_tg u_sn b_ip u_ic b_ah b_be b_me u_wd b_tr b_ld k56_st b_wn u_id)), (b_ro, (arI G 5740 v_ro))] hP hD (fun hP hD => ?_)
                  refine lv_iinc (v := (k56_4 + 1)) (lv' := [(4, .int (k56_4 + 1)), (3, .int k56_3), (0, .ref b_o), (1, .int p_1), (2, .int p_2)]) hx hb dX12_wander_156 hl (k := 1) rfl rfl (by decide) rfl (fun ls hl => ?_)
                  have t_69 : (k56_4 + 1).toInt = k56_4.toInt + 1 := g5_iadd (a := k56_4.toInt) (b := 1) rfl (by decide) (by omega) (by omega)
                  refine lv_goto (tgt := 56) hx hb dX12_wander_159 (by decide) ?_
                  exact ih_56_26 ((k56_4 + 1), k56_3, k56_st, (upd k56_wn k56_4.toNatClampNeg k56_3)) ls H locs (show Int.toNat (24 - (k56_4 + 1).toInt) < Int.toNat (24 - k56_4.toInt) from g_up (show k56_4.toInt < (k56_4 + 1).toInt by omega) (show k56_4.toInt < 24 by omega)) ⟨lv_sub hl [1, 0, 2, 3, 4] rfl, hP, hD, hS, ⟨by omega, by omega⟩, i_21, wn_upd i_22 (by omega), by rw [show (k56_4 + 1).toInt.toNat - 1 = k56_4.toInt.toNat - 1 by omega]; exact i_23, by rw [show (k56_4 + 1).toInt.toNat - 1 = k56_4.toInt.toNat - 1 by omega]; exact i_24, by rw [show (k56_4 + 1).toInt.toNat = k56_4.toInt.toNat + 1 by omega]; exact wdR_S i_25 rfl (by rw [show k56_4.toInt.toNat = k56_4.toInt.toNat - 1 by omega]; exact i_24)⟩
                ·
                  have i_68 : k56_4.toInt > 0 := by have z := g5_leN (a := k56_4.toInt) (b := 0) (by rfl) (by decide) c_68; omega
                  refine lv_aload_n hx hb dX12_wander_68 rfl (lv_at hl 2 rfl) ?_
                  refine lv_aload_n hx hb dX12_wander_69 rfl (lv_at hl 2 rfl) ?_
                  refine va_get (D := G.1) (ci := 12) (v := .long k56_st) (C := RX12) (T := TX12) (N := 52) hx hb hts inG_X12 hown hK hP 6 rfl rfl 49 (by decide) (hts _ fl_X12_469) (fun _ h9 => h9) rfl dX12_wander_70 ?_
                  refine lv_ldc2 (v := 1103) hx hb hown (hts _ kl_X12_472) dX12_wander_73 ?_
                  refine lv_lmul hx hb dX12_wander_76 ?_
                  refine lv_ldc2 (v := 12345) hx hb hown (hts _ kl_X12_474) dX12_wander_77 ?_
                  refine lv_ladd hx hb dX12_wander_80 ?_
                  refine lv_ldc2 (v := 1000003) hx hb hown (hts _ kl_X12_476) dX12_wander_81 ?_
                  refine lv_lrem hx hb dX12_wander_84 (by decide) ?_
                  refine va_put (D := G.1) (ci := 12) (v := .long (((k56_st * 1103) + 12345) - ((k56_st * 1103) + 12345) / 1000003 * 1000003)) (ty := .long) (C := RX12) (T := TX12) (N := 52) hx hb hts inG_X12 tyX12 tyX12_ok nmX12 hown hK hP hD hS 6 rfl rfl 49 (by decide) (hts _ fl_X12_469) (fun _ h9 => h9) rfl (by decide +kernel) rfl rfl (Nat.le_of_ble_eq_true rfl) dX12_wander_85 (fun H locs hP hD hS => ?_)
                  refine g5_rs [(b_rf, (arI G 7 v_rf)), (b_se, (arJ G 13 v_se)), (b_re, (arJ G 400 v_re)), (b_pt, (arI G 200 v_pt)), (b_ip, (arZ G 1536 v_ip)), (b_wn, (arI G 24 k56_wn)), (b_o, (oc12 0 u_sa b_rf b_ro b_im b_ke u_fd b_tp u_td u_fr u_to u_so u_wo u_fa u_bd u_nc b_nl u_co b_op b_ar u_le b_pi b_pa u_pd u_od b_ws b_hw u_la b_se b_re u_bk u_va u_su u_ce u_ho u_wy u_bt u_ps b_pt u_tg u_sn b_ip u_ic b_ah b_be b_me u_wd b_tr b_ld (((k56_st * 1103) + 12345) - ((k56_st * 1103) + 12345) / 1000003 * 1000003) b_wn u_id)), (b_ro, (arI G 5740 v_ro))] hP hD (fun hP hD => ?_)
                  refine lv_aload_n hx hb dX12_wander_88 rfl (lv_at hl 2 rfl) ?_
                  refine va_get (D := G.1) (ci := 12) (v := .long (((k56_st * 1103) + 12345) - ((k56_st * 1103) + 12345) / 1000003 * 1000003)) (C := RX12) (T := TX12) (N := 52) hx hb hts inG_X12 hown hK hP 6 rfl rfl 49 (by decide) (hts _ fl_X12_469) (fun _ h9 => h9) rfl dX12_wander_89 ?_
                  refine lv_ldc2 (v := 5) hx hb hown (hts _ kl_X12_154) dX12_wander_92 ?_
                  refine lv_lrem hx hb dX12_wander_95 (by decide) ?_
                  refine lv_l2i (v := ((((k56_st * 1103) + 12345) - ((k56_st * 1103) + 12345) / 1000003 * 1000003) - (((k56_st * 1103) + 12345) - ((k56_st * 1103) + 12345) / 1000003 * 1000003) / 5 * 5).toInt32) hx hb dX12_wander_96 rfl ?_
                  obtain ⟨y70, hy_70⟩ : ∃ y : Int32, ((((k56_st * 1103) + 12345) - ((k56_st * 1103) + 12345) / 1000003 * 1000003) - (((k56_st * 1103) + 12345) - ((k56_st * 1103) + 12345) / 1000003 * 1000003) / 5 * 5).toInt32 = y := ⟨_, rfl⟩
                  refine g5_ti (v := y70) hy_70 ?_
                  have hk_70 : wdK p_1.toInt64 ((k56_4.toInt.toNat - 1) + 1) = y70 := wdk_of i_23 hy_70
                  have hg_70 : 0 ≤ y70.toInt ∧ y70.toInt ≤ 4 := by rw [← hk_70]; exact wdK_rg (by rw [Int32.toInt_toInt64]; omega) (by rw [Int32.toInt_toInt64]; omega) _
                  refine lv_istore (lv' := [(5, .int y70), (3, .int k56_3), (4, .int k56_4), (0, .ref b_o), (1, .int p_1), (2, .int p_2)]) hx hb dX12_wander_97 hl (by decide) rfl (fun ls hl => ?_)
                  refine lv_iload hx hb dX12_wander_99 (lv_at hl 0 rfl) ?_
                  refine lv_iconst (v := 4) hx hb dX12_wander_101 (by decide) ?_
                  refine lv_icmp_ne (tgt := 109) hx hb dX12_wander_102 (by decide) (fun c_71 => ?_) (fun c_71 => ?_)
                  ·
                    have n_71 : gNe (y70.toInt) (4) := by have z := g5_ne (a := y70.toInt) (b := 4) (by rfl) (by decide) c_71; unfold gNe; omega
                    have i_71 : y70.toInt ≤ 3 := by have z := g5_ne (a := y70.toInt) (b := 4) (by rfl) (by decide) c_71; omega
                    refine lv_iload_n hx hb dX12_wander_109 rfl (lv_at hl 1 rfl) ?_
                    refine lv_iload hx hb dX12_wander_110 (lv_at hl 0 rfl) ?_
                    obtain ⟨hPc, hDc, hFc⟩ := g5_sub3 (wc := []) hP hD hS hA [] (by decide) rfl
                    refine va_calli (va_runS (As := [.int k56_3, .int y70]) (rest := []) ⟨hx, hb, hml, hown, hts⟩ (n_besideE l G H.size k56_3 y70 i_21 ⟨by omega, by omega⟩) (va_cwS 2 hts gS_X12_374 rfl rfl rfl hs_X12_beside ⟨Nat.le_of_ble_eq_true rfl, Nat.le_of_ble_eq_true rfl⟩) (g5_preS hPc hK hDc hN hT hS hFc) rfl rfl hl.1 rfl (lv_room (Nat.le_of_ble_eq_true rfl)) dX12_wander_112 ⟨Nat.le_of_ble_eq_true rfl, Nat.le_of_ble_eq_true rfl⟩) hS (fun q _ h => hFc q h) hFc (fun r u t H1 locs ht hvm hw hB hz1 hk1 hS => ?_)
                    obtain ⟨hP1, hD1⟩ := hB
                    rw [ht] at hP1
                    obtain ⟨z74, i_72, i_73, y75, rfl⟩ := hw
                    have i_72 : z74.toInt = bs k56_3.toInt y70.toInt := i_72
                    have i_73 : -1 ≤ z74.toInt ∧ z74.toInt ≤ 63 := i_73
                    have hP := g5_same hP hk1
                    generalize H1 = H at hP hS ⊢
                    refine g5_ti (v := z74) y75 ?_
                    refine lv_istore (lv' := [(6, .int z74), (5, .int y70), (3, .int k56_3), (4, .int k56_4), (0, .ref b_o), (1, .int p_1), (2, .int p_2)]) hx hb dX12_wander_115 hl (by decide) rfl (fun ls hl => ?_)
                    refine lv_iload hx hb dX12_wander_117 (lv_at hl 0 rfl) ?_
                    refine lv_iconst (v := (-1)) hx hb dX12_wander_119 (by decide) ?_
                    refine lv_icmp_eq (tgt := 146) hx hb dX12_wander_120 (by decide) (fun c_76 => ?_) (fun c_76 => ?_)
                    ·
                      have i_76 : z74.toInt = (-1) := by have z := g5_eq (a := z74.toInt) (b := (-1)) (by rfl) (by decide) c_76; omega
                      refine lv_iload_n hx hb dX12_wander_146 rfl (lv_at hl 2 rfl) ?_
                      refine lv_istore_n (lv' := [(3, .int k56_3), (6, .int z74), (5, .int y70), (4, .int k56_4), (0, .ref b_o), (1, .int p_1), (2, .int p_2)]) hx hb dX12_wander_147 rfl hl (by decide) rfl (fun ls hl => ?_)
                      refine lv_aload_n hx hb dX12_wander_148 rfl (lv_at hl 4 rfl) ?_
                      refine va_get (D := G.1) (ci := 12) (v := .ref b_wn) (C := RX12) (T := TX12) (N := 52) hx hb hts inG_X12 hown hK hP 6 rfl rfl 50 (by decide) (hts _ fl_X12_104) (fun _ h9 => h9) rfl dX12_wander_149 ?_
                      refine lv_iload hx hb dX12_wander_152 (lv_at hl 3 rfl) ?_
                      refine lv_iload_n hx hb dX12_wander_154 rfl (lv_at hl 0 rfl) ?_
                      refine va_iast hx hb hK hP hD hS 5 0 rfl rfl (i := k56_4) (x := k56_3) (vp_in_iff.mpr ⟨by omega, by omega⟩) dX12_wander_155 (fun H locs hP hD hS => ?_)
                      refine g5_rs [(b_rf, (arI G 7 v_rf)), (b_se, (arJ G 13 v_se)), (b_re, (arJ G 400 v_re)), (b_pt, (arI G 200 v_pt)), (b_ip, (arZ G 1536 v_ip)), (b_wn, (arI G 24 (upd k56_wn k56_4.toNatClampNeg k56_3))), (b_o, (oc12 0 u_sa b_rf b_ro b_im b_ke u_fd b_tp u_td u_fr u_to u_so u_wo u_fa u_bd u_nc b_nl u_co b_op b_ar u_le b_pi b_pa u_pd u_od b_ws b_hw u_la b_se b_re u_bk u_va u_su u_ce u_ho u_wy u_bt u_ps b_pt u_tg u_sn b_ip u_ic b_ah b_be b_me u_wd b_tr b_ld (((k56_st * 1103) + 12345) - ((k56_st * 1103) + 12345) / 1000003 * 1000003) b_wn u_id)), (b_ro, (arI G 5740 v_ro))] hP hD (fun hP hD => ?_)
                      refine lv_iinc (v := (k56_4 + 1)) (lv' := [(4, .int (k56_4 + 1)), (3, .int k56_3), (6, .int z74), (5, .int y70), (0, .ref b_o), (1, .int p_1), (2, .int p_2)]) hx hb dX12_wander_156 hl (k := 3) rfl rfl (by decide) rfl (fun ls hl => ?_)
                      have t_77 : (k56_4 + 1).toInt = k56_4.toInt + 1 := g5_iadd (a := k56_4.toInt) (b := 1) rfl (by decide) (by omega) (by omega)
                      refine lv_goto (tgt := 56) hx hb dX12_wander_159 (by decide) ?_
                      exact ih_56_26 ((k56_4 + 1), k56_3, (((k56_st * 1103) + 12345) - ((k56_st * 1103) + 12345) / 1000003 * 1000003), (upd k56_wn k56_4.toNatClampNeg k56_3)) ls H locs (show Int.toNat (24 - (k56_4 + 1).toInt) < Int.toNat (24 - k56_4.toInt) from g_up (show k56_4.toInt < (k56_4 + 1).toInt by omega) (show k56_4.toInt < 24 by omega)) ⟨lv_sub hl [1, 0, 4, 5, 6] rfl, hP, hD, hS, ⟨by omega, by omega⟩, i_21, wn_upd i_22 (by omega), by rw [show (k56_4 + 1).toInt.toNat - 1 = (k56_4.toInt.toNat - 1) + 1 by omega, wdS_S, ← i_23]; rfl, by rw [show (k56_4 + 1).toInt.toNat - 1 = (k56_4.toInt.toNat - 1) + 1 by omega]; exact (by rw [wdC_S hk_70, ← i_24, ws_n (by rw [← i_72]; omega)]), by rw [show (k56_4 + 1).toInt.toNat = k56_4.toInt.toNat + 1 by omega]; exact wdR_S i_25 rfl (by rw [show k56_4.toInt.toNat = (k56_4.toInt.toNat - 1) + 1 by omega]; exact (by rw [wdC_S hk_70, ← i_24, ws_n (by rw [← i_72]; omega)]))⟩
                    ·
                      have n_76 : gNe (z74.toInt) ((-1)) := by have z := g5_eqN (a := z74.toInt) (b := (-1)) (by rfl) (by decide) c_76; unfold gNe; omega
                      have i_76 : z74.toInt ≥ 0 := by have z := g5_eqN (a := z74.toInt) (b := (-1)) (by rfl) (by decide) c_76; omega
                      refine lv_aload_n hx hb dX12_wander_123 rfl (lv_at hl 4 rfl) ?_
                      refine lv_iload hx hb dX12_wander_124 (lv_at hl 0 rfl) ?_
                      refine lv_if_ge (tgt := 133) hx hb dX12_wander_126 (by decide) (fun c_78 => ?_) (fun c_78 => ?_)
                      ·
                        have i_78 : z74.toInt ≥ 0 := by have z := g5_ge (a := z74.toInt) (b := 0) (by rfl) (by decide) c_78; omega
                        refine lv_iload hx hb dX12_wander_133 (lv_at hl 0 rfl) ?_
                        obtain ⟨hPc, hDc, hFc⟩ := g5_sub3 (wc := [(b_o, (oc12 0 u_sa b_rf b_ro b_im b_ke u_fd b_tp u_td u_fr u_to u_so u_wo u_fa u_bd u_nc b_nl u_co b_op b_ar u_le b_pi b_pa u_pd u_od b_ws b_hw u_la b_se b_re u_bk u_va u_su u_ce u_ho u_wy u_bt u_ps b_pt u_tg u_sn b_ip u_ic b_ah b_be b_me u_wd b_tr b_ld (((k56_st * 1103) + 12345) - ((k56_st * 1103) + 12345) / 1000003 * 1000003) b_wn u_id)), (b_ro, (arI G 5740 v_ro))]) hP hD hS hA [6, 7] (by decide) rfl
                        refine va_calli (va_runV (As := [.int z74]) (rest := []) ⟨hx, hb, hml, hown, hts⟩ (n_isWallE l G b_o b_ro b_rf b_im b_ke b_tp b_nl b_op b_ar b_pi b_pa b_ws b_hw b_se b_re b_pt b_ip b_ah b_be b_me b_tr b_ld b_wn H.size 0 u_sa u_fd u_td u_fr u_to u_so u_fa u_bd u_nc u_co u_le u_pd u_od u_la u_bk u_ce u_ho u_wy u_bt u_ps u_tg u_sn u_ic u_wd u_id z74 u_wo u_va u_su (((k56_st * 1103) + 12345) - ((k56_st * 1103) + 12345) / 1000003 * 1000003) v_ro h_u_td h_u_fr h_u_to h_u_bd h_u_nc h_u_co h_u_pd h_u_la h_u_bk h_u_ce h_u_ho h_u_wy h_u_bt h_u_ps h_u_ic h_u_id ⟨by omega, by omega⟩ (r_ro)) (cwV 1 hts gV_X12_160 rfl rfl rfl hv_X12_isWall ⟨Nat.le_of_ble_eq_true rfl, Nat.le_of_ble_eq_true rfl⟩) (g5_preV hPc hK hDc hN hT hS hFc (ci := 12) (q0 := 0) rfl rfl) rfl rfl hl.1 rfl (lv_room (Nat.le_of_ble_eq_true rfl)) dX12_wander_135 ⟨Nat.le_of_ble_eq_true rfl, Nat.le_of_ble_eq_true rfl⟩) hS (fun q _ h => hFc q h) hFc (fun r u t H1 locs ht hvm hw hB hz1 hk1 hS => ?_)
                        obtain ⟨hP1, hD1⟩ := hB
                        rw [ht] at hP1
                        rcases hw with ⟨i_79, rfl, rfl⟩ | ⟨i_80, rfl, rfl⟩
                        ·
                          have i_79 : wallAt v_ro z74.toInt := i_79
                          obtain ⟨hP, hD⟩ := va_join (wr := [(b_rf, (arI G 7 v_rf)), (b_se, (arJ G 13 v_se)), (b_re, (arJ G 400 v_re)), (b_pt, (arI G 200 v_pt)), (b_ip, (arZ G 1536 v_ip)), (b_wn, (arI G 24 k56_wn))]) hP hD [6, 7] [0, 1, 2, 3, 4, 5] rfl rfl (by decide) (by decide) hk1 hFc hP1 hD1
                          generalize H1 = H at hP hS ⊢
                          refine g5_rs [(b_rf, (arI G 7 v_rf)), (b_se, (arJ G 13 v_se)), (b_re, (arJ G 400 v_re)), (b_pt, (arI G 200 v_pt)), (b_ip, (arZ G 1536 v_ip)), (b_wn, (arI G 24 k56_wn)), (b_o, (oc12 0 u_sa b_rf b_ro b_im b_ke u_fd b_tp u_td u_fr u_to u_so u_wo u_fa u_bd u_nc b_nl u_co b_op b_ar u_le b_pi b_pa u_pd u_od b_ws b_hw u_la b_se b_re u_bk u_va u_su u_ce u_ho u_wy u_bt u_ps b_pt u_tg u_sn b_ip u_ic b_ah b_be b_me u_wd b_tr b_ld (((k56_st * 1103) + 12345) - ((k56_st * 1103) + 12345) / 1000003 * 1000003) b_wn u_id)), (b_ro, (arI G 5740 v_ro))] hP hD (fun hP hD => ?_)
                          refine lv_if_ne (tgt := 146) hx hb dX12_wander_138 (by decide) (fun c_81 => ?_) (fun c_81 => ?_)
                          ·
                            refine lv_iload_n hx hb dX12_wander_146 rfl (lv_at hl 2 rfl) ?_
                            refine lv_istore_n (lv' := [(3, .int k56_3), (6, .int z74), (5, .int y70), (4, .int k56_4), (0, .ref b_o), (1, .int p_1), (2, .int p_2)]) hx hb dX12_wander_147 rfl hl (by decide) rfl (fun ls hl => ?_)
                            refine lv_aload_n hx hb dX12_wander_148 rfl (lv_at hl 4 rfl) ?_
                            refine va_get (D := G.1) (ci := 12) (v := .ref b_wn) (C := RX12) (T := TX12) (N := 52) hx hb hts inG_X12 hown hK hP 6 rfl rfl 50 (by decide) (hts _ fl_X12_104) (fun _ h9 => h9) rfl dX12_wander_149 ?_
                            refine lv_iload hx hb dX12_wander_152 (lv_at hl 3 rfl) ?_
                            refine lv_iload_n hx hb dX12_wander_154 rfl (lv_at hl 0 rfl) ?_
                            refine va_iast hx hb hK hP hD hS 5 0 rfl rfl (i := k56_4) (x := k56_3) (vp_in_iff.mpr ⟨by omega, by omega⟩) dX12_wander_155 (fun H locs hP hD hS => ?_)
                            refine g5_rs [(b_rf, (arI G 7 v_rf)), (b_se, (arJ G 13 v_se)), (b_re, (arJ G 400 v_re)), (b_pt, (arI G 200 v_pt)), (b_ip, (arZ G 1536 v_ip)), (b_wn, (arI G 24 (upd k56_wn k56_4.toNatClampNeg k56_3))), (b_o, (oc12 0 u_sa b_rf b_ro b_im b_ke u_fd b_tp u_td u_fr u_to u_so u_wo u_fa u_bd u_nc b_nl u_co b_op b_ar u_le b_pi b_pa u_pd u_od b_ws b_hw u_la b_se b_re u_bk u_va u_su u_ce u_ho u_wy u_bt u_ps b_pt u_tg u_sn b_ip u_ic b_ah b_be b_me u_wd b_tr b_ld (((k56_st * 1103) + 12345) - ((k56_st * 1103) + 12345) / 1000003 * 1000003) b_wn u_id)), (b_ro, (arI G 5740 v_ro))] hP hD (fun hP hD => ?_)
                            refine lv_iinc (v := (k56_4 + 1)) (lv' := [(4, .int (k56_4 + 1)), (3, .int k56_3), (6, .int z74), (5, .int y70), (0, .ref b_o), (1, .int p_1), (2, .int p_2)]) hx hb dX12_wander_156 hl (k := 3) rfl rfl (by decide) rfl (fun ls hl => ?_)
                            have t_82 : (k56_4 + 1).toInt = k56_4.toInt + 1 := g5_iadd (a := k56_4.toInt) (b := 1) rfl (by decide) (by omega) (by omega)
                            refine lv_goto (tgt := 56) hx hb dX12_wander_159 (by decide) ?_
                            exact ih_56_26 ((k56_4 + 1), k56_3, (((k56_st * 1103) + 12345) - ((k56_st * 1103) + 12345) / 1000003 * 1000003), (upd k56_wn k56_4.toNatClampNeg k56_3)) ls H locs (show Int.toNat (24 - (k56_4 + 1).toInt) < Int.toNat (24 - k56_4.toInt) from g_up (show k56_4.toInt < (k56_4 + 1).toInt by omega) (show k56_4.toInt < 24 by omega)) ⟨lv_sub hl [1, 0, 4, 5, 6] rfl, hP, hD, hS, ⟨by omega, by omega⟩, i_21, wn_upd i_22 (by omega), by rw [show (k56_4 + 1).toInt.toNat - 1 = (k56_4.toInt.toNat - 1) + 1 by omega, wdS_S, ← i_23]; rfl, by rw [show (k56_4 + 1).toInt.toNat - 1 = (k56_4.toInt.toNat - 1) + 1 by omega]; exact (by rw [wdC_S hk_70, ← i_24, ws_w (by rw [← i_72]; exact i_79)]), by rw [show (k56_4 + 1).toInt.toNat = k56_4.toInt.toNat + 1 by omega]; exact wdR_S i_25 rfl (by rw [show k56_4.toInt.toNat = (k56_4.toInt.toNat - 1) + 1 by omega]; exact (by rw [wdC_S hk_70, ← i_24, ws_w (by rw [← i_72]; exact i_79)]))⟩
                          ·
                            exact absurd c_81 (by decide)
                        ·
                          have i_80 : ¬ wallAt v_ro z74.toInt := i_80
                          obtain ⟨hP, hD⟩ := va_join (wr := [(b_rf, (arI G 7 v_rf)), (b_se, (arJ G 13 v_se)), (b_re, (arJ G 400 v_re)), (b_pt, (arI G 200 v_pt)), (b_ip, (arZ G 1536 v_ip)), (b_wn, (arI G 24 k56_wn))]) hP hD [6, 7] [0, 1, 2, 3, 4, 5] rfl rfl (by decide) (by decide) hk1 hFc hP1 hD1
                          generalize H1 = H at hP hS ⊢
                          refine g5_rs [(b_rf, (arI G 7 v_rf)), (b_se, (arJ G 13 v_se)), (b_re, (arJ G 400 v_re)), (b_pt, (arI G 200 v_pt)), (b_ip, (arZ G 1536 v_ip)), (b_wn, (arI G 24 k56_wn)), (b_o, (oc12 0 u_sa b_rf b_ro b_im b_ke u_fd b_tp u_td u_fr u_to u_so u_wo u_fa u_bd u_nc b_nl u_co b_op b_ar u_le b_pi b_pa u_pd u_od b_ws b_hw u_la b_se b_re u_bk u_va u_su u_ce u_ho u_wy u_bt u_ps b_pt u_tg u_sn b_ip u_ic b_ah b_be b_me u_wd b_tr b_ld (((k56_st * 1103) + 12345) - ((k56_st * 1103) + 12345) / 1000003 * 1000003) b_wn u_id)), (b_ro, (arI G 5740 v_ro))] hP hD (fun hP hD => ?_)
                          refine lv_if_ne (tgt := 146) hx hb dX12_wander_138 (by decide) (fun c_83 => ?_) (fun c_83 => ?_)
                          ·
                            exact absurd c_83 (by decide)
                          ·
                            refine lv_iload hx hb dX12_wander_141 (lv_at hl 0 rfl) ?_
                            refine lv_goto (tgt := 147) hx hb dX12_wander_143 (by decide) ?_
                            refine lv_istore_n (lv' := [(3, .int z74), (6, .int z74), (5, .int y70), (4, .int k56_4), (0, .ref b_o), (1, .int p_1), (2, .int p_2)]) hx hb dX12_wander_147 rfl hl (by decide) rfl (fun ls hl => ?_)
                            refine lv_aload_n hx hb dX12_wander_148 rfl (lv_at hl 4 rfl) ?_
                            refine va_get (D := G.1) (ci := 12) (v := .ref b_wn) (C := RX12) (T := TX12) (N := 52) hx hb hts inG_X12 hown hK hP 6 rfl rfl 50 (by decide) (hts _ fl_X12_104) (fun _ h9 => h9) rfl dX12_wander_149 ?_
                            refine lv_iload hx hb dX12_wander_152 (lv_at hl 3 rfl) ?_
                            refine lv_iload_n hx hb dX12_wander_154 rfl (lv_at hl 0 rfl) ?_
                            refine va_iast hx hb hK hP hD hS 5 0 rfl rfl (i := k56_4) (x := z74) (vp_in_iff.mpr ⟨by omega, by omega⟩) dX12_wander_155 (fun H locs hP hD hS => ?_)
                            refine g5_rs [(b_rf, (arI G 7 v_rf)), (b_se, (arJ G 13 v_se)), (b_re, (arJ G 400 v_re)), (b_pt, (arI G 200 v_pt)), (b_ip, (arZ G 1536 v_ip)), (b_wn, (arI G 24 (upd k56_wn k56_4.toNatClampNeg z74))), (b_o, (oc12 0 u_sa b_rf b_ro b_im b_ke u_fd b_tp u_td u_fr u_to u_so u_wo u_fa u_bd u_nc b_nl u_co b_op b_ar u_le b_pi b_pa u_pd u_od b_ws b_hw u_la b_se b_re u_bk u_va u_su u_ce u_ho u_wy u_bt u_ps b_pt u_tg u_sn b_ip u_ic b_ah b_be b_me u_wd b_tr b_ld (((k56_st * 1103) + 12345) - ((k56_st * 1103) + 12345) / 1000003 * 1000003) b_wn u_id)), (b_ro, (arI G 5740 v_ro))] hP hD (fun hP hD => ?_)
                            refine lv_iinc (v := (k56_4 + 1)) (lv' := [(4, .int (k56_4 + 1)), (3, .int z74), (6, .int z74), (5, .int y70), (0, .ref b_o), (1, .int p_1), (2, .int p_2)]) hx hb dX12_wander_156 hl (k := 3) rfl rfl (by decide) rfl (fun ls hl => ?_)
                            have t_84 : (k56_4 + 1).toInt = k56_4.toInt + 1 := g5_iadd (a := k56_4.toInt) (b := 1) rfl (by decide) (by omega) (by omega)
                            refine lv_goto (tgt := 56) hx hb dX12_wander_159 (by decide) ?_
                            exact ih_56_26 ((k56_4 + 1), z74, (((k56_st * 1103) + 12345) - ((k56_st * 1103) + 12345) / 1000003 * 1000003), (upd k56_wn k56_4.toNatClampNeg z74)) ls H locs (show Int.toNat (24 - (k56_4 + 1).toInt) < Int.toNat (24 - k56_4.toInt) from g_up (show k56_4.toInt < (k56_4 + 1).toInt by omega) (show k56_4.toInt < 24 by omega)) ⟨lv_sub hl [1, 0, 4, 5, 6] rfl, hP, hD, hS, ⟨by omega, by omega⟩, ⟨by omega, by omega⟩, wn_upd i_22 (by omega), by rw [show (k56_4 + 1).toInt.toNat - 1 = (k56_4.toInt.toNat - 1) + 1 by omega, wdS_S, ← i_23]; rfl, by rw [show (k56_4 + 1).toInt.toNat - 1 = (k56_4.toInt.toNat - 1) + 1 by omega]; exact (by rw [wdC_S hk_70, ← i_24, ws_y (by rw [← i_72]; omega) (by rw [← i_72]; exact i_80), ← i_72]), by rw [show (k56_4 + 1).toInt.toNat = k56_4.toInt.toNat + 1 by omega]; exact wdR_S i_25 rfl (by rw [show k56_4.toInt.toNat = (k56_4.toInt.toNat - 1) + 1 by omega]; exact (by rw [wdC_S hk_70, ← i_24, ws_y (by rw [← i_72]; omega) (by rw [← i_72]; exact i_80), ← i_72]))⟩
                      ·
                        have i_78 : z74.toInt < 0 := by have z := g5_geN (a := z74.toInt) (b := 0) (by rfl) (by decide) c_78; omega
                        omega
                  ·
                    have i_71 : y70.toInt = 4 := by have z := g5_neN (a := y70.toInt) (b := 4) (by rfl) (by decide) c_71; omega
                    refine lv_iload_n hx hb dX12_wander_105 rfl (lv_at hl 1 rfl) ?_
                    refine lv_goto (tgt := 115) hx hb dX12_wander_106 (by decide) ?_
                    refine lv_istore (lv' := [(6, .int k56_3), (5, .int y70), (3, .int k56_3), (4, .int k56_4), (0, .ref b_o), (1, .int p_1), (2, .int p_2)]) hx hb dX12_wander_115 hl (by decide) rfl (fun ls hl => ?_)
                    refine lv_iload hx hb dX12_wander_117 (lv_at hl 0 rfl) ?_
                    refine lv_iconst (v := (-1)) hx hb dX12_wander_119 (by decide) ?_
                    refine lv_icmp_eq (tgt := 146) hx hb dX12_wander_120 (by decide) (fun c_85 => ?_) (fun c_85 => ?_)
                    ·
                      have i_85 : k56_3.toInt = (-1) := by have z := g5_eq (a := k56_3.toInt) (b := (-1)) (by rfl) (by decide) c_85; omega
                      omega
                    ·
                      have n_85 : gNe (k56_3.toInt) ((-1)) := by have z := g5_eqN (a := k56_3.toInt) (b := (-1)) (by rfl) (by decide) c_85; unfold gNe; omega
                      refine lv_aload_n hx hb dX12_wander_123 rfl (lv_at hl 4 rfl) ?_
                      refine lv_iload hx hb dX12_wander_124 (lv_at hl 0 rfl) ?_
                      refine lv_if_ge (tgt := 133) hx hb dX12_wander_126 (by decide) (fun c_86 => ?_) (fun c_86 => ?_)
                      ·
                        have i_86 : k56_3.toInt ≥ 0 := by have z := g5_ge (a := k56_3.toInt) (b := 0) (by rfl) (by decide) c_86; omega
                        refine lv_iload hx hb dX12_wander_133 (lv_at hl 0 rfl) ?_
                        obtain ⟨hPc, hDc, hFc⟩ := g5_sub3 (wc := [(b_o, (oc12 0 u_sa b_rf b_ro b_im b_ke u_fd b_tp u_td u_fr u_to u_so u_wo u_fa u_bd u_nc b_nl u_co b_op b_ar u_le b_pi b_pa u_pd u_od b_ws b_hw u_la b_se b_re u_bk u_va u_su u_ce u_ho u_wy u_bt u_ps b_pt u_tg u_sn b_ip u_ic b_ah b_be b_me u_wd b_tr b_ld (((k56_st * 1103) + 12345) - ((k56_st * 1103) + 12345) / 1000003 * 1000003) b_wn u_id)), (b_ro, (arI G 5740 v_ro))]) hP hD hS hA [6, 7] (by decide) rfl
                        refine va_calli (va_runV (As := [.int k56_3]) (rest := []) ⟨hx, hb, hml, hown, hts⟩ (n_isWallE l G b_o b_ro b_rf b_im b_ke b_tp b_nl b_op b_ar b_pi b_pa b_ws b_hw b_se b_re b_pt b_ip b_ah b_be b_me b_tr b_ld b_wn H.size 0 u_sa u_fd u_td u_fr u_to u_so u_fa u_bd u_nc u_co u_le u_pd u_od u_la u_bk u_ce u_ho u_wy u_bt u_ps u_tg u_sn u_ic u_wd u_id k56_3 u_wo u_va u_su (((k56_st * 1103) + 12345) - ((k56_st * 1103) + 12345) / 1000003 * 1000003) v_ro h_u_td h_u_fr h_u_to h_u_bd h_u_nc h_u_co h_u_pd h_u_la h_u_bk h_u_ce h_u_ho h_u_wy h_u_bt h_u_ps h_u_ic h_u_id i_21 (r_ro)) (cwV 1 hts gV_X12_160 rfl rfl rfl hv_X12_isWall ⟨Nat.le_of_ble_eq_true rfl, Nat.le_of_ble_eq_true rfl⟩) (g5_preV hPc hK hDc hN hT hS hFc (ci := 12) (q0 := 0) rfl rfl) rfl rfl hl.1 rfl (lv_room (Nat.le_of_ble_eq_true rfl)) dX12_wander_135 ⟨Nat.le_of_ble_eq_true rfl, Nat.le_of_ble_eq_true rfl⟩) hS (fun q _ h => hFc q h) hFc (fun r u t H1 locs ht hvm hw hB hz1 hk1 hS => ?_)
                        obtain ⟨hP1, hD1⟩ := hB
                        rw [ht] at hP1
                        rcases hw with ⟨i_87, rfl, rfl⟩ | ⟨i_88, rfl, rfl⟩
                        ·
                          have i_87 : wallAt v_ro k56_3.toInt := i_87
                          obtain ⟨hP, hD⟩ := va_join (wr := [(b_rf, (arI G 7 v_rf)), (b_se, (arJ G 13 v_se)), (b_re, (arJ G 400 v_re)), (b_pt, (arI G 200 v_pt)), (b_ip, (arZ G 1536 v_ip)), (b_wn, (arI G 24 k56_wn))]) hP hD [6, 7] [0, 1, 2, 3, 4, 5] rfl rfl (by decide) (by decide) hk1 hFc hP1 hD1
                          generalize H1 = H at hP hS ⊢
                          refine g5_rs [(b_rf, (arI G 7 v_rf)), (b_se, (arJ G 13 v_se)), (b_re, (arJ G 400 v_re)), (b_pt, (arI G 200 v_pt)), (b_ip, (arZ G 1536 v_ip)), (b_wn, (arI G 24 k56_wn)), (b_o, (oc12 0 u_sa b_rf b_ro b_im b_ke u_fd b_tp u_td u_fr u_to u_so u_wo u_fa u_bd u_nc b_nl u_co b_op b_ar u_le b_pi b_pa u_pd u_od b_ws b_hw u_la b_se b_re u_bk u_va u_su u_ce u_ho u_wy u_bt u_ps b_pt u_tg u_sn b_ip u_ic b_ah b_be b_me u_wd b_tr b_ld (((k56_st * 1103) + 12345) - ((k56_st * 1103) + 12345) / 1000003 * 1000003) b_wn u_id)), (b_ro, (arI G 5740 v_ro))] hP hD (fun hP hD => ?_)
                          refine lv_if_ne (tgt := 146) hx hb dX12_wander_138 (by decide) (fun c_89 => ?_) (fun c_89 => ?_)
                          ·
                            refine lv_iload_n hx hb dX12_wander_146 rfl (lv_at hl 2 rfl) ?_
                            refine lv_istore_n (lv' := [(3, .int k56_3), (6, .int k56_3), (5, .int y70), (4, .int k56_4), (0, .ref b_o), (1, .int p_1), (2, .int p_2)]) hx hb dX12_wander_147 rfl hl (by decide) rfl (fun ls hl => ?_)
                            refine lv_aload_n hx hb dX12_wander_148 rfl (lv_at hl 4 rfl) ?_
                            refine va_get (D := G.1) (ci := 12) (v := .ref b_wn) (C := RX12) (T := TX12) (N := 52) hx hb hts inG_X12 hown hK hP 6 rfl rfl 50 (by decide) (hts _ fl_X12_104) (fun _ h9 => h9) rfl dX12_wander_149 ?_
                            refine lv_iload hx hb dX12_wander_152 (lv_at hl 3 rfl) ?_
                            refine lv_iload_n hx hb dX12_wander_154 rfl (lv_at hl 0 rfl) ?_
                            refine va_iast hx hb hK hP hD hS 5 0 rfl rfl (i := k56_4) (x := k56_3) (vp_in_iff.mpr ⟨by omega, by omega⟩) dX12_wander_155 (fun H locs hP hD hS => ?_)
                            refine g5_rs [(b_rf, (arI G 7 v_rf)), (b_se, (arJ G 13 v_se)), (b_re, (arJ G 400 v_re)), (b_pt, (arI G 200 v_pt)), (b_ip, (arZ G 1536 v_ip)), (b_wn, (arI G 24 (upd k56_wn k56_4.toNatClampNeg k56_3))), (b_o, (oc12 0 u_sa b_rf b_ro b_im b_ke u_fd b_tp u_td u_fr u_to u_so u_wo u_fa u_bd u_nc b_nl u_co b_op b_ar u_le b_pi b_pa u_pd u_od b_ws b_hw u_la b_se b_re u_bk u_va u_su u_ce u_ho u_wy u_bt u_ps b_pt u_tg u_sn b_ip u_ic b_ah b_be b_me u_wd b_tr b_ld (((k56_st * 1103) + 12345) - ((k56_st * 1103) + 12345) / 1000003 * 1000003) b_wn u_id)), (b_ro, (arI G 5740 v_ro))] hP hD (fun hP hD => ?_)
                            refine lv_iinc (v := (k56_4 + 1)) (lv' := [(4, .int (k56_4 + 1)), (3, .int k56_3), (6, .int k56_3), (5, .int y70), (0, .ref b_o), (1, .int p_1), (2, .int p_2)]) hx hb dX12_wander_156 hl (k := 3) rfl rfl (by decide) rfl (fun ls hl => ?_)
                            have t_90 : (k56_4 + 1).toInt = k56_4.toInt + 1 := g5_iadd (a := k56_4.toInt) (b := 1) rfl (by decide) (by omega) (by omega)
                            refine lv_goto (tgt := 56) hx hb dX12_wander_159 (by decide) ?_
                            exact ih_56_26 ((k56_4 + 1), k56_3, (((k56_st * 1103) + 12345) - ((k56_st * 1103) + 12345) / 1000003 * 1000003), (upd k56_wn k56_4.toNatClampNeg k56_3)) ls H locs (show Int.toNat (24 - (k56_4 + 1).toInt) < Int.toNat (24 - k56_4.toInt) from g_up (show k56_4.toInt < (k56_4 + 1).toInt by omega) (show k56_4.toInt < 24 by omega)) ⟨lv_sub hl [1, 0, 4, 5, 6] rfl, hP, hD, hS, ⟨by omega, by omega⟩, i_21, wn_upd i_22 (by omega), by rw [show (k56_4 + 1).toInt.toNat - 1 = (k56_4.toInt.toNat - 1) + 1 by omega, wdS_S, ← i_23]; rfl, by rw [show (k56_4 + 1).toInt.toNat - 1 = (k56_4.toInt.toNat - 1) + 1 by omega]; exact (by rw [wdC_S hk_70, ← i_24, ws_4 (bs_4 (by omega))]), by rw [show (k56_4 + 1).toInt.toNat = k56_4.toInt.toNat + 1 by omega]; exact wdR_S i_25 rfl (by rw [show k56_4.toInt.toNat = (k56_4.toInt.toNat - 1) + 1 by omega]; exact (by rw [wdC_S hk_70, ← i_24, ws_4 (bs_4 (by omega))]))⟩
                          ·
                            exact absurd c_89 (by decide)
                        ·
                          have i_88 : ¬ wallAt v_ro k56_3.toInt := i_88
                          obtain ⟨hP, hD⟩ := va_join (wr := [(b_rf, (arI G 7 v_rf)), (b_se, (arJ G 13 v_se)), (b_re, (arJ G 400 v_re)), (b_pt, (arI G 200 v_pt)), (b_ip, (arZ G 1536 v_ip)), (b_wn, (arI G 24 k56_wn))]) hP hD [6, 7] [0, 1, 2, 3, 4, 5] rfl rfl (by decide) (by decide) hk1 hFc hP1 hD1
                          generalize H1 = H at hP hS ⊢
                          refine g5_rs [(b_rf, (arI G 7 v_rf)), (b_se, (arJ G 13 v_se)), (b_re, (arJ G 400 v_re)), (b_pt, (arI G 200 v_pt)), (b_ip, (arZ G 1536 v_ip)), (b_wn, (arI G 24 k56_wn)), (b_o, (oc12 0 u_sa b_rf b_ro b_im b_ke u_fd b_tp u_td u_fr u_to u_so u_wo u_fa u_bd u_nc b_nl u_co b_op b_ar u_le b_pi b_pa u_pd u_od b_ws b_hw u_la b_se b_re u_bk u_va u_su u_ce u_ho u_wy u_bt u_ps b_pt u_tg u_sn b_ip u_ic b_ah b_be b_me u_wd b_tr b_ld (((k56_st * 1103) + 12345) - ((k56_st * 1103) + 12345) / 1000003 * 1000003) b_wn u_id)), (b_ro, (arI G 5740 v_ro))] hP hD (fun hP hD => ?_)
                          refine lv_if_ne (tgt := 146) hx hb dX12_wander_138 (by decide) (fun c_91 => ?_) (fun c_91 => ?_)
                          ·
                            exact absurd c_91 (by decide)
                          ·
                            refine lv_iload hx hb dX12_wander_141 (lv_at hl 0 rfl) ?_
                            refine lv_goto (tgt := 147) hx hb dX12_wander_143 (by decide) ?_
                            refine lv_istore_n (lv' := [(3, .int k56_3), (6, .int k56_3), (5, .int y70), (4, .int k56_4), (0, .ref b_o), (1, .int p_1), (2, .int p_2)]) hx hb dX12_wander_147 rfl hl (by decide) rfl (fun ls hl => ?_)
                            refine lv_aload_n hx hb dX12_wander_148 rfl (lv_at hl 4 rfl) ?_
                            refine va_get (D := G.1) (ci := 12) (v := .ref b_wn) (C := RX12) (T := TX12) (N := 52) hx hb hts inG_X12 hown hK hP 6 rfl rfl 50 (by decide) (hts _ fl_X12_104) (fun _ h9 => h9) rfl dX12_wander_149 ?_
                            refine lv_iload hx hb dX12_wander_152 (lv_at hl 3 rfl) ?_
                            refine lv_iload_n hx hb dX12_wander_154 rfl (lv_at hl 0 rfl) ?_
                            refine va_iast hx hb hK hP hD hS 5 0 rfl rfl (i := k56_4) (x := k56_3) (vp_in_iff.mpr ⟨by omega, by omega⟩) dX12_wander_155 (fun H locs hP hD hS => ?_)
                            refine g5_rs [(b_rf, (arI G 7 v_rf)), (b_se, (arJ G 13 v_se)), (b_re, (arJ G 400 v_re)), (b_pt, (arI G 200 v_pt)), (b_ip, (arZ G 1536 v_ip)), (b_wn, (arI G 24 (upd k56_wn k56_4.toNatClampNeg k56_3))), (b_o, (oc12 0 u_sa b_rf b_ro b_im b_ke u_fd b_tp u_td u_fr u_to u_so u_wo u_fa u_bd u_nc b_nl u_co b_op b_ar u_le b_pi b_pa u_pd u_od b_ws b_hw u_la b_se b_re u_bk u_va u_su u_ce u_ho u_wy u_bt u_ps b_pt u_tg u_sn b_ip u_ic b_ah b_be b_me u_wd b_tr b_ld (((k56_st * 1103) + 12345) - ((k56_st * 1103) + 12345) / 1000003 * 1000003) b_wn u_id)), (b_ro, (arI G 5740 v_ro))] hP hD (fun hP hD => ?_)
                            refine lv_iinc (v := (k56_4 + 1)) (lv' := [(4, .int (k56_4 + 1)), (3, .int k56_3), (6, .int k56_3), (5, .int y70), (0, .ref b_o), (1, .int p_1), (2, .int p_2)]) hx hb dX12_wander_156 hl (k := 3) rfl rfl (by decide) rfl (fun ls hl => ?_)
                            have t_92 : (k56_4 + 1).toInt = k56_4.toInt + 1 := g5_iadd (a := k56_4.toInt) (b := 1) rfl (by decide) (by omega) (by omega)
                            refine lv_goto (tgt := 56) hx hb dX12_wander_159 (by decide) ?_
                            exact ih_56_26 ((k56_4 + 1), k56_3, (((k56_st * 1103) + 12345) - ((k56_st * 1103) + 12345) / 1000003 * 1000003), (upd k56_wn k56_4.toNatClampNeg k56_3)) ls H locs (show Int.toNat (24 - (k56_4 + 1).toInt) < Int.toNat (24 - k56_4.toInt) from g_up (show k56_4.toInt < (k56_4 + 1).toInt by omega) (show k56_4.toInt < 24 by omega)) ⟨lv_sub hl [1, 0, 4, 5, 6] rfl, hP, hD, hS, ⟨by omega, by omega⟩, i_21, wn_upd i_22 (by omega), by rw [show (k56_4 + 1).toInt.toNat - 1 = (k56_4.toInt.toNat - 1) + 1 by omega, wdS_S, ← i_23]; rfl, by rw [show (k56_4 + 1).toInt.toNat - 1 = (k56_4.toInt.toNat - 1) + 1 by omega]; exact (by rw [wdC_S hk_70, ← i_24, ws_4 (bs_4 (by omega))]), by rw [show (k56_4 + 1).toInt.toNat = k56_4.toInt.toNat + 1 by omega]; exact wdR_S i_25 rfl (by rw [show k56_4.toInt.toNat = (k56_4.toInt.toNat - 1) + 1 by omega]; exact (by rw [wdC_S hk_70, ← i_24, ws_4 (bs_4 (by omega))]))⟩
                      ·
                        have i_86 : k56_3.toInt < 0 := by have z := g5_geN (a := k56_3.toInt) (b := 0) (by rfl) (by decide) c_86; omega
                        omega
            ·
              exact absurd c_19 (by decide)
        ·
          exact absurd c_11 (by decide)
      ·
        have i_10 : p_2.toInt < 0 ∨ 63 < p_2.toInt := i_10
        have hP := g5_same hP hk1
        generalize H1 = H at hP hS ⊢
        refine lv_if_ne (tgt := 30) hx hb dX12_wander_21 (by decide) (fun c_93 => ?_) (fun c_93 => ?_)
        ·
          exact absurd c_93 (by decide)
        ·
          refine lv_aload_n hx hb dX12_wander_24 rfl (lv_at hl 0 rfl) ?_
          refine lv_iconst (v := (-1)) hx hb dX12_wander_25 (by decide) ?_
          obtain ⟨hPc, hDc, hFc⟩ := g5_sub3 (wc := [(b_o, (oc12 0 u_sa b_rf b_ro b_im b_ke u_fd b_tp u_td u_fr u_to u_so u_wo u_fa u_bd u_nc b_nl u_co b_op b_ar u_le b_pi b_pa u_pd u_od b_ws b_hw u_la b_se b_re u_bk u_va u_su u_ce u_ho u_wy u_bt u_ps b_pt u_tg u_sn b_ip u_ic b_ah b_be b_me u_wd b_tr b_ld u_st b_wn u_id)), (b_rf, (arI G 7 v_rf))]) hP hD hS hA [0, 1] (by decide) rfl
          refine va_calli (va_runV (As := [.int (-1)]) (rest := []) ⟨hx, hb, hml, hown, hts⟩ (n_tell1 l G b_o b_rf b_ro b_im b_ke b_tp b_nl b_op b_ar b_pi b_pa b_ws b_hw b_se b_re b_pt b_ip b_ah b_be b_me b_tr b_ld b_wn H.size 0 u_sa u_fd u_td u_fr u_to u_so u_fa u_bd u_nc u_co u_le u_pd u_od u_la u_bk u_ce u_ho u_wy u_bt u_ps u_tg u_sn u_ic u_wd u_id u_wo u_va u_su u_st v_rf h_u_td h_u_fr h_u_to h_u_bd h_u_nc h_u_co h_u_pd h_u_la h_u_bk h_u_ce h_u_ho h_u_wy h_u_bt h_u_ps h_u_ic h_u_id) (cwV 1 hts gV_X12_125 rfl rfl rfl hv_X12_tell ⟨Nat.le_of_ble_eq_true rfl, Nat.le_of_ble_eq_true rfl⟩) (g5_preV hPc hK hDc hN hT hS hFc (ci := 12) (q0 := 0) rfl rfl) rfl rfl hl.1 rfl (lv_room (Nat.le_of_ble_eq_true rfl)) dX12_wander_26 ⟨Nat.le_of_ble_eq_true rfl, Nat.le_of_ble_eq_true rfl⟩) hS (fun q _ h => hFc q h) hFc (fun r u t H1 locs ht hvm hw hB hz1 hk1 hS => ?_)
          obtain ⟨hP1, hD1⟩ := hB
          rw [ht] at hP1
          obtain ⟨z95, z96, z97, i_94, rfl, rfl⟩ := hw
          have i_94 : 0 ≤ z96.toInt ∧ z96.toInt ≤ 1 := i_94
          obtain ⟨hP, hD⟩ := va_join (wr := [(b_ro, (arI G 5740 v_ro)), (b_se, (arJ G 13 v_se)), (b_re, (arJ G 400 v_re)), (b_pt, (arI G 200 v_pt)), (b_ip, (arZ G 1536 v_ip)), (b_wn, (arI G 24 v_wn))]) hP hD [0, 1] [2, 3, 4, 5, 6, 7] rfl rfl (by decide) (by decide) hk1 hFc hP1 hD1
          generalize H1 = H at hP hS ⊢
          refine g5_rs [(b_ro, (arI G 5740 v_ro)), (b_se, (arJ G 13 v_se)), (b_re, (arJ G 400 v_re)), (b_pt, (arI G 200 v_pt)), (b_ip, (arZ G 1536 v_ip)), (b_wn, (arI G 24 v_wn)), (b_o, (oc12 0 z95 b_rf b_ro b_im b_ke u_fd b_tp u_td u_fr u_to u_so u_wo u_fa u_bd u_nc b_nl u_co b_op b_ar u_le b_pi b_pa u_pd u_od b_ws b_hw u_la b_se b_re u_bk u_va u_su u_ce u_ho u_wy u_bt u_ps b_pt u_tg u_sn b_ip z96 b_ah b_be b_me u_wd b_tr b_ld u_st b_wn u_id)), (b_rf, (arI G 7 z97))] hP hD (fun hP hD => ?_)
          exact W.iret (v := (-1)) hx hb hr (fun t ht hW => ⟨⟨(-1), [(b_o, (oc12 0 z95 b_rf b_ro b_im b_ke u_fd b_tp u_td u_fr u_to u_so u_wo u_fa u_bd u_nc b_nl u_co b_op b_ar u_le b_pi b_pa u_pd u_od b_ws b_hw u_la b_se b_re u_bk u_va u_su u_ce u_ho u_wy u_bt u_ps b_pt u_tg u_sn b_ip z96 b_ah b_be b_me u_wd b_tr b_ld u_st b_wn u_id)), (b_rf, (arI G 7 z97)), (b_ro, (arI G 5740 v_ro)), (b_se, (arJ G 13 v_se)), (b_re, (arJ G 400 v_re)), (b_pt, (arI G 200 v_pt)), (b_ip, (arZ G 1536 v_ip)), (b_wn, (arI G 24 v_wn))], rfl, ⟨(-1), 0, z95, u_la, u_bk, u_va, u_su, u_ce, u_ho, u_wy, u_bt, u_ps, u_tg, u_sn, z96, u_st, u_id, z97, v_se, v_re, v_pt, v_ip, v_wn, h_u_la, h_u_bk, h_u_ce, h_u_ho, h_u_wy, h_u_bt, h_u_ps, r_pt, i_94, r_wn, h_u_id, (wand_1 (f := v_ro) (g := v_wn) (n := u_id) (s := p_1) (c := p_2) (fun q => by unfold okD at q; omega)).1.symm, (wand_1 (f := v_ro) (g := v_wn) (n := u_id) (s := p_1) (c := p_2) (fun q => by unfold okD at q; omega)).2.symm, rfl, rfl⟩, by rw [ht]; exact hP.sub [6, 7, 0, 1, 2, 3, 4, 5] rfl, hD.sub [6, 7, 0, 1, 2, 3, 4, 5] (by decide) rfl⟩, hS.F ht⟩) hS.2.2 dX12_wander_29
set_option maxHeartbeats 4000000 in
set_option maxRecDepth 100000 in
theorem n_drawnE (l : Launch) (G : g5_G) (b_o b_wn b_rf b_ro b_im b_ke b_tp b_nl b_op b_ar b_pi b_pa b_ws b_hw b_se b_re b_pt b_ip b_ah b_be b_me b_tr b_ld : Nat) (sz : Nat) (u_th : Int32) (u_sa : Int32) (u_fd : Int32) (u_td : Int32) (u_fr : Int32) (u_to : Int32) (u_so : Int32) (u_fa : Int32) (u_bd : Int32) (u_nc : Int32) (u_co : Int32) (u_le : Int32) (u_pd : Int32) (u_od : Int32) (u_la : Int32) (u_bk : Int32) (u_ce : Int32) (u_ho : Int32) (u_wy : Int32) (u_bt : Int32) (u_ps : Int32) (u_tg : Int32) (u_sn : Int32) (u_ic : Int32) (u_wd : Int32) (u_id : Int32) (p_1 : Int32) (u_wo : Int64) (u_va : Int64) (u_su : Int64) (u_st : Int64) (v_wn : Nat → Int32) (h_u_td : 0 ≤ u_td.toInt ∧ u_td.toInt ≤ 400) (h_u_fr : 0 ≤ u_fr.toInt ∧ u_fr.toInt ≤ 400) (h_u_to : 0 ≤ u_to.toInt ∧ u_to.toInt ≤ 400) (h_u_bd : 0 ≤ u_bd.toInt ∧ u_bd.toInt ≤ 1) (h_u_nc : 0 ≤ u_nc.toInt ∧ u_nc.toInt ≤ 12) (h_u_co : 0 ≤ u_co.toInt ∧ u_co.toInt ≤ 400) (h_u_pd : 0 ≤ u_pd.toInt ∧ u_pd.toInt ≤ 400) (h_u_la : 0 ≤ u_la.toInt ∧ u_la.toInt ≤ 4840) (h_u_bk : 0 ≤ u_bk.toInt ∧ u_bk.toInt ≤ 1) (h_u_ce : 0 ≤ u_ce.toInt ∧ u_ce.toInt ≤ 63) (h_u_ho : 0 ≤ u_ho.toInt ∧ u_ho.toInt ≤ 23) (h_u_wy : 0 ≤ u_wy.toInt ∧ u_wy.toInt ≤ 3) (h_u_bt : 0 ≤ u_bt.toInt ∧ u_bt.toInt ≤ 1000000) (h_u_ps : 0 ≤ u_ps.toInt ∧ u_ps.toInt ≤ 200) (h_u_ic : 0 ≤ u_ic.toInt ∧ u_ic.toInt ≤ 1) (h_u_id : 0 ≤ u_id.toInt ∧ u_id.toInt ≤ 1) (r_wn : WNI v_wn) : Met l yX12_drawn (wsG yX12_drawn cX12_drawn 2 (some .int)) ({ frames := 2, cells := 0, slots := 0, locals := 45 }) (va_Pc [.ref b_o, .int p_1] (g5_P G [(b_o, (oc12 u_th u_sa b_rf b_ro b_im b_ke u_fd b_tp u_td u_fr u_to u_so u_wo u_fa u_bd u_nc b_nl u_co b_op b_ar u_le b_pi b_pa u_pd u_od b_ws b_hw u_la b_se b_re u_bk u_va u_su u_ce u_ho u_wy u_bt u_ps b_pt u_tg u_sn b_ip u_ic b_ah b_be b_me u_wd b_tr b_ld u_st b_wn u_id)), (b_wn, (arI G 24 v_wn))] sz)) (va_Qi (fun (r : Int32) (u : va_W) => (∃ (o_r : Int32) (o_th : Int32), (o_r = adrawn v_wn u_id p_1) ∧ (r = o_r) ∧ (u = [(b_o, (oc12 o_th u_sa b_rf b_ro b_im b_ke u_fd b_tp u_td u_fr u_to u_so u_wo u_fa u_bd u_nc b_nl u_co b_op b_ar u_le b_pi b_pa u_pd u_od b_ws b_hw u_la b_se b_re u_bk u_va u_su u_ce u_ho u_wy u_bt u_ps b_pt u_tg u_sn b_ip u_ic b_ah b_be b_me u_wd b_tr b_ld u_st b_wn u_id)), (b_wn, (arI G 24 v_wn))]))) (g5_B G (va_A [(b_o, (oc12 u_th u_sa b_rf b_ro b_im b_ke u_fd b_tp u_td u_fr u_to u_so u_wo u_fa u_bd u_nc b_nl u_co b_op b_ar u_le b_pi b_pa u_pd u_od b_ws b_hw u_la b_se b_re u_bk u_va u_su u_ce u_ho u_wy u_bt u_ps b_pt u_tg u_sn b_ip u_ic b_ah b_be b_me u_wd b_tr b_ld u_st b_wn u_id)), (b_wn, (arI G 24 v_wn))] sz)) (va_A [(b_o, (oc12 u_th u_sa b_rf b_ro b_im b_ke u_fd b_tp u_td u_fr u_to u_so u_wo u_fa u_bd u_nc b_nl u_co b_op b_ar u_le b_pi b_pa u_pd u_od b_ws b_hw u_la b_se b_re u_bk u_va u_su u_ce u_ho u_wy u_bt u_ps b_pt u_tg u_sn b_ip u_ic b_ah b_be b_me u_wd b_tr b_ld u_st b_wn u_id)), (b_wn, (arI G 24 v_wn))] sz)) 0 0 (va_A [(b_o, (oc12 u_th u_sa b_rf b_ro b_im b_ke u_fd b_tp u_td u_fr u_to u_so u_wo u_fa u_bd u_nc b_nl u_co b_op b_ar u_le b_pi b_pa u_pd u_od b_ws b_hw u_la b_se b_re u_bk u_va u_su u_ce u_ho u_wy u_bt u_ps b_pt u_tg u_sn b_ip u_ic b_ah b_be b_me u_wd b_tr b_ld u_st b_wn u_id)), (b_wn, (arI G 24 v_wn))] sz) := by
  refine Met.ofW (cc := cX12_drawn) (maxL := 2) (ret := (some .int)) (by decide) rfl ?_
  intro p e s m args below meth c s₁ B hml hv
  obtain ⟨rfl, hsz, hP, hK, hD0, hN, hT⟩ := hv
  have hx := B.exec
  have hb := B.bytes
  have hr := B.returns
  have hts : ∀ w ∈ tblG, w.before _ s = true := fun w h => atoms_spec (ws := (wsG yX12_drawn cX12_drawn 2 (some .int))) B.pre w (List.mem_cons_of_mem _ h)
  have hown : s.vm.findClass RX12 = some m.cls := findClass_of_methodNamed B.named
  have hlocks := B.notSynchronized
  subst hsz
  have hD := hD0.self (sz := s.heap.size)
  generalize hAe : va_A [(b_o, (oc12 u_th u_sa b_rf b_ro b_im b_ke u_fd b_tp u_td u_fr u_to u_so u_wo u_fa u_bd u_nc b_nl u_co b_op b_ar u_le b_pi b_pa u_pd u_od b_ws b_hw u_la b_se b_re u_bk u_va u_su u_ce u_ho u_wy u_bt u_ps b_pt u_tg u_sn b_ip u_ic b_ah b_be b_me u_wd b_tr b_ld u_st b_wn u_id)), (b_wn, (arI G 24 v_wn))] s.heap.size = A at hD hT ⊢
  have hA : ∀ q : Nat, s.heap.size ≤ q → A q := fun q h => by rw [← hAe]; exact Or.inr h
  have hS : va_S A s.heap s.heap [] := va_S.rf
  have hP : va_P G.1 vwCl [(b_o, (oc12 u_th u_sa b_rf b_ro b_im b_ke u_fd b_tp u_td u_fr u_to u_so u_wo u_fa u_bd u_nc b_nl u_co b_op b_ar u_le b_pi b_pa u_pd u_od b_ws b_hw u_la b_se b_re u_bk u_va u_su u_ce u_ho u_wy u_bt u_ps b_pt u_tg u_sn b_ip u_ic b_ah b_be b_me u_wd b_tr b_ld u_st b_wn u_id)), (b_wn, (arI G 24 v_wn))] s.heap := hP
  have hl := lv_entry ([.ref b_o, .int p_1]) (n := 2) (Nat.le_of_ble_eq_true rfl)
  rw [lg_entry_eq]
  generalize (lg_sl ([.ref b_o, .int p_1]) ++ List.replicate (2 - (lg_sl ([.ref b_o, .int p_1])).length) Slot.unset).toArray = ls at hl ⊢
  have hl : lv_has ls 2 [(0, .ref b_o), (1, .int p_1)] := hl
  refine lv_aload_n hx hb dX12_drawn_0 rfl (lv_at hl 0 rfl) ?_
  refine lv_iconst (v := 0) hx hb dX12_drawn_1 (by decide) ?_
  refine va_put (D := G.1) (ci := 12) (v := .int 0) (ty := .int) (C := RX12) (T := TX12) (N := 52) hx hb hts inG_X12 tyX12 tyX12_ok nmX12 hown hK hP hD hS 0 rfl rfl 0 (by decide) (hts _ fl_X12_107) (fun _ h9 => h9) rfl (by decide +kernel) rfl rfl (Nat.le_of_ble_eq_true rfl) dX12_drawn_2 (fun H locs hP hD hS => ?_)
  refine g5_rs [(b_o, (oc12 0 u_sa b_rf b_ro b_im b_ke u_fd b_tp u_td u_fr u_to u_so u_wo u_fa u_bd u_nc b_nl u_co b_op b_ar u_le b_pi b_pa u_pd u_od b_ws b_hw u_la b_se b_re u_bk u_va u_su u_ce u_ho u_wy u_bt u_ps b_pt u_tg u_sn b_ip u_ic b_ah b_be b_me u_wd b_tr b_ld u_st b_wn u_id)), (b_wn, (arI G 24 v_wn))] hP hD (fun hP hD => ?_)
  refine lv_aload_n hx hb dX12_drawn_5 rfl (lv_at hl 0 rfl) ?_
  refine va_get (D := G.1) (ci := 12) (v := .int u_id) (C := RX12) (T := TX12) (N := 52) hx hb hts inG_X12 hown hK hP 0 rfl rfl 51 (by decide) (hts _ fl_X12_478) (fun _ h9 => h9) rfl dX12_drawn_6 ?_
  refine lv_if_eq (tgt := 28) hx hb dX12_drawn_9 (by decide) (fun c_1 => ?_) (fun c_1 => ?_)
  ·
    have i_1 : u_id.toInt = 0 := by have z := g5_eq (a := u_id.toInt) (b := 0) (by rfl) (by decide) c_1; omega
    refine lv_iconst (v := (-1)) hx hb dX12_drawn_28 (by decide) ?_
    exact W.iret (v := (-1)) hx hb hr (fun t ht hW => ⟨⟨(-1), [(b_o, (oc12 0 u_sa b_rf b_ro b_im b_ke u_fd b_tp u_td u_fr u_to u_so u_wo u_fa u_bd u_nc b_nl u_co b_op b_ar u_le b_pi b_pa u_pd u_od b_ws b_hw u_la b_se b_re u_bk u_va u_su u_ce u_ho u_wy u_bt u_ps b_pt u_tg u_sn b_ip u_ic b_ah b_be b_me u_wd b_tr b_ld u_st b_wn u_id)), (b_wn, (arI G 24 v_wn))], rfl, ⟨(-1), 0, (cif_f (fun q => by have q1 := q.1; have q2 := q.2; omega)).symm, rfl, rfl⟩, by rw [ht]; exact hP.sub [0, 1] rfl, hD.sub [0, 1] (by decide) rfl⟩, hS.F ht⟩) hS.2.2 dX12_drawn_29
  ·
    have n_1 : gNe (u_id.toInt) (0) := by have z := g5_eqN (a := u_id.toInt) (b := 0) (by rfl) (by decide) c_1; unfold gNe; omega
    have i_1 : u_id.toInt ≥ 1 := by have z := g5_eqN (a := u_id.toInt) (b := 0) (by rfl) (by decide) c_1; omega
    refine lv_iload_n hx hb dX12_drawn_12 rfl (lv_at hl 1 rfl) ?_
    obtain ⟨hPc, hDc, hFc⟩ := g5_sub3 (wc := []) hP hD hS hA [] (by decide) rfl
    refine va_calli (va_runS (As := [.int p_1]) (rest := []) ⟨hx, hb, hml, hown, hts⟩ (n_isHourE l G H.size p_1) (va_cwS 1 hts gS_X12_175 rfl rfl rfl hs_X12_isHour ⟨Nat.le_of_ble_eq_true rfl, Nat.le_of_ble_eq_true rfl⟩) (g5_preS hPc hK hDc hN hT hS hFc) rfl rfl hl.1 rfl (lv_room (Nat.le_of_ble_eq_true rfl)) dX12_drawn_13 ⟨Nat.le_of_ble_eq_true rfl, Nat.le_of_ble_eq_true rfl⟩) hS (fun q _ h => hFc q h) hFc (fun r u t H1 locs ht hvm hw hB hz1 hk1 hS => ?_)
    obtain ⟨hP1, hD1⟩ := hB
    rw [ht] at hP1
    rcases hw with ⟨i_2, rfl, rfl⟩ | ⟨i_3, rfl, rfl⟩
    ·
      have i_2 : 0 ≤ p_1.toInt ∧ p_1.toInt ≤ 23 := i_2
      have hP := g5_same hP hk1
      generalize H1 = H at hP hS ⊢
      refine lv_if_eq (tgt := 28) hx hb dX12_drawn_16 (by decide) (fun c_4 => ?_) (fun c_4 => ?_)
      ·
        exact absurd c_4 (by decide)
      ·
        refine lv_aload_n hx hb dX12_drawn_19 rfl (lv_at hl 0 rfl) ?_
        refine va_get (D := G.1) (ci := 12) (v := .ref b_wn) (C := RX12) (T := TX12) (N := 52) hx hb hts inG_X12 hown hK hP 0 rfl rfl 50 (by decide) (hts _ fl_X12_104) (fun _ h9 => h9) rfl dX12_drawn_20 ?_
        refine lv_iload_n hx hb dX12_drawn_23 rfl (lv_at hl 1 rfl) ?_
        refine va_iald hx hb hK hP 1 0 rfl rfl (i := p_1) (vp_in_iff.mpr ⟨by omega, by omega⟩) dX12_drawn_24 ?_
        have hr_5 : 0 ≤ (v_wn p_1.toNatClampNeg).toInt ∧ (v_wn p_1.toNatClampNeg).toInt ≤ 63 := r_wn (p_1.toNatClampNeg)
        refine lv_goto (tgt := 29) hx hb dX12_drawn_25 (by decide) ?_
        exact W.iret (v := (v_wn p_1.toNatClampNeg)) hx hb hr (fun t ht hW => ⟨⟨(v_wn p_1.toNatClampNeg), [(b_o, (oc12 0 u_sa b_rf b_ro b_im b_ke u_fd b_tp u_td u_fr u_to u_so u_wo u_fa u_bd u_nc b_nl u_co b_op b_ar u_le b_pi b_pa u_pd u_od b_ws b_hw u_la b_se b_re u_bk u_va u_su u_ce u_ho u_wy u_bt u_ps b_pt u_tg u_sn b_ip u_ic b_ah b_be b_me u_wd b_tr b_ld u_st b_wn u_id)), (b_wn, (arI G 24 v_wn))], rfl, ⟨(v_wn p_1.toNatClampNeg), 0, (cif_t ⟨by omega, by omega, by omega⟩).symm, rfl, rfl⟩, by rw [ht]; exact hP.sub [0, 1] rfl, hD.sub [0, 1] (by decide) rfl⟩, hS.F ht⟩) hS.2.2 dX12_drawn_29
    ·
      have i_3 : p_1.toInt < 0 ∨ 23 < p_1.toInt := i_3
      have hP := g5_same hP hk1
      generalize H1 = H at hP hS ⊢
      refine lv_if_eq (tgt := 28) hx hb dX12_drawn_16 (by decide) (fun c_6 => ?_) (fun c_6 => ?_)
      ·
        refine lv_iconst (v := (-1)) hx hb dX12_drawn_28 (by decide) ?_
        exact W.iret (v := (-1)) hx hb hr (fun t ht hW => ⟨⟨(-1), [(b_o, (oc12 0 u_sa b_rf b_ro b_im b_ke u_fd b_tp u_td u_fr u_to u_so u_wo u_fa u_bd u_nc b_nl u_co b_op b_ar u_le b_pi b_pa u_pd u_od b_ws b_hw u_la b_se b_re u_bk u_va u_su u_ce u_ho u_wy u_bt u_ps b_pt u_tg u_sn b_ip u_ic b_ah b_be b_me u_wd b_tr b_ld u_st b_wn u_id)), (b_wn, (arI G 24 v_wn))], rfl, ⟨(-1), 0, (cif_f (fun q => by have q1 := q.1; have q2 := q.2; omega)).symm, rfl, rfl⟩, by rw [ht]; exact hP.sub [0, 1] rfl, hD.sub [0, 1] (by decide) rfl⟩, hS.F ht⟩) hS.2.2 dX12_drawn_29
      ·
        exact absurd c_6 (by decide)
