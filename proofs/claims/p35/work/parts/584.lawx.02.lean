set_option maxHeartbeats 4000000 in
set_option maxRecDepth 100000 in
theorem n_lawX (l : Launch) (G : g5_G) (b_o b_rf b_ro b_tp b_nl b_op b_ar b_pi b_pa b_ws b_hw b_im b_ke b_se b_re b_pt b_ip b_ah b_be b_me b_tr b_ld b_wn : Nat) (sz : Nat) (u_th : Int32) (u_sa : Int32) (u_fd : Int32) (u_td : Int32) (u_fr : Int32) (u_to : Int32) (u_so : Int32) (u_fa : Int32) (u_bd : Int32) (u_nc : Int32) (u_co : Int32) (u_le : Int32) (u_pd : Int32) (u_od : Int32) (u_la : Int32) (u_bk : Int32) (u_ce : Int32) (u_ho : Int32) (u_wy : Int32) (u_bt : Int32) (u_ps : Int32) (u_tg : Int32) (u_sn : Int32) (u_ic : Int32) (u_wd : Int32) (u_id : Int32) (u_wo : Int64) (u_va : Int64) (u_su : Int64) (u_st : Int64) (v_rf : Nat → Int32) (v_ro : Nat → Int32) (v_tp : Nat → Int32) (v_nl : Nat → Int32) (v_op : Nat → Int32) (v_ar : Nat → Int32) (v_pi : Nat → Int32) (v_pa : Nat → Int32) (v_ws : Nat → Int64) (v_hw : Nat → Int64) (h_u_td : 0 ≤ u_td.toInt ∧ u_td.toInt ≤ 400) (h_u_fr : 0 ≤ u_fr.toInt ∧ u_fr.toInt ≤ 400) (h_u_to : 0 ≤ u_to.toInt ∧ u_to.toInt ≤ 400) (h_u_bd : 0 ≤ u_bd.toInt ∧ u_bd.toInt ≤ 1) (h_u_nc : 0 ≤ u_nc.toInt ∧ u_nc.toInt ≤ 12) (h_u_co : 0 ≤ u_co.toInt ∧ u_co.toInt ≤ 400) (h_u_pd : 0 ≤ u_pd.toInt ∧ u_pd.toInt ≤ 400) (h_u_la : 0 ≤ u_la.toInt ∧ u_la.toInt ≤ 4840) (h_u_bk : 0 ≤ u_bk.toInt ∧ u_bk.toInt ≤ 1) (h_u_ce : 0 ≤ u_ce.toInt ∧ u_ce.toInt ≤ 63) (h_u_ho : 0 ≤ u_ho.toInt ∧ u_ho.toInt ≤ 23) (h_u_wy : 0 ≤ u_wy.toInt ∧ u_wy.toInt ≤ 3) (h_u_bt : 0 ≤ u_bt.toInt ∧ u_bt.toInt ≤ 1000000) (h_u_ps : 0 ≤ u_ps.toInt ∧ u_ps.toInt ≤ 200) (h_u_ic : 0 ≤ u_ic.toInt ∧ u_ic.toInt ≤ 1) (h_u_id : 0 ≤ u_id.toInt ∧ u_id.toInt ≤ 1) (r_ro : MI v_ro) (e_tp : TPI v_tp) (e_ws : WSI v_ws v_hw) : Met l yX12_law (wsG yX12_law cX12_law 3 (some .int)) ({ frames := 8, cells := 0, slots := 0, locals := 171 }) (va_Pc [.ref b_o] (g5_P G [(b_o, (oc12 u_th u_sa b_rf b_ro b_im b_ke u_fd b_tp u_td u_fr u_to u_so u_wo u_fa u_bd u_nc b_nl u_co b_op b_ar u_le b_pi b_pa u_pd u_od b_ws b_hw u_la b_se b_re u_bk u_va u_su u_ce u_ho u_wy u_bt u_ps b_pt u_tg u_sn b_ip u_ic b_ah b_be b_me u_wd b_tr b_ld u_st b_wn u_id)), (b_rf, (arI G 7 v_rf)), (b_ro, (arI G 5740 v_ro)), (b_tp, (arI G 400 v_tp)), (b_nl, (arI G 96 v_nl)), (b_op, (arI G 400 v_op)), (b_ar, (arI G 400 v_ar)), (b_pi, (arI G 400 v_pi)), (b_pa, (arI G 400 v_pa)), (b_ws, (arJ G 8 v_ws)), (b_hw, (arJ G 4 v_hw))] sz)) (va_Qi (fun (r : Int32) (u : va_W) => (∃ (o_r : Int32) (o_th : Int32) (o_sa : Int32) (o_td : Int32) (o_fr : Int32) (o_to : Int32) (o_so : Int32) (o_wo : Int64) (o_fa : Int32) (o_bd : Int32) (o_nc : Int32) (o_co : Int32) (o_le : Int32) (o_pd : Int32) (o_od : Int32) (o_ic : Int32) (o_rf : Nat → Int32) (o_ro : Nat → Int32) (o_nl : Nat → Int32) (o_op : Nat → Int32) (o_ar : Nat → Int32) (o_pi : Nat → Int32) (o_pa : Nat → Int32), (0 ≤ o_td.toInt ∧ o_td.toInt ≤ 400) ∧ (0 ≤ o_fr.toInt ∧ o_fr.toInt ≤ 400) ∧ (0 ≤ o_to.toInt ∧ o_to.toInt ≤ 400) ∧ (0 ≤ o_bd.toInt ∧ o_bd.toInt ≤ 1) ∧ (0 ≤ o_nc.toInt ∧ o_nc.toInt ≤ 12) ∧ (0 ≤ o_co.toInt ∧ o_co.toInt ≤ 400) ∧ (0 ≤ o_pd.toInt ∧ o_pd.toInt ≤ 400) ∧ (0 ≤ o_ic.toInt ∧ o_ic.toInt ≤ 1) ∧ (MI o_ro) ∧ (o_td.toInt = 0) ∧ (∀ j : Nat, j < 340 → j ≠ 2 → o_ro j = v_ro j) ∧ (∀ j : Nat, 340 ≤ j → (j : Int) < 340 + 900 * (v_ro 2).toInt → o_ro j = v_ro j) ∧ (LAWM v_tp u_td.toInt.toNat v_ro o_ro o_r u_fa o_fa) ∧ (r = o_r) ∧ (u = [(b_o, (oc12 o_th o_sa b_rf b_ro b_im b_ke u_fd b_tp o_td o_fr o_to o_so o_wo o_fa o_bd o_nc b_nl o_co b_op b_ar o_le b_pi b_pa o_pd o_od b_ws b_hw u_la b_se b_re u_bk u_va u_su u_ce u_ho u_wy u_bt u_ps b_pt u_tg u_sn b_ip o_ic b_ah b_be b_me u_wd b_tr b_ld u_st b_wn u_id)), (b_rf, (arI G 7 o_rf)), (b_ro, (arI G 5740 o_ro)), (b_tp, (arI G 400 v_tp)), (b_nl, (arI G 96 o_nl)), (b_op, (arI G 400 o_op)), (b_ar, (arI G 400 o_ar)), (b_pi, (arI G 400 o_pi)), (b_pa, (arI G 400 o_pa)), (b_ws, (arJ G 8 v_ws)), (b_hw, (arJ G 4 v_hw))]))) (g5_B G (va_A [(b_o, (oc12 u_th u_sa b_rf b_ro b_im b_ke u_fd b_tp u_td u_fr u_to u_so u_wo u_fa u_bd u_nc b_nl u_co b_op b_ar u_le b_pi b_pa u_pd u_od b_ws b_hw u_la b_se b_re u_bk u_va u_su u_ce u_ho u_wy u_bt u_ps b_pt u_tg u_sn b_ip u_ic b_ah b_be b_me u_wd b_tr b_ld u_st b_wn u_id)), (b_rf, (arI G 7 v_rf)), (b_ro, (arI G 5740 v_ro)), (b_tp, (arI G 400 v_tp)), (b_nl, (arI G 96 v_nl)), (b_op, (arI G 400 v_op)), (b_ar, (arI G 400 v_ar)), (b_pi, (arI G 400 v_pi)), (b_pa, (arI G 400 v_pa)), (b_ws, (arJ G 8 v_ws)), (b_hw, (arJ G 4 v_hw))] sz)) (va_A [(b_o, (oc12 u_th u_sa b_rf b_ro b_im b_ke u_fd b_tp u_td u_fr u_to u_so u_wo u_fa u_bd u_nc b_nl u_co b_op b_ar u_le b_pi b_pa u_pd u_od b_ws b_hw u_la b_se b_re u_bk u_va u_su u_ce u_ho u_wy u_bt u_ps b_pt u_tg u_sn b_ip u_ic b_ah b_be b_me u_wd b_tr b_ld u_st b_wn u_id)), (b_rf, (arI G 7 v_rf)), (b_ro, (arI G 5740 v_ro)), (b_tp, (arI G 400 v_tp)), (b_nl, (arI G 96 v_nl)), (b_op, (arI G 400 v_op)), (b_ar, (arI G 400 v_ar)), (b_pi, (arI G 400 v_pi)), (b_pa, (arI G 400 v_pa)), (b_ws, (arJ G 8 v_ws)), (b_hw, (arJ G 4 v_hw))] sz)) 0 0 (va_A [(b_o, (oc12 u_th u_sa b_rf b_ro b_im b_ke u_fd b_tp u_td u_fr u_to u_so u_wo u_fa u_bd u_nc b_nl u_co b_op b_ar u_le b_pi b_pa u_pd u_od b_ws b_hw u_la b_se b_re u_bk u_va u_su u_ce u_ho u_wy u_bt u_ps b_pt u_tg u_sn b_ip u_ic b_ah b_be b_me u_wd b_tr b_ld u_st b_wn u_id)), (b_rf, (arI G 7 v_rf)), (b_ro, (arI G 5740 v_ro)), (b_tp, (arI G 400 v_tp)), (b_nl, (arI G 96 v_nl)), (b_op, (arI G 400 v_op)), (b_ar, (arI G 400 v_ar)), (b_pi, (arI G 400 v_pi)), (b_pa, (arI G 400 v_pa)), (b_ws, (arJ G 8 v_ws)), (b_hw, (arJ G 4 v_hw))] sz) := by
  refine Met.ofW (cc := cX12_law) (maxL := 3) (ret := (some .int)) (by decide +kernel) rfl ?_
  intro p e s m args below meth c s₁ B hml hv
  obtain ⟨rfl, hsz, hP, hK, hD0, hN, hT⟩ := hv
  have hx := B.exec
  have hb := B.bytes
  have hr := B.returns
  have hts : ∀ w ∈ tblG, w.before _ s = true := fun w h => atoms_spec (ws := (wsG yX12_law cX12_law 3 (some .int))) B.pre w (List.mem_cons_of_mem _ h)
  have hown : s.vm.findClass RX12 = some m.cls := findClass_of_methodNamed B.named
  have hlocks := B.notSynchronized
  subst hsz
  have hD := hD0.self (sz := s.heap.size)
  generalize hAe : va_A [(b_o, (oc12 u_th u_sa b_rf b_ro b_im b_ke u_fd b_tp u_td u_fr u_to u_so u_wo u_fa u_bd u_nc b_nl u_co b_op b_ar u_le b_pi b_pa u_pd u_od b_ws b_hw u_la b_se b_re u_bk u_va u_su u_ce u_ho u_wy u_bt u_ps b_pt u_tg u_sn b_ip u_ic b_ah b_be b_me u_wd b_tr b_ld u_st b_wn u_id)), (b_rf, (arI G 7 v_rf)), (b_ro, (arI G 5740 v_ro)), (b_tp, (arI G 400 v_tp)), (b_nl, (arI G 96 v_nl)), (b_op, (arI G 400 v_op)), (b_ar, (arI G 400 v_ar)), (b_pi, (arI G 400 v_pi)), (b_pa, (arI G 400 v_pa)), (b_ws, (arJ G 8 v_ws)), (b_hw, (arJ G 4 v_hw))] s.heap.size = A at hD hT ⊢
  have hA : ∀ q : Nat, s.heap.size ≤ q → A q := fun q h => by rw [← hAe]; exact Or.inr h
  have hS : va_S A s.heap s.heap [] := va_S.rf
  replace hP : va_P G.1 vwCl [(b_o, (oc12 u_th u_sa b_rf b_ro b_im b_ke u_fd b_tp u_td u_fr u_to u_so u_wo u_fa u_bd u_nc b_nl u_co b_op b_ar u_le b_pi b_pa u_pd u_od b_ws b_hw u_la b_se b_re u_bk u_va u_su u_ce u_ho u_wy u_bt u_ps b_pt u_tg u_sn b_ip u_ic b_ah b_be b_me u_wd b_tr b_ld u_st b_wn u_id)), (b_rf, (arI G 7 v_rf)), (b_ro, (arI G 5740 v_ro)), (b_tp, (arI G 400 v_tp)), (b_nl, (arI G 96 v_nl)), (b_op, (arI G 400 v_op)), (b_ar, (arI G 400 v_ar)), (b_pi, (arI G 400 v_pi)), (b_pa, (arI G 400 v_pa)), (b_ws, (arJ G 8 v_ws)), (b_hw, (arJ G 4 v_hw))] s.heap := hP
  have hl := lv_entry ([.ref b_o]) (n := 3) (Nat.le_of_ble_eq_true rfl)
  rw [lg_entry_eq]
  generalize (lg_sl ([.ref b_o]) ++ List.replicate (3 - (lg_sl ([.ref b_o])).length) Slot.unset).toArray = ls at hl ⊢
  replace hl : lv_has ls 3 [(0, .ref b_o)] := hl
  refine lv_aload_n hx hb dX12_law_0 rfl (lv_at hl 0 rfl) ?_
  refine lv_iconst (v := 0) hx hb dX12_law_1 (by decide +kernel) ?_
  refine va_put (D := G.1) (ci := 12) (v := .int 0) (ty := .int) (C := RX12) (T := TX12) (N := 52) hx hb hts inG_X12 tyX12 tyX12_ok nmX12 hown hK hP hD hS 0 rfl rfl 0 (by decide +kernel) (hts _ fl_X12_107) (fun _ h9 => h9) rfl (by decide +kernel) rfl rfl (Nat.le_of_ble_eq_true rfl) dX12_law_2 ?_
  clear hP hD hS
  intro H locs hP hD hS
  refine g5_rs [(b_o, (oc12 0 u_sa b_rf b_ro b_im b_ke u_fd b_tp u_td u_fr u_to u_so u_wo u_fa u_bd u_nc b_nl u_co b_op b_ar u_le b_pi b_pa u_pd u_od b_ws b_hw u_la b_se b_re u_bk u_va u_su u_ce u_ho u_wy u_bt u_ps b_pt u_tg u_sn b_ip u_ic b_ah b_be b_me u_wd b_tr b_ld u_st b_wn u_id)), (b_rf, (arI G 7 v_rf)), (b_ro, (arI G 5740 v_ro)), (b_tp, (arI G 400 v_tp)), (b_nl, (arI G 96 v_nl)), (b_op, (arI G 400 v_op)), (b_ar, (arI G 400 v_ar)), (b_pi, (arI G 400 v_pi)), (b_pa, (arI G 400 v_pa)), (b_ws, (arJ G 8 v_ws)), (b_hw, (arJ G 4 v_hw))] hP hD ?_
  clear hP hD
  intro hP hD
  refine lv_aload_n hx hb dX12_law_5 rfl (lv_at hl 0 rfl) ?_
  refine W.eq (g2 := F0 m 6 ls [.ref b_o]) rfl ?_
  refine va_get (D := G.1) (ci := 12) (v := .ref b_ro) (C := RX12) (T := TX12) (N := 52) hx hb hts inG_X12 hown hK hP 0 rfl rfl 3 (by decide +kernel) (hts _ fl_X12_13) (fun _ h9 => h9) rfl dX12_law_6 ?_
  refine lv_iconst (v := 2) hx hb dX12_law_9 (by decide +kernel) ?_
  refine va_iald hx hb hK hP 2 0 rfl rfl (i := 2) (by unfold vp_in; decide) dX12_law_10 ?_
  refine g5_ti (v := (v_ro 2)) rfl ?_
  have hr_1 : 0 ≤ (v_ro 2).toInt ∧ (v_ro 2).toInt ≤ 6 := mi_2 r_ro
  refine lv_bipush (v := 6) hx hb dX12_law_11 (by decide +kernel) ?_
  refine lv_icmp_ne (tgt := 28) hx hb dX12_law_13 (by decide +kernel) (fun c_2 => ?_) (fun c_2 => ?_)
  ·
    have n_2 : gNe ((v_ro 2).toInt) (6) := g5_ne (a := (v_ro 2).toInt) (b := 6) rfl (by decide +kernel) c_2
    have i_2 : (v_ro 2).toInt ≤ 5 := by have z := g5_ne (a := (v_ro 2).toInt) (b := 6) (by rfl) (by decide +kernel) c_2; omega
    refine lv_aload_n hx hb dX12_law_28 rfl (lv_at hl 0 rfl) ?_
    obtain ⟨hPc, hDc, hFc⟩ := g5_sub3 (wc := [(b_o, (oc12 0 u_sa b_rf b_ro b_im b_ke u_fd b_tp u_td u_fr u_to u_so u_wo u_fa u_bd u_nc b_nl u_co b_op b_ar u_le b_pi b_pa u_pd u_od b_ws b_hw u_la b_se b_re u_bk u_va u_su u_ce u_ho u_wy u_bt u_ps b_pt u_tg u_sn b_ip u_ic b_ah b_be b_me u_wd b_tr b_ld u_st b_wn u_id)), (b_tp, (arI G 400 v_tp))]) hP hD hS hA [0, 3] (by decide +kernel) rfl
    refine va_callv (va_runV (As := []) (rest := []) ⟨hx, hb, hml, hown, hts⟩ (n_beginX l G b_o b_tp b_rf b_ro b_im b_ke b_nl b_op b_ar b_pi b_pa b_ws b_hw b_se b_re b_pt b_ip b_ah b_be b_me b_tr b_ld b_wn H.size 0 u_sa u_fd u_td u_fr u_to u_so u_fa u_bd u_nc u_co u_le u_pd u_od u_la u_bk u_ce u_ho u_wy u_bt u_ps u_tg u_sn u_ic u_wd u_id u_wo u_va u_su u_st v_tp h_u_td h_u_fr h_u_to h_u_bd h_u_nc h_u_co h_u_pd h_u_la h_u_bk h_u_ce h_u_ho h_u_wy h_u_bt h_u_ps h_u_ic h_u_id) (cwV 0 hts gV_X12_320 rfl rfl rfl hv_X12_begin ⟨Nat.le_of_ble_eq_true rfl, Nat.le_of_ble_eq_true rfl⟩) (g5_preV hPc hK hDc hN hT hS hFc (ci := 12) (q0 := 0) rfl rfl) rfl rfl hl.1 rfl (lv_room (Nat.le_of_ble_eq_true rfl)) dX12_law_29 ⟨Nat.le_of_ble_eq_true rfl, Nat.le_of_ble_eq_true rfl⟩) hS (fun q _ h => hFc q h) hFc (fun u t H locs ht hvm hw hB hz1 hk1 hS => ?_)
    obtain ⟨hP1, hD1⟩ := hB
    have hP1 := g5_ht ht hP1
    obtain ⟨z8, z9, z10, z11, (i_3 : 0 ≤ z8.toInt ∧ z8.toInt ≤ 400), (i_4 : 0 ≤ z9.toInt ∧ z9.toInt ≤ 400), (i_5 : z8.toInt ≤ z9.toInt ∧ z9.toInt ≤ u_td.toInt), (i_6 : TKs z10.toInt z8.toInt z9.toInt), (i_7 : TOKA v_tp u_td.toInt.toNat (pT v_tp u_td.toInt.toNat 0) z8 z9 z10 z11), rfl⟩ := hw
    have hJ9 := va_join (wr := [(b_rf, (arI G 7 v_rf)), (b_ro, (arI G 5740 v_ro)), (b_nl, (arI G 96 v_nl)), (b_op, (arI G 400 v_op)), (b_ar, (arI G 400 v_ar)), (b_pi, (arI G 400 v_pi)), (b_pa, (arI G 400 v_pa)), (b_ws, (arJ G 8 v_ws)), (b_hw, (arJ G 4 v_hw))]) hP hD [0, 3] [1, 2, 4, 5, 6, 7, 8, 9, 10] rfl rfl (by decide +kernel) (by decide +kernel) hk1 hFc hP1 hD1
    clear hP hD hPc hDc hFc ht hvm hz1 hk1 hP1 hD1
    obtain ⟨hP, hD⟩ := hJ9
    refine g5_rs [(b_rf, (arI G 7 v_rf)), (b_ro, (arI G 5740 v_ro)), (b_nl, (arI G 96 v_nl)), (b_op, (arI G 400 v_op)), (b_ar, (arI G 400 v_ar)), (b_pi, (arI G 400 v_pi)), (b_pa, (arI G 400 v_pa)), (b_ws, (arJ G 8 v_ws)), (b_hw, (arJ G 4 v_hw)), (b_o, (oc12 0 u_sa b_rf b_ro b_im b_ke u_fd b_tp u_td z8 z9 z10 z11 (-1) 0 u_nc b_nl u_co b_op b_ar u_le b_pi b_pa u_pd u_od b_ws b_hw u_la b_se b_re u_bk u_va u_su u_ce u_ho u_wy u_bt u_ps b_pt u_tg u_sn b_ip u_ic b_ah b_be b_me u_wd b_tr b_ld u_st b_wn u_id)), (b_tp, (arI G 400 v_tp))] hP hD ?_
    clear hP hD
    intro hP hD
    refine lv_aload_n hx hb dX12_law_32 rfl (lv_at hl 0 rfl) ?_
    refine lv_iconst (v := 0) hx hb dX12_law_33 (by decide +kernel) ?_
    refine W.eq (g2 := F0 m 34 ls [.int 0, .ref b_o]) rfl ?_
    refine va_put (D := G.1) (ci := 12) (v := .int 0) (ty := .int) (C := RX12) (T := TX12) (N := 52) hx hb hts inG_X12 tyX12 tyX12_ok nmX12 hown hK hP hD hS 9 rfl rfl 15 (by decide +kernel) (hts _ fl_X12_312) (fun _ h9 => h9) rfl (by decide +kernel) rfl rfl (Nat.le_of_ble_eq_true rfl) dX12_law_34 ?_
    clear hP hD hS
    intro H locs hP hD hS
    refine g5_rs [(b_rf, (arI G 7 v_rf)), (b_ro, (arI G 5740 v_ro)), (b_nl, (arI G 96 v_nl)), (b_op, (arI G 400 v_op)), (b_ar, (arI G 400 v_ar)), (b_pi, (arI G 400 v_pi)), (b_pa, (arI G 400 v_pa)), (b_ws, (arJ G 8 v_ws)), (b_hw, (arJ G 4 v_hw)), (b_o, (oc12 0 u_sa b_rf b_ro b_im b_ke u_fd b_tp u_td z8 z9 z10 z11 (-1) 0 0 b_nl u_co b_op b_ar u_le b_pi b_pa u_pd u_od b_ws b_hw u_la b_se b_re u_bk u_va u_su u_ce u_ho u_wy u_bt u_ps b_pt u_tg u_sn b_ip u_ic b_ah b_be b_me u_wd b_tr b_ld u_st b_wn u_id)), (b_tp, (arI G 400 v_tp))] hP hD ?_
    clear hP hD
    intro hP hD
    refine lv_aload_n hx hb dX12_law_37 rfl (lv_at hl 0 rfl) ?_
    refine lv_iconst (v := 0) hx hb dX12_law_38 (by decide +kernel) ?_
    refine va_put (D := G.1) (ci := 12) (v := .int 0) (ty := .int) (C := RX12) (T := TX12) (N := 52) hx hb hts inG_X12 tyX12 tyX12_ok nmX12 hown hK hP hD hS 9 rfl rfl 17 (by decide +kernel) (hts _ fl_X12_237) (fun _ h9 => h9) rfl (by decide +kernel) rfl rfl (Nat.le_of_ble_eq_true rfl) dX12_law_39 ?_
    clear hP hD hS
    intro H locs hP hD hS
    refine g5_rs [(b_rf, (arI G 7 v_rf)), (b_ro, (arI G 5740 v_ro)), (b_nl, (arI G 96 v_nl)), (b_op, (arI G 400 v_op)), (b_ar, (arI G 400 v_ar)), (b_pi, (arI G 400 v_pi)), (b_pa, (arI G 400 v_pa)), (b_ws, (arJ G 8 v_ws)), (b_hw, (arJ G 4 v_hw)), (b_o, (oc12 0 u_sa b_rf b_ro b_im b_ke u_fd b_tp u_td z8 z9 z10 z11 (-1) 0 0 b_nl 0 b_op b_ar u_le b_pi b_pa u_pd u_od b_ws b_hw u_la b_se b_re u_bk u_va u_su u_ce u_ho u_wy u_bt u_ps b_pt u_tg u_sn b_ip u_ic b_ah b_be b_me u_wd b_tr b_ld u_st b_wn u_id)), (b_tp, (arI G 400 v_tp))] hP hD ?_
    clear hP hD
    intro hP hD
    refine lv_aload_n hx hb dX12_law_42 rfl (lv_at hl 0 rfl) ?_
    refine W.eq (g2 := F0 m 43 ls [.ref b_o]) rfl ?_
    refine lv_iconst (v := 0) hx hb dX12_law_43 (by decide +kernel) ?_
    refine va_put (D := G.1) (ci := 12) (v := .int 0) (ty := .int) (C := RX12) (T := TX12) (N := 52) hx hb hts inG_X12 tyX12 tyX12_ok nmX12 hown hK hP hD hS 9 rfl rfl 20 (by decide +kernel) (hts _ fl_X12_264) (fun _ h9 => h9) rfl (by decide +kernel) rfl rfl (Nat.le_of_ble_eq_true rfl) dX12_law_44 ?_
    clear hP hD hS
    intro H locs hP hD hS
    refine g5_rs [(b_rf, (arI G 7 v_rf)), (b_ro, (arI G 5740 v_ro)), (b_nl, (arI G 96 v_nl)), (b_op, (arI G 400 v_op)), (b_ar, (arI G 400 v_ar)), (b_pi, (arI G 400 v_pi)), (b_pa, (arI G 400 v_pa)), (b_ws, (arJ G 8 v_ws)), (b_hw, (arJ G 4 v_hw)), (b_o, (oc12 0 u_sa b_rf b_ro b_im b_ke u_fd b_tp u_td z8 z9 z10 z11 (-1) 0 0 b_nl 0 b_op b_ar 0 b_pi b_pa u_pd u_od b_ws b_hw u_la b_se b_re u_bk u_va u_su u_ce u_ho u_wy u_bt u_ps b_pt u_tg u_sn b_ip u_ic b_ah b_be b_me u_wd b_tr b_ld u_st b_wn u_id)), (b_tp, (arI G 400 v_tp))] hP hD ?_
    clear hP hD
    intro hP hD
    have hE_12 : LWJ v_nl v_op v_ar (0 : Int32).toInt (0 : Int32).toInt := lwj_00 (by decide +kernel)
    have z00 : (0 : Int32).toInt = 0 := (by decide +kernel)
    refine lv_aload_n hx hb dX12_law_47 rfl (lv_at hl 0 rfl) ?_
    obtain ⟨hPc, hDc, hFc⟩ := g5_sub3 (wc := [(b_o, (oc12 0 u_sa b_rf b_ro b_im b_ke u_fd b_tp u_td z8 z9 z10 z11 (-1) 0 0 b_nl 0 b_op b_ar 0 b_pi b_pa u_pd u_od b_ws b_hw u_la b_se b_re u_bk u_va u_su u_ce u_ho u_wy u_bt u_ps b_pt u_tg u_sn b_ip u_ic b_ah b_be b_me u_wd b_tr b_ld u_st b_wn u_id)), (b_tp, (arI G 400 v_tp)), (b_nl, (arI G 96 v_nl)), (b_op, (arI G 400 v_op)), (b_ar, (arI G 400 v_ar)), (b_pi, (arI G 400 v_pi)), (b_pa, (arI G 400 v_pa)), (b_ws, (arJ G 8 v_ws)), (b_hw, (arJ G 4 v_hw))]) hP hD hS hA [9, 10, 2, 3, 4, 5, 6, 7, 8] (by decide +kernel) rfl
    refine va_callv (va_runV (As := []) (rest := []) ⟨hx, hb, hml, hown, hts⟩ (n_readClauseX l G b_o b_tp b_nl b_op b_ar b_pi b_pa b_ws b_hw b_rf b_ro b_im b_ke b_se b_re b_pt b_ip b_ah b_be b_me b_tr b_ld b_wn H.size 0 u_sa u_fd u_td z8 z9 z10 (-1) 0 0 0 0 u_pd u_od u_la u_bk u_ce u_ho u_wy u_bt u_ps u_tg u_sn u_ic u_wd u_id z11 u_va u_su u_st v_tp v_nl v_op v_ar v_pi v_pa v_ws v_hw 0 h_u_td i_3 i_4 ⟨by decide, by decide⟩ ⟨by decide, by decide⟩ ⟨by decide, by decide⟩ h_u_pd h_u_la h_u_bk h_u_ce h_u_ho h_u_wy h_u_bt h_u_ps h_u_ic h_u_id (i_5) (i_6) (by omega) (hE_12) (e_tp) (e_ws) (i_7) (by omega) (by omega) (by omega) (by omega)) (cwV 0 hts gV_X12_323 rfl rfl rfl hv_X12_readClause ⟨Nat.le_of_ble_eq_true rfl, Nat.le_of_ble_eq_true rfl⟩) (g5_preV hPc hK hDc hN hT hS hFc (ci := 12) (q0 := 0) rfl rfl) rfl rfl hl.1 rfl (lv_room (Nat.le_of_ble_eq_true rfl)) dX12_law_48 ⟨Nat.le_of_ble_eq_true rfl, Nat.le_of_ble_eq_true rfl⟩) hS (fun q _ h => hFc q h) hFc (fun u t H locs ht hvm hw hB hz1 hk1 hS => ?_)
    obtain ⟨hP1, hD1⟩ := hB
    have hP1 := g5_ht ht hP1
    rcases hw with ⟨(i_13 : CLX v_tp u_td (0 : Int32) (0 : Int32) (0 : Int32) 0 (1 : Int32) z8 z9 z10 z11 v_op v_ar v_nl (0 : Int32) (0 : Int32)), rfl⟩ | ⟨z31, z32, z33, z34, z35, z36, z37, z38, z39, z40, z41, z42, z43, z44, z45, z46, (i_14 : 0 ≤ z31.toInt ∧ z31.toInt ≤ 400), (i_15 : 0 ≤ z32.toInt ∧ z32.toInt ≤ 400), (i_16 : 0 ≤ z36.toInt ∧ z36.toInt ≤ 1), (i_17 : 0 ≤ z37.toInt ∧ z37.toInt ≤ 12), (i_18 : 0 ≤ z38.toInt ∧ z38.toInt ≤ 400), (i_19 : 0 ≤ z40.toInt ∧ z40.toInt ≤ 400), (i_20 : z8.toInt ≤ z31.toInt ∧ z31.toInt ≤ z32.toInt ∧ z32.toInt ≤ u_td.toInt), (i_21 : TKs z33.toInt z31.toInt z32.toInt), (i_22 : z38.toInt ≤ z31.toInt), (i_23 : z36.toInt = 0 → LWJ z42 z43 z44 z37.toInt z38.toInt), (i_24 : CLX v_tp u_td (0 : Int32) (0 : Int32) (0 : Int32) 0 z36 z31 z32 z33 z34 z43 z44 z42 z38 z39), (i_25 : z36.toInt = 1 → z35 = z31), (i_26 : z36.toInt = 0 → z35 = ((-1) : Int32)), (i_27 : 0 ≤ z39.toInt ∧ z39.toInt ≤ 50), (i_28 : z37.toInt = (0 : Int32).toInt + 1), (i_29 : KP v_op v_ar z43 z44 (0 : Int32).toInt), (i_30 : ∀ j : Nat, (j : Int) < 8 * (0 : Int32).toInt → z42 j = v_nl j), rfl⟩
    ·
      have hJ9 := va_join (wr := [(b_rf, (arI G 7 v_rf)), (b_ro, (arI G 5740 v_ro))]) hP hD [9, 10, 2, 3, 4, 5, 6, 7, 8] [0, 1] rfl rfl (by decide +kernel) (by decide +kernel) hk1 hFc hP1 hD1
      clear hP hD hPc hDc hFc ht hvm hz1 hk1 hP1 hD1
      obtain ⟨hP, hD⟩ := hJ9
      refine g5_rs [(b_rf, (arI G 7 v_rf)), (b_ro, (arI G 5740 v_ro)), (b_o, (oc12 0 u_sa b_rf b_ro b_im b_ke u_fd b_tp u_td z8 z9 z10 z11 z8 1 0 b_nl 0 b_op b_ar 0 b_pi b_pa u_pd u_od b_ws b_hw u_la b_se b_re u_bk u_va u_su u_ce u_ho u_wy u_bt u_ps b_pt u_tg u_sn b_ip u_ic b_ah b_be b_me u_wd b_tr b_ld u_st b_wn u_id)), (b_tp, (arI G 400 v_tp)), (b_nl, (arI G 96 v_nl)), (b_op, (arI G 400 v_op)), (b_ar, (arI G 400 v_ar)), (b_pi, (arI G 400 v_pi)), (b_pa, (arI G 400 v_pa)), (b_ws, (arJ G 8 v_ws)), (b_hw, (arJ G 4 v_hw))] hP hD ?_
      clear hP hD
      intro hP hD
      refine g5_loop (α := (Int32) × (Int32) × (Int32) × (Int64) × (Int32) × (Int32) × (Int32) × (Int32) × (Int32) × (Int32) × (Int32) × (Nat → Int32) × (Nat → Int32) × (Nat → Int32) × (Nat → Int32) × (Nat → Int32)) (fun (q : (Int32) × (Int32) × (Int32) × (Int64) × (Int32) × (Int32) × (Int32) × (Int32) × (Int32) × (Int32) × (Int32) × (Nat → Int32) × (Nat → Int32) × (Nat → Int32) × (Nat → Int32) × (Nat → Int32)) (ls : Array Slot) (H : Heap) (locs : List Loc) => match q with | (k51_fr, k51_to, k51_so, k51_wo, k51_fa, k51_bd, k51_nc, k51_co, k51_le, k51_pd, k51_od, k51_nl, k51_op, k51_ar, k51_pi, k51_pa) => lv_has ls 3 [(0, .ref b_o)] ∧ va_P G.1 vwCl [(b_rf, (arI G 7 v_rf)), (b_ro, (arI G 5740 v_ro)), (b_o, (oc12 0 u_sa b_rf b_ro b_im b_ke u_fd b_tp u_td k51_fr k51_to k51_so k51_wo k51_fa k51_bd k51_nc b_nl k51_co b_op b_ar k51_le b_pi b_pa k51_pd k51_od b_ws b_hw u_la b_se b_re u_bk u_va u_su u_ce u_ho u_wy u_bt u_ps b_pt u_tg u_sn b_ip u_ic b_ah b_be b_me u_wd b_tr b_ld u_st b_wn u_id)), (b_tp, (arI G 400 v_tp)), (b_nl, (arI G 96 k51_nl)), (b_op, (arI G 400 k51_op)), (b_ar, (arI G 400 k51_ar)), (b_pi, (arI G 400 k51_pi)), (b_pa, (arI G 400 k51_pa)), (b_ws, (arJ G 8 v_ws)), (b_hw, (arJ G 4 v_hw))] H ∧ va_D A [(b_rf, (arI G 7 v_rf)), (b_ro, (arI G 5740 v_ro)), (b_o, (oc12 0 u_sa b_rf b_ro b_im b_ke u_fd b_tp u_td k51_fr k51_to k51_so k51_wo k51_fa k51_bd k51_nc b_nl k51_co b_op b_ar k51_le b_pi b_pa k51_pd k51_od b_ws b_hw u_la b_se b_re u_bk u_va u_su u_ce u_ho u_wy u_bt u_ps b_pt u_tg u_sn b_ip u_ic b_ah b_be b_me u_wd b_tr b_ld u_st b_wn u_id)), (b_tp, (arI G 400 v_tp)), (b_nl, (arI G 96 k51_nl)), (b_op, (arI G 400 k51_op)), (b_ar, (arI G 400 k51_ar)), (b_pi, (arI G 400 k51_pi)), (b_pa, (arI G 400 k51_pa)), (b_ws, (arJ G 8 v_ws)), (b_hw, (arJ G 4 v_hw))] ∧ va_S A s.heap H locs ∧ (0 ≤ k51_fr.toInt ∧ k51_fr.toInt ≤ 400) ∧ (0 ≤ k51_to.toInt ∧ k51_to.toInt ≤ 400) ∧ (0 ≤ k51_bd.toInt ∧ k51_bd.toInt ≤ 1) ∧ (0 ≤ k51_nc.toInt ∧ k51_nc.toInt ≤ 12) ∧ (0 ≤ k51_co.toInt ∧ k51_co.toInt ≤ 400) ∧ (0 ≤ k51_pd.toInt ∧ k51_pd.toInt ≤ 400) ∧ (k51_bd.toInt = 0 → LWJ k51_nl k51_op k51_ar k51_nc.toInt k51_co.toInt) ∧ (k51_fr.toInt ≤ k51_to.toInt ∧ k51_to.toInt ≤ u_td.toInt) ∧ (TKs k51_so.toInt k51_fr.toInt k51_to.toInt) ∧ (k51_co.toInt ≤ k51_fr.toInt) ∧ (0 ≤ k51_le.toInt ∧ k51_le.toInt ≤ 50) ∧ (k51_bd.toInt = 1 → k51_fa = k51_fr) ∧ (k51_bd.toInt = 0 → k51_fa.toInt = -1) ∧ (LXS v_tp u_td k51_nl k51_op k51_ar k51_nc k51_co k51_le k51_bd k51_fr k51_to k51_so k51_wo)) (fun (q : (Int32) × (Int32) × (Int32) × (Int64) × (Int32) × (Int32) × (Int32) × (Int32) × (Int32) × (Int32) × (Int32) × (Nat → Int32) × (Nat → Int32) × (Nat → Int32) × (Nat → Int32) × (Nat → Int32)) => match q with | (k51_fr, k51_to, k51_so, k51_wo, k51_fa, k51_bd, k51_nc, k51_co, k51_le, k51_pd, k51_od, k51_nl, k51_op, k51_ar, k51_pi, k51_pa) => Int.toNat (400 - k51_fr.toInt)) (z8, z9, z10, z11, z8, 1, 0, 0, 0, u_pd, u_od, v_nl, v_op, v_ar, v_pi, v_pa) ⟨lv_sub hl [0] rfl, hP, hD, hS, i_3, i_4, ⟨by decide, by decide⟩, ⟨by decide, by decide⟩, ⟨by decide, by decide⟩, h_u_pd, fun q9 => absurd q9 (by decide +kernel), by omega, i_6, by omega, by first | decide | omega, fun _ => rfl, fun q9 => absurd q9 (by decide +kernel), lxs_0 (nl := v_nl) (by decide +kernel) (by decide +kernel) (by decide +kernel) (by first | exact fun q9 => absurd q9 (by decide +kernel) | exact fun _ => by omega) (by first | decide | omega) i_13⟩ ?_
      rintro ⟨k51_fr, k51_to, k51_so, k51_wo, k51_fa, k51_bd, k51_nc, k51_co, k51_le, k51_pd, k51_od, k51_nl, k51_op, k51_ar, k51_pi, k51_pa⟩ ls H locs ⟨hl, hP, hD, hS, (i_47 : 0 ≤ k51_fr.toInt ∧ k51_fr.toInt ≤ 400), (i_48 : 0 ≤ k51_to.toInt ∧ k51_to.toInt ≤ 400), (i_49 : 0 ≤ k51_bd.toInt ∧ k51_bd.toInt ≤ 1), (i_50 : 0 ≤ k51_nc.toInt ∧ k51_nc.toInt ≤ 12), (i_51 : 0 ≤ k51_co.toInt ∧ k51_co.toInt ≤ 400), (i_52 : 0 ≤ k51_pd.toInt ∧ k51_pd.toInt ≤ 400), (i_53 : k51_bd.toInt = 0 → LWJ k51_nl k51_op k51_ar k51_nc.toInt k51_co.toInt), (i_54 : k51_fr.toInt ≤ k51_to.toInt ∧ k51_to.toInt ≤ u_td.toInt), (i_55 : TKs k51_so.toInt k51_fr.toInt k51_to.toInt), (i_56 : k51_co.toInt ≤ k51_fr.toInt), (i_57 : 0 ≤ k51_le.toInt ∧ k51_le.toInt ≤ 50), (i_58 : k51_bd.toInt = 1 → k51_fa = k51_fr), (i_59 : k51_bd.toInt = 0 → k51_fa.toInt = -1), (i_60 : LXS v_tp u_td k51_nl k51_op k51_ar k51_nc k51_co k51_le k51_bd k51_fr k51_to k51_so k51_wo)⟩ ih_51_61
      replace hl : lv_has ls 3 [(0, .ref b_o)] := hl
      refine g5_rs [(b_rf, (arI G 7 v_rf)), (b_ro, (arI G 5740 v_ro)), (b_o, (oc12 0 u_sa b_rf b_ro b_im b_ke u_fd b_tp u_td k51_fr k51_to k51_so k51_wo k51_fa k51_bd k51_nc b_nl k51_co b_op b_ar k51_le b_pi b_pa k51_pd k51_od b_ws b_hw u_la b_se b_re u_bk u_va u_su u_ce u_ho u_wy u_bt u_ps b_pt u_tg u_sn b_ip u_ic b_ah b_be b_me u_wd b_tr b_ld u_st b_wn u_id)), (b_tp, (arI G 400 v_tp)), (b_nl, (arI G 96 k51_nl)), (b_op, (arI G 400 k51_op)), (b_ar, (arI G 400 k51_ar)), (b_pi, (arI G 400 k51_pi)), (b_pa, (arI G 400 k51_pa)), (b_ws, (arJ G 8 v_ws)), (b_hw, (arJ G 4 v_hw))] hP hD ?_
      clear hP hD
      intro hP hD
      refine lv_aload_n hx hb dX12_law_51 rfl (lv_at hl 0 rfl) ?_
      refine va_get (D := G.1) (ci := 12) (v := .int k51_bd) (C := RX12) (T := TX12) (N := 52) hx hb hts inG_X12 hown hK hP 2 rfl rfl 14 (by decide +kernel) (hts _ fl_X12_205) (fun _ h9 => h9) rfl dX12_law_52 ?_
      refine lv_if_ne (tgt := 78) hx hb dX12_law_55 (by decide +kernel) (fun c_62 => ?_) (fun c_62 => ?_)
      ·
        have n_62 : gNe (k51_bd.toInt) (0) := g5_ne (a := k51_bd.toInt) (b := 0) rfl (by decide +kernel) c_62
        have i_62 : k51_bd.toInt ≥ 1 := by have z := g5_ne (a := k51_bd.toInt) (b := 0) (by rfl) (by decide +kernel) c_62; omega
        refine lv_aload_n hx hb dX12_law_78 rfl (lv_at hl 0 rfl) ?_
        refine va_get (D := G.1) (ci := 12) (v := .int k51_bd) (C := RX12) (T := TX12) (N := 52) hx hb hts inG_X12 hown hK hP 2 rfl rfl 14 (by decide +kernel) (hts _ fl_X12_205) (fun _ h9 => h9) rfl dX12_law_79 ?_
        refine lv_if_ne (tgt := 97) hx hb dX12_law_82 (by decide +kernel) (fun c_63 => ?_) (fun c_63 => ?_)
        ·
          have n_63 : gNe (k51_bd.toInt) (0) := g5_ne (a := k51_bd.toInt) (b := 0) rfl (by decide +kernel) c_63
          refine lv_aload_n hx hb dX12_law_97 rfl (lv_at hl 0 rfl) ?_
          refine lv_iconst (v := 0) hx hb dX12_law_98 (by decide +kernel) ?_
          refine va_put (D := G.1) (ci := 12) (v := .int 0) (ty := .int) (C := RX12) (T := TX12) (N := 52) hx hb hts inG_X12 tyX12 tyX12_ok nmX12 hown hK hP hD hS 2 rfl rfl 8 (by decide +kernel) (hts _ fl_X12_192) (fun _ h9 => h9) rfl (by decide +kernel) rfl rfl (Nat.le_of_ble_eq_true rfl) dX12_law_99 ?_
          clear hP hD hS
          intro H locs hP hD hS
          refine g5_rs [(b_rf, (arI G 7 v_rf)), (b_ro, (arI G 5740 v_ro)), (b_o, (oc12 0 u_sa b_rf b_ro b_im b_ke u_fd b_tp 0 k51_fr k51_to k51_so k51_wo k51_fa k51_bd k51_nc b_nl k51_co b_op b_ar k51_le b_pi b_pa k51_pd k51_od b_ws b_hw u_la b_se b_re u_bk u_va u_su u_ce u_ho u_wy u_bt u_ps b_pt u_tg u_sn b_ip u_ic b_ah b_be b_me u_wd b_tr b_ld u_st b_wn u_id)), (b_tp, (arI G 400 v_tp)), (b_nl, (arI G 96 k51_nl)), (b_op, (arI G 400 k51_op)), (b_ar, (arI G 400 k51_ar)), (b_pi, (arI G 400 k51_pi)), (b_pa, (arI G 400 k51_pa)), (b_ws, (arJ G 8 v_ws)), (b_hw, (arJ G 4 v_hw))] hP hD ?_
          clear hP hD
          intro hP hD
          refine lv_aload_n hx hb dX12_law_102 rfl (lv_at hl 0 rfl) ?_
          refine W.eq (g2 := F0 m 103 ls [.ref b_o]) rfl ?_
          refine va_get (D := G.1) (ci := 12) (v := .int k51_bd) (C := RX12) (T := TX12) (N := 52) hx hb hts inG_X12 hown hK hP 2 rfl rfl 14 (by decide +kernel) (hts _ fl_X12_205) (fun _ h9 => h9) rfl dX12_law_103 ?_
          refine lv_if_eq (tgt := 116) hx hb dX12_law_106 (by decide +kernel) (fun c_64 => ?_) (fun c_64 => ?_)
          ·
            have i_64 : k51_bd.toInt = 0 := g5_eq (a := k51_bd.toInt) (b := 0) rfl (by decide +kernel) c_64
            omega
          ·
            have n_64 : gNe (k51_bd.toInt) (0) := g5_eqN (a := k51_bd.toInt) (b := 0) rfl (by decide +kernel) c_64
            have hFL := lxs_bad i_60 (by omega)
            have hFA := i_58 (by omega)
            refine lv_aload_n hx hb dX12_law_109 rfl (lv_at hl 0 rfl) ?_
            refine lv_bipush (v := (-6)) hx hb dX12_law_110 (by decide +kernel) ?_
            obtain ⟨hPc, hDc, hFc⟩ := g5_sub3 (wc := [(b_o, (oc12 0 u_sa b_rf b_ro b_im b_ke u_fd b_tp 0 k51_fr k51_to k51_so k51_wo k51_fa k51_bd k51_nc b_nl k51_co b_op b_ar k51_le b_pi b_pa k51_pd k51_od b_ws b_hw u_la b_se b_re u_bk u_va u_su u_ce u_ho u_wy u_bt u_ps b_pt u_tg u_sn b_ip u_ic b_ah b_be b_me u_wd b_tr b_ld u_st b_wn u_id)), (b_rf, (arI G 7 v_rf))]) hP hD hS hA [2, 0] (by decide +kernel) rfl
            refine va_calli (va_runV (As := [.int (-6)]) (rest := []) ⟨hx, hb, hml, hown, hts⟩ (n_tell6 l G b_o b_rf b_ro b_im b_ke b_tp b_nl b_op b_ar b_pi b_pa b_ws b_hw b_se b_re b_pt b_ip b_ah b_be b_me b_tr b_ld b_wn H.size 0 u_sa u_fd 0 k51_fr k51_to k51_so k51_fa k51_bd k51_nc k51_co k51_le k51_pd k51_od u_la u_bk u_ce u_ho u_wy u_bt u_ps u_tg u_sn u_ic u_wd u_id k51_wo u_va u_su u_st v_rf ⟨by decide, by decide⟩ i_47 i_48 i_49 i_50 i_51 i_52 h_u_la h_u_bk h_u_ce h_u_ho h_u_wy h_u_bt h_u_ps h_u_ic h_u_id) (cwV 1 hts gV_X12_125 rfl rfl rfl hv_X12_tell ⟨Nat.le_of_ble_eq_true rfl, Nat.le_of_ble_eq_true rfl⟩) (g5_preV hPc hK hDc hN hT hS hFc (ci := 12) (q0 := 0) rfl rfl) rfl rfl hl.1 rfl (lv_room (Nat.le_of_ble_eq_true rfl)) dX12_law_112 ⟨Nat.le_of_ble_eq_true rfl, Nat.le_of_ble_eq_true rfl⟩) hS (fun q _ h => hFc q h) hFc (fun r u t H locs ht hvm hw hB hz1 hk1 hS => ?_)
            obtain ⟨hP1, hD1⟩ := hB
            have hP1 := g5_ht ht hP1
            obtain ⟨z66, z67, z68, (i_65 : 0 ≤ z67.toInt ∧ z67.toInt ≤ 1), rfl, rfl⟩ := hw
            have hJ9 := va_join (wr := [(b_ro, (arI G 5740 v_ro)), (b_tp, (arI G 400 v_tp)), (b_nl, (arI G 96 k51_nl)), (b_op, (arI G 400 k51_op)), (b_ar, (arI G 400 k51_ar)), (b_pi, (arI G 400 k51_pi)), (b_pa, (arI G 400 k51_pa)), (b_ws, (arJ G 8 v_ws)), (b_hw, (arJ G 4 v_hw))]) hP hD [2, 0] [1, 3, 4, 5, 6, 7, 8, 9, 10] rfl rfl (by decide +kernel) (by decide +kernel) hk1 hFc hP1 hD1
            clear hP hD hPc hDc hFc ht hvm hz1 hk1 hP1 hD1
            obtain ⟨hP, hD⟩ := hJ9
            refine g5_rs [(b_ro, (arI G 5740 v_ro)), (b_tp, (arI G 400 v_tp)), (b_nl, (arI G 96 k51_nl)), (b_op, (arI G 400 k51_op)), (b_ar, (arI G 400 k51_ar)), (b_pi, (arI G 400 k51_pi)), (b_pa, (arI G 400 k51_pa)), (b_ws, (arJ G 8 v_ws)), (b_hw, (arJ G 4 v_hw)), (b_o, (oc12 0 z66 b_rf b_ro b_im b_ke u_fd b_tp 0 k51_fr k51_to k51_so k51_wo k51_fa k51_bd k51_nc b_nl k51_co b_op b_ar k51_le b_pi b_pa k51_pd k51_od b_ws b_hw u_la b_se b_re u_bk u_va u_su u_ce u_ho u_wy u_bt u_ps b_pt u_tg u_sn b_ip z67 b_ah b_be b_me u_wd b_tr b_ld u_st b_wn u_id)), (b_rf, (arI G 7 z68))] hP hD ?_
            clear hP hD
            intro hP hD
            exact W.iret (v := (-6)) hx hb hr (fun t ht hW => ⟨⟨(-6), [(b_o, (oc12 0 z66 b_rf b_ro b_im b_ke u_fd b_tp 0 k51_fr k51_to k51_so k51_wo k51_fa k51_bd k51_nc b_nl k51_co b_op b_ar k51_le b_pi b_pa k51_pd k51_od b_ws b_hw u_la b_se b_re u_bk u_va u_su u_ce u_ho u_wy u_bt u_ps b_pt u_tg u_sn b_ip z67 b_ah b_be b_me u_wd b_tr b_ld u_st b_wn u_id)), (b_rf, (arI G 7 z68)), (b_ro, (arI G 5740 v_ro)), (b_tp, (arI G 400 v_tp)), (b_nl, (arI G 96 k51_nl)), (b_op, (arI G 400 k51_op)), (b_ar, (arI G 400 k51_ar)), (b_pi, (arI G 400 k51_pi)), (b_pa, (arI G 400 k51_pa)), (b_ws, (arJ G 8 v_ws)), (b_hw, (arJ G 4 v_hw))], rfl, ⟨(-6), 0, z66, 0, k51_fr, k51_to, k51_so, k51_wo, k51_fa, k51_bd, k51_nc, k51_co, k51_le, k51_pd, k51_od, z67, z68, v_ro, k51_nl, k51_op, k51_ar, k51_pi, k51_pa, ⟨by have zc_o_td : (0 : Int32).toInt = 0 := (by decide +kernel); omega, by have zc_o_td : (0 : Int32).toInt = 0 := (by decide +kernel); omega⟩, i_47, i_48, i_49, i_50, i_51, i_52, i_65, r_ro, by decide, fun _ _ _ => rfl, fun _ _ _ => rfl, Or.inr (Or.inl ⟨by omega, hFL.1, by first | decide | omega, rfl, by rw [hFA]; exact hFL.2⟩), rfl, rfl⟩, by rw [ht]; exact hP.sub [9, 10, 0, 1, 2, 3, 4, 5, 6, 7, 8] rfl, hD.sub [9, 10, 0, 1, 2, 3, 4, 5, 6, 7, 8] (by decide +kernel) rfl⟩, hS.F ht⟩) hS.2.2 dX12_law_115
        ·
          have i_63 : k51_bd.toInt = 0 := g5_neN (a := k51_bd.toInt) (b := 0) rfl (by decide +kernel) c_63
          omega
      ·
        have i_62 : k51_bd.toInt = 0 := g5_neN (a := k51_bd.toInt) (b := 0) rfl (by decide +kernel) c_62
        refine lv_aload_n hx hb dX12_law_58 rfl (lv_at hl 0 rfl) ?_
        refine lv_bipush (v := 59) hx hb dX12_law_59 (by decide +kernel) ?_
        obtain ⟨hPc, hDc, hFc⟩ := g5_sub3 (wc := [(b_o, (oc12 0 u_sa b_rf b_ro b_im b_ke u_fd b_tp u_td k51_fr k51_to k51_so k51_wo k51_fa k51_bd k51_nc b_nl k51_co b_op b_ar k51_le b_pi b_pa k51_pd k51_od b_ws b_hw u_la b_se b_re u_bk u_va u_su u_ce u_ho u_wy u_bt u_ps b_pt u_tg u_sn b_ip u_ic b_ah b_be b_me u_wd b_tr b_ld u_st b_wn u_id))]) hP hD hS hA [2] (by decide +kernel) rfl
        refine va_calli (va_runV (As := [.int 59]) (rest := []) ⟨hx, hb, hml, hown, hts⟩ (n_isSignX59 l G b_o b_rf b_ro b_im b_ke b_tp b_nl b_op b_ar b_pi b_pa b_ws b_hw b_se b_re b_pt b_ip b_ah b_be b_me b_tr b_ld b_wn H.size 0 u_sa u_fd u_td k51_fr k51_to k51_so k51_fa k51_bd k51_nc k51_co k51_le k51_pd k51_od u_la u_bk u_ce u_ho u_wy u_bt u_ps u_tg u_sn u_ic u_wd u_id k51_wo u_va u_su u_st h_u_td i_47 i_48 i_49 i_50 i_51 i_52 h_u_la h_u_bk h_u_ce h_u_ho h_u_wy h_u_bt h_u_ps h_u_ic h_u_id) (cwV 1 hts gV_X12_267 rfl rfl rfl hv_X12_isSign ⟨Nat.le_of_ble_eq_true rfl, Nat.le_of_ble_eq_true rfl⟩) (g5_preV hPc hK hDc hN hT hS hFc (ci := 12) (q0 := 0) rfl rfl) rfl rfl hl.1 rfl (lv_room (Nat.le_of_ble_eq_true rfl)) dX12_law_61 ⟨Nat.le_of_ble_eq_true rfl, Nat.le_of_ble_eq_true rfl⟩) hS (fun q _ h => hFc q h) hFc (fun r u t H locs ht hvm hw hB hz1 hk1 hS => ?_)
        obtain ⟨hP1, hD1⟩ := hB
        have hP1 := g5_ht ht hP1
        rcases hw with ⟨(i_69 : k51_so.toInt = 3 ∧ k51_wo.toInt = 59), rfl, rfl⟩ | ⟨(i_70 : ¬ (k51_so.toInt = 3 ∧ k51_wo.toInt = 59)), rfl, rfl⟩
        ·
          have hJ9 := va_join (wr := [(b_rf, (arI G 7 v_rf)), (b_ro, (arI G 5740 v_ro)), (b_tp, (arI G 400 v_tp)), (b_nl, (arI G 96 k51_nl)), (b_op, (arI G 400 k51_op)), (b_ar, (arI G 400 k51_ar)), (b_pi, (arI G 400 k51_pi)), (b_pa, (arI G 400 k51_pa)), (b_ws, (arJ G 8 v_ws)), (b_hw, (arJ G 4 v_hw))]) hP hD [2] [0, 1, 3, 4, 5, 6, 7, 8, 9, 10] rfl rfl (by decide +kernel) (by decide +kernel) hk1 hFc hP1 hD1
          clear hP hD hPc hDc hFc ht hvm hz1 hk1 hP1 hD1
          obtain ⟨hP, hD⟩ := hJ9
          refine g5_rs [(b_rf, (arI G 7 v_rf)), (b_ro, (arI G 5740 v_ro)), (b_tp, (arI G 400 v_tp)), (b_nl, (arI G 96 k51_nl)), (b_op, (arI G 400 k51_op)), (b_ar, (arI G 400 k51_ar)), (b_pi, (arI G 400 k51_pi)), (b_pa, (arI G 400 k51_pa)), (b_ws, (arJ G 8 v_ws)), (b_hw, (arJ G 4 v_hw)), (b_o, (oc12 0 u_sa b_rf b_ro b_im b_ke u_fd b_tp u_td k51_fr k51_to k51_so k51_wo k51_fa k51_bd k51_nc b_nl k51_co b_op b_ar k51_le b_pi b_pa k51_pd k51_od b_ws b_hw u_la b_se b_re u_bk u_va u_su u_ce u_ho u_wy u_bt u_ps b_pt u_tg u_sn b_ip u_ic b_ah b_be b_me u_wd b_tr b_ld u_st b_wn u_id))] hP hD ?_
          clear hP hD
          intro hP hD
          refine lv_if_eq (tgt := 78) hx hb dX12_law_64 (by decide +kernel) (fun c_71 => ?_) (fun c_71 => ?_)
          ·
            exact absurd c_71 (by decide +kernel)
          ·
            have hlt7 : k51_fr.toInt < k51_to.toInt := tks_lt i_55 (by omega)
            obtain ⟨kk, hLB, hTk, hk1, hk2⟩ := lxs_k i_60 (by omega)
            have hK59 := (tk_sign e_tp hTk (by decide +kernel) (by decide +kernel) (c := 59)).mpr i_69
            have hkn : kk < u_td.toInt.toNat := k_lt (by omega) (by rw [hK59]; decide)
            refine lv_aload_n hx hb dX12_law_67 rfl (lv_at hl 0 rfl) ?_
            obtain ⟨hPc, hDc, hFc⟩ := g5_sub3 (wc := [(b_o, (oc12 0 u_sa b_rf b_ro b_im b_ke u_fd b_tp u_td k51_fr k51_to k51_so k51_wo k51_fa k51_bd k51_nc b_nl k51_co b_op b_ar k51_le b_pi b_pa k51_pd k51_od b_ws b_hw u_la b_se b_re u_bk u_va u_su u_ce u_ho u_wy u_bt u_ps b_pt u_tg u_sn b_ip u_ic b_ah b_be b_me u_wd b_tr b_ld u_st b_wn u_id)), (b_tp, (arI G 400 v_tp))]) hP hD hS hA [10, 2] (by decide +kernel) rfl
            refine va_callv (va_runV (As := []) (rest := []) ⟨hx, hb, hml, hown, hts⟩ (n_nextX l G b_o b_tp b_rf b_ro b_im b_ke b_nl b_op b_ar b_pi b_pa b_ws b_hw b_se b_re b_pt b_ip b_ah b_be b_me b_tr b_ld b_wn H.size 0 u_sa u_fd u_td k51_fr k51_to k51_so k51_fa k51_bd k51_nc k51_co k51_le k51_pd k51_od u_la u_bk u_ce u_ho u_wy u_bt u_ps u_tg u_sn u_ic u_wd u_id k51_wo u_va u_su u_st v_tp h_u_td i_47 i_48 i_49 i_50 i_51 i_52 h_u_la h_u_bk h_u_ce h_u_ho h_u_wy h_u_bt h_u_ps h_u_ic h_u_id (by omega)) (cwV 0 hts gV_X12_208 rfl rfl rfl hv_X12_next ⟨Nat.le_of_ble_eq_true rfl, Nat.le_of_ble_eq_true rfl⟩) (g5_preV hPc hK hDc hN hT hS hFc (ci := 12) (q0 := 0) rfl rfl) rfl rfl hl.1 rfl (lv_room (Nat.le_of_ble_eq_true rfl)) dX12_law_68 ⟨Nat.le_of_ble_eq_true rfl, Nat.le_of_ble_eq_true rfl⟩) hS (fun q _ h => hFc q h) hFc (fun u t H locs ht hvm hw hB hz1 hk1 hS => ?_)
            obtain ⟨hP1, hD1⟩ := hB
            have hP1 := g5_ht ht hP1
            obtain ⟨z77, z78, z79, z80, (i_72 : 0 ≤ z77.toInt ∧ z77.toInt ≤ 400), (i_73 : 0 ≤ z78.toInt ∧ z78.toInt ≤ 400), (i_74 : k51_to.toInt ≤ z77.toInt ∧ z77.toInt ≤ z78.toInt ∧ z78.toInt ≤ u_td.toInt), (i_75 : TKs z79.toInt z77.toInt z78.toInt), (i_76 : TOKA v_tp u_td.toInt.toNat (skT v_tp u_td.toInt.toNat k51_to.toInt.toNat) z77 z78 z79 z80), rfl⟩ := hw
            have hJ9 := va_join (wr := [(b_rf, (arI G 7 v_rf)), (b_ro, (arI G 5740 v_ro)), (b_nl, (arI G 96 k51_nl)), (b_op, (arI G 400 k51_op)), (b_ar, (arI G 400 k51_ar)), (b_pi, (arI G 400 k51_pi)), (b_pa, (arI G 400 k51_pa)), (b_ws, (arJ G 8 v_ws)), (b_hw, (arJ G 4 v_hw))]) hP hD [10, 2] [0, 1, 3, 4, 5, 6, 7, 8, 9] rfl rfl (by decide +kernel) (by decide +kernel) hk1 hFc hP1 hD1
            clear hP hD hPc hDc hFc ht hvm hz1 hk1 hP1 hD1
            obtain ⟨hP, hD⟩ := hJ9
            refine g5_rs [(b_rf, (arI G 7 v_rf)), (b_ro, (arI G 5740 v_ro)), (b_nl, (arI G 96 k51_nl)), (b_op, (arI G 400 k51_op)), (b_ar, (arI G 400 k51_ar)), (b_pi, (arI G 400 k51_pi)), (b_pa, (arI G 400 k51_pa)), (b_ws, (arJ G 8 v_ws)), (b_hw, (arJ G 4 v_hw)), (b_o, (oc12 0 u_sa b_rf b_ro b_im b_ke u_fd b_tp u_td z77 z78 z79 z80 k51_fa k51_bd k51_nc b_nl k51_co b_op b_ar k51_le b_pi b_pa k51_pd k51_od b_ws b_hw u_la b_se b_re u_bk u_va u_su u_ce u_ho u_wy u_bt u_ps b_pt u_tg u_sn b_ip u_ic b_ah b_be b_me u_wd b_tr b_ld u_st b_wn u_id)), (b_tp, (arI G 400 v_tp))] hP hD ?_
            clear hP hD
            intro hP hD
            have hE_81 : LWJ k51_nl k51_op k51_ar k51_nc.toInt k51_co.toInt := i_53 (by omega)
            have hE_82 : TOKA v_tp u_td.toInt.toNat (pT v_tp u_td.toInt.toNat (kk + 1)) z77 z78 z79 z80 := toka_nx hTk i_76
            refine lv_aload_n hx hb dX12_law_71 rfl (lv_at hl 0 rfl) ?_
            obtain ⟨hPc, hDc, hFc⟩ := g5_sub3 (wc := [(b_o, (oc12 0 u_sa b_rf b_ro b_im b_ke u_fd b_tp u_td z77 z78 z79 z80 k51_fa k51_bd k51_nc b_nl k51_co b_op b_ar k51_le b_pi b_pa k51_pd k51_od b_ws b_hw u_la b_se b_re u_bk u_va u_su u_ce u_ho u_wy u_bt u_ps b_pt u_tg u_sn b_ip u_ic b_ah b_be b_me u_wd b_tr b_ld u_st b_wn u_id)), (b_tp, (arI G 400 v_tp)), (b_nl, (arI G 96 k51_nl)), (b_op, (arI G 400 k51_op)), (b_ar, (arI G 400 k51_ar)), (b_pi, (arI G 400 k51_pi)), (b_pa, (arI G 400 k51_pa)), (b_ws, (arJ G 8 v_ws)), (b_hw, (arJ G 4 v_hw))]) hP hD hS hA [9, 10, 2, 3, 4, 5, 6, 7, 8] (by decide +kernel) rfl
            refine va_callv (va_runV (As := []) (rest := []) ⟨hx, hb, hml, hown, hts⟩ (n_readClauseX l G b_o b_tp b_nl b_op b_ar b_pi b_pa b_ws b_hw b_rf b_ro b_im b_ke b_se b_re b_pt b_ip b_ah b_be b_me b_tr b_ld b_wn H.size 0 u_sa u_fd u_td z77 z78 z79 k51_fa k51_bd k51_nc k51_co k51_le k51_pd k51_od u_la u_bk u_ce u_ho u_wy u_bt u_ps u_tg u_sn u_ic u_wd u_id z80 u_va u_su u_st v_tp k51_nl k51_op k51_ar k51_pi k51_pa v_ws v_hw (kk + 1) h_u_td i_72 i_73 ⟨by omega, by omega⟩ i_50 i_51 i_52 h_u_la h_u_bk h_u_ce h_u_ho h_u_wy h_u_bt h_u_ps h_u_ic h_u_id (by omega) (i_75) (by omega) (hE_81) (e_tp) (e_ws) (hE_82) (i_57) (by omega) (by omega) (by omega)) (cwV 0 hts gV_X12_323 rfl rfl rfl hv_X12_readClause ⟨Nat.le_of_ble_eq_true rfl, Nat.le_of_ble_eq_true rfl⟩) (g5_preV hPc hK hDc hN hT hS hFc (ci := 12) (q0 := 0) rfl rfl) rfl rfl hl.1 rfl (lv_room (Nat.le_of_ble_eq_true rfl)) dX12_law_72 ⟨Nat.le_of_ble_eq_true rfl, Nat.le_of_ble_eq_true rfl⟩) hS (fun q _ h => hFc q h) hFc (fun u t H locs ht hvm hw hB hz1 hk1 hS => ?_)
            obtain ⟨hP1, hD1⟩ := hB
            have hP1 := g5_ht ht hP1
            rcases hw with ⟨(i_83 : CLX v_tp u_td k51_nc k51_co k51_le (kk + 1) (1 : Int32) z77 z78 z79 z80 k51_op k51_ar k51_nl k51_co k51_le), rfl⟩ | ⟨z101, z102, z103, z104, z105, z106, z107, z108, z109, z110, z111, z112, z113, z114, z115, z116, (i_84 : 0 ≤ z101.toInt ∧ z101.toInt ≤ 400), (i_85 : 0 ≤ z102.toInt ∧ z102.toInt ≤ 400), (i_86 : 0 ≤ z106.toInt ∧ z106.toInt ≤ 1), (i_87 : 0 ≤ z107.toInt ∧ z107.toInt ≤ 12), (i_88 : 0 ≤ z108.toInt ∧ z108.toInt ≤ 400), (i_89 : 0 ≤ z110.toInt ∧ z110.toInt ≤ 400), (i_90 : z77.toInt ≤ z101.toInt ∧ z101.toInt ≤ z102.toInt ∧ z102.toInt ≤ u_td.toInt), (i_91 : TKs z103.toInt z101.toInt z102.toInt), (i_92 : z108.toInt ≤ z101.toInt), (i_93 : z106.toInt = 0 → LWJ z112 z113 z114 z107.toInt z108.toInt), (i_94 : CLX v_tp u_td k51_nc k51_co k51_le (kk + 1) z106 z101 z102 z103 z104 z113 z114 z112 z108 z109), (i_95 : z106.toInt = 1 → z105 = z101), (i_96 : z106.toInt = 0 → z105 = k51_fa), (i_97 : 0 ≤ z109.toInt ∧ z109.toInt ≤ 50), (i_98 : z107.toInt = k51_nc.toInt + 1), (i_99 : KP k51_op k51_ar z113 z114 k51_co.toInt), (i_100 : ∀ j : Nat, (j : Int) < 8 * k51_nc.toInt → z112 j = k51_nl j), rfl⟩
            ·
              have hJ9 := va_join (wr := [(b_rf, (arI G 7 v_rf)), (b_ro, (arI G 5740 v_ro))]) hP hD [9, 10, 2, 3, 4, 5, 6, 7, 8] [0, 1] rfl rfl (by decide +kernel) (by decide +kernel) hk1 hFc hP1 hD1
              clear hP hD hPc hDc hFc ht hvm hz1 hk1 hP1 hD1
              obtain ⟨hP, hD⟩ := hJ9
              refine g5_rs [(b_rf, (arI G 7 v_rf)), (b_ro, (arI G 5740 v_ro)), (b_o, (oc12 0 u_sa b_rf b_ro b_im b_ke u_fd b_tp u_td z77 z78 z79 z80 z77 1 k51_nc b_nl k51_co b_op b_ar k51_le b_pi b_pa k51_pd k51_od b_ws b_hw u_la b_se b_re u_bk u_va u_su u_ce u_ho u_wy u_bt u_ps b_pt u_tg u_sn b_ip u_ic b_ah b_be b_me u_wd b_tr b_ld u_st b_wn u_id)), (b_tp, (arI G 400 v_tp)), (b_nl, (arI G 96 k51_nl)), (b_op, (arI G 400 k51_op)), (b_ar, (arI G 400 k51_ar)), (b_pi, (arI G 400 k51_pi)), (b_pa, (arI G 400 k51_pa)), (b_ws, (arJ G 8 v_ws)), (b_hw, (arJ G 4 v_hw))] hP hD ?_
              clear hP hD
              intro hP hD
              refine lv_goto (tgt := 51) hx hb dX12_law_75 (by decide +kernel) ?_
              exact ih_51_61 (z77, z78, z79, z80, z77, 1, k51_nc, k51_co, k51_le, k51_pd, k51_od, k51_nl, k51_op, k51_ar, k51_pi, k51_pa) ls H locs (show Int.toNat (400 - z77.toInt) < Int.toNat (400 - k51_fr.toInt) from g_up (show k51_fr.toInt < z77.toInt by omega) (show k51_fr.toInt < 400 by omega)) ⟨lv_sub hl [0] rfl, hP, hD, hS, i_72, i_73, ⟨by decide, by decide⟩, i_50, i_51, i_52, fun q9 => absurd q9 (by decide +kernel), by omega, i_75, by omega, i_57, fun _ => rfl, fun q9 => absurd q9 (by decide +kernel), lxs_S hLB (i_53 (by omega)) hK59 (by first | exact fun q9 => absurd q9 (by decide +kernel) | exact fun _ => by omega) (by first | decide | omega) i_83 (fun _ _ => rfl) kp_rf⟩
            ·
              have hJ9 := va_join (wr := [(b_rf, (arI G 7 v_rf)), (b_ro, (arI G 5740 v_ro))]) hP hD [9, 10, 2, 3, 4, 5, 6, 7, 8] [0, 1] rfl rfl (by decide +kernel) (by decide +kernel) hk1 hFc hP1 hD1
              clear hP hD hPc hDc hFc ht hvm hz1 hk1 hP1 hD1
              obtain ⟨hP, hD⟩ := hJ9
              refine g5_rs [(b_rf, (arI G 7 v_rf)), (b_ro, (arI G 5740 v_ro)), (b_o, (oc12 0 u_sa b_rf b_ro b_im b_ke u_fd b_tp u_td z101 z102 z103 z104 z105 z106 z107 b_nl z108 b_op b_ar z109 b_pi b_pa z110 z111 b_ws b_hw u_la b_se b_re u_bk u_va u_su u_ce u_ho u_wy u_bt u_ps b_pt u_tg u_sn b_ip u_ic b_ah b_be b_me u_wd b_tr b_ld u_st b_wn u_id)), (b_tp, (arI G 400 v_tp)), (b_nl, (arI G 96 z112)), (b_op, (arI G 400 z113)), (b_ar, (arI G 400 z114)), (b_pi, (arI G 400 z115)), (b_pa, (arI G 400 z116)), (b_ws, (arJ G 8 v_ws)), (b_hw, (arJ G 4 v_hw))] hP hD ?_
              clear hP hD
              intro hP hD
              refine lv_goto (tgt := 51) hx hb dX12_law_75 (by decide +kernel) ?_
              exact ih_51_61 (z101, z102, z103, z104, z105, z106, z107, z108, z109, z110, z111, z112, z113, z114, z115, z116) ls H locs (show Int.toNat (400 - z101.toInt) < Int.toNat (400 - k51_fr.toInt) from g_up (show k51_fr.toInt < z101.toInt by omega) (show k51_fr.toInt < 400 by omega)) ⟨lv_sub hl [0] rfl, hP, hD, hS, i_84, i_85, i_86, i_87, i_88, i_89, i_93, by omega, i_91, by omega, i_97, i_95, fun q9 => by rw [i_96 q9]; exact i_59 (by omega), lxs_S hLB (i_53 (by omega)) hK59 (by first | exact fun q9 => absurd q9 (by decide +kernel) | exact fun _ => by omega) (by first | decide | omega) i_94 i_100 i_99⟩
        ·
          have hJ9 := va_join (wr := [(b_rf, (arI G 7 v_rf)), (b_ro, (arI G 5740 v_ro)), (b_tp, (arI G 400 v_tp)), (b_nl, (arI G 96 k51_nl)), (b_op, (arI G 400 k51_op)), (b_ar, (arI G 400 k51_ar)), (b_pi, (arI G 400 k51_pi)), (b_pa, (arI G 400 k51_pa)), (b_ws, (arJ G 8 v_ws)), (b_hw, (arJ G 4 v_hw))]) hP hD [2] [0, 1, 3, 4, 5, 6, 7, 8, 9, 10] rfl rfl (by decide +kernel) (by decide +kernel) hk1 hFc hP1 hD1
          clear hP hD hPc hDc hFc ht hvm hz1 hk1 hP1 hD1
          obtain ⟨hP, hD⟩ := hJ9
          refine g5_rs [(b_rf, (arI G 7 v_rf)), (b_ro, (arI G 5740 v_ro)), (b_tp, (arI G 400 v_tp)), (b_nl, (arI G 96 k51_nl)), (b_op, (arI G 400 k51_op)), (b_ar, (arI G 400 k51_ar)), (b_pi, (arI G 400 k51_pi)), (b_pa, (arI G 400 k51_pa)), (b_ws, (arJ G 8 v_ws)), (b_hw, (arJ G 4 v_hw)), (b_o, (oc12 0 u_sa b_rf b_ro b_im b_ke u_fd b_tp u_td k51_fr k51_to k51_so k51_wo k51_fa k51_bd k51_nc b_nl k51_co b_op b_ar k51_le b_pi b_pa k51_pd k51_od b_ws b_hw u_la b_se b_re u_bk u_va u_su u_ce u_ho u_wy u_bt u_ps b_pt u_tg u_sn b_ip u_ic b_ah b_be b_me u_wd b_tr b_ld u_st b_wn u_id))] hP hD ?_
          clear hP hD
          intro hP hD
          refine lv_if_eq (tgt := 78) hx hb dX12_law_64 (by decide +kernel) (fun c_117 => ?_) (fun c_117 => ?_)
          ·
            refine lv_aload_n hx hb dX12_law_78 rfl (lv_at hl 0 rfl) ?_
            refine va_get (D := G.1) (ci := 12) (v := .int k51_bd) (C := RX12) (T := TX12) (N := 52) hx hb hts inG_X12 hown hK hP 10 rfl rfl 14 (by decide +kernel) (hts _ fl_X12_205) (fun _ h9 => h9) rfl dX12_law_79 ?_
            refine lv_if_ne (tgt := 97) hx hb dX12_law_82 (by decide +kernel) (fun c_118 => ?_) (fun c_118 => ?_)
            ·
              have i_118 : k51_bd.toInt ≠ 0 := g5_ne (a := k51_bd.toInt) (b := 0) rfl (by decide +kernel) c_118
              omega
            ·
              have i_118 : k51_bd.toInt = 0 := g5_neN (a := k51_bd.toInt) (b := 0) rfl (by decide +kernel) c_118
              refine lv_aload_n hx hb dX12_law_85 rfl (lv_at hl 0 rfl) ?_
              refine va_get (D := G.1) (ci := 12) (v := .int k51_so) (C := RX12) (T := TX12) (N := 52) hx hb hts inG_X12 hown hK hP 10 rfl rfl 11 (by decide +kernel) (hts _ fl_X12_224) (fun _ h9 => h9) rfl dX12_law_86 ?_
              refine lv_if_eq (tgt := 97) hx hb dX12_law_89 (by decide +kernel) (fun c_119 => ?_) (fun c_119 => ?_)
              ·
                have i_119 : k51_so.toInt = 0 := g5_eq (a := k51_so.toInt) (b := 0) rfl (by decide +kernel) c_119
                refine lv_aload_n hx hb dX12_law_97 rfl (lv_at hl 0 rfl) ?_
                refine lv_iconst (v := 0) hx hb dX12_law_98 (by decide +kernel) ?_
                refine va_put (D := G.1) (ci := 12) (v := .int 0) (ty := .int) (C := RX12) (T := TX12) (N := 52) hx hb hts inG_X12 tyX12 tyX12_ok nmX12 hown hK hP hD hS 10 rfl rfl 8 (by decide +kernel) (hts _ fl_X12_192) (fun _ h9 => h9) rfl (by decide +kernel) rfl rfl (Nat.le_of_ble_eq_true rfl) dX12_law_99 ?_
                clear hP hD hS
                intro H locs hP hD hS
                refine g5_rs [(b_rf, (arI G 7 v_rf)), (b_ro, (arI G 5740 v_ro)), (b_tp, (arI G 400 v_tp)), (b_nl, (arI G 96 k51_nl)), (b_op, (arI G 400 k51_op)), (b_ar, (arI G 400 k51_ar)), (b_pi, (arI G 400 k51_pi)), (b_pa, (arI G 400 k51_pa)), (b_ws, (arJ G 8 v_ws)), (b_hw, (arJ G 4 v_hw)), (b_o, (oc12 0 u_sa b_rf b_ro b_im b_ke u_fd b_tp 0 k51_fr k51_to k51_so k51_wo k51_fa k51_bd k51_nc b_nl k51_co b_op b_ar k51_le b_pi b_pa k51_pd k51_od b_ws b_hw u_la b_se b_re u_bk u_va u_su u_ce u_ho u_wy u_bt u_ps b_pt u_tg u_sn b_ip u_ic b_ah b_be b_me u_wd b_tr b_ld u_st b_wn u_id))] hP hD ?_
                clear hP hD
                intro hP hD
                refine lv_aload_n hx hb dX12_law_102 rfl (lv_at hl 0 rfl) ?_
                refine W.eq (g2 := F0 m 103 ls [.ref b_o]) rfl ?_
                refine va_get (D := G.1) (ci := 12) (v := .int k51_bd) (C := RX12) (T := TX12) (N := 52) hx hb hts inG_X12 hown hK hP 10 rfl rfl 14 (by decide +kernel) (hts _ fl_X12_205) (fun _ h9 => h9) rfl dX12_law_103 ?_
                refine lv_if_eq (tgt := 116) hx hb dX12_law_106 (by decide +kernel) (fun c_120 => ?_) (fun c_120 => ?_)
                ·
                  have i_120 : k51_bd.toInt = 0 := g5_eq (a := k51_bd.toInt) (b := 0) rfl (by decide +kernel) c_120
                  obtain ⟨kk, hLB, hTk, hk1, hk2⟩ := lxs_k i_60 (by omega)
                  obtain ⟨LL, hL1, hL2, hL3⟩ := lxs_end hLB ((tk_end e_tp hTk).mpr (by omega))
                  have hFA := i_59 (by omega)
                  refine lv_sipush (v := 340) hx hb dX12_law_116 (by decide +kernel) ?_
                  refine lv_sipush (v := 900) hx hb dX12_law_119 (by decide +kernel) ?_
                  refine lv_aload_n hx hb dX12_law_122 rfl (lv_at hl 0 rfl) ?_
                  refine va_get (D := G.1) (ci := 12) (v := .ref b_ro) (C := RX12) (T := TX12) (N := 52) hx hb hts inG_X12 hown hK hP 10 rfl rfl 3 (by decide +kernel) (hts _ fl_X12_13) (fun _ h9 => h9) rfl dX12_law_123 ?_
                  refine W.eq (g2 := F0 m 126 ls [.ref b_ro, .int 900, .int 340]) rfl ?_
                  refine lv_iconst (v := 2) hx hb dX12_law_126 (by decide +kernel) ?_
                  refine va_iald hx hb hK hP 1 0 rfl rfl (i := 2) (by unfold vp_in; decide) dX12_law_127 ?_
                  refine g5_ti (v := (v_ro 2)) rfl ?_
                  have hr_121 : 0 ≤ (v_ro 2).toInt ∧ (v_ro 2).toInt ≤ 6 := mi_2 r_ro
                  refine lv_imul hx hb dX12_law_128 ?_
                  have t_122 : (900 * (v_ro 2)).toInt = 900 * (v_ro 2).toInt := g5_imul (a := 900) (b := (v_ro 2).toInt) (by decide +kernel) (by rfl) (by omega) (by omega)
                  refine lv_iadd hx hb dX12_law_129 ?_
                  have t_123 : (340 + (900 * (v_ro 2))).toInt = 340 + (900 * (v_ro 2)).toInt := g5_iadd (a := 340) (b := (900 * (v_ro 2)).toInt) (by decide +kernel) (by rfl) (by omega) (by omega)
                  refine lv_istore_n (lv' := [(1, .int (340 + (900 * (v_ro 2)))), (0, .ref b_o)]) hx hb dX12_law_130 rfl hl (by decide +kernel) rfl ?_
                  clear hl
                  intro ls hl
                  refine W.eq (g2 := F0 m 131 ls []) rfl ?_
                  refine lv_aload_n hx hb dX12_law_131 rfl (lv_at hl 1 rfl) ?_
                  refine va_get (D := G.1) (ci := 12) (v := .ref b_ro) (C := RX12) (T := TX12) (N := 52) hx hb hts inG_X12 hown hK hP 10 rfl rfl 3 (by decide +kernel) (hts _ fl_X12_13) (fun _ h9 => h9) rfl dX12_law_132 ?_
                  refine lv_iload_n hx hb dX12_law_135 rfl (lv_at hl 0 rfl) ?_
                  refine lv_iconst (v := 1) hx hb dX12_law_136 (by decide +kernel) ?_
                  refine lv_iadd hx hb dX12_law_137 ?_
                  have t_124 : ((340 + (900 * (v_ro 2))) + 1).toInt = (340 + (900 * (v_ro 2))).toInt + 1 := g5_iadd (a := (340 + (900 * (v_ro 2))).toInt) (b := 1) (by rfl) (by decide +kernel) (by omega) (by omega)
                  refine W.eq (g2 := F0 m 138 ls [.int ((340 + (900 * (v_ro 2))) + 1), .ref b_ro]) rfl ?_
                  refine lv_aload_n hx hb dX12_law_138 rfl (lv_at hl 1 rfl) ?_
                  refine va_get (D := G.1) (ci := 12) (v := .int k51_nc) (C := RX12) (T := TX12) (N := 52) hx hb hts inG_X12 hown hK hP 10 rfl rfl 15 (by decide +kernel) (hts _ fl_X12_312) (fun _ h9 => h9) rfl dX12_law_139 ?_
                  refine va_iast hx hb hK hP hD hS 1 0 rfl rfl (i := ((340 + (900 * (v_ro 2))) + 1)) (x := k51_nc) (vp_in_iff.mpr ⟨by omega, by omega⟩) dX12_law_142 ?_
                  clear hP hD hS
                  intro H locs hP hD hS
                  refine g5_rs [(b_rf, (arI G 7 v_rf)), (b_ro, (arI G 5740 (upd v_ro ((340 + (900 * (v_ro 2))) + 1).toNatClampNeg k51_nc))), (b_tp, (arI G 400 v_tp)), (b_nl, (arI G 96 k51_nl)), (b_op, (arI G 400 k51_op)), (b_ar, (arI G 400 k51_ar)), (b_pi, (arI G 400 k51_pi)), (b_pa, (arI G 400 k51_pa)), (b_ws, (arJ G 8 v_ws)), (b_hw, (arJ G 4 v_hw)), (b_o, (oc12 0 u_sa b_rf b_ro b_im b_ke u_fd b_tp 0 k51_fr k51_to k51_so k51_wo k51_fa k51_bd k51_nc b_nl k51_co b_op b_ar k51_le b_pi b_pa k51_pd k51_od b_ws b_hw u_la b_se b_re u_bk u_va u_su u_ce u_ho u_wy u_bt u_ps b_pt u_tg u_sn b_ip u_ic b_ah b_be b_me u_wd b_tr b_ld u_st b_wn u_id))] hP hD ?_
                  clear hP hD
                  intro hP hD
                  refine lv_iconst (v := 0) hx hb dX12_law_143 (by decide +kernel) ?_
                  refine lv_istore_n (lv' := [(2, .int 0), (1, .int (340 + (900 * (v_ro 2)))), (0, .ref b_o)]) hx hb dX12_law_144 rfl hl (by decide +kernel) rfl ?_
                  clear hl
                  intro ls hl
                  refine g5_loop (α := (Int32) × (Nat → Int32)) (fun (q : (Int32) × (Nat → Int32)) (ls : Array Slot) (H : Heap) (locs : List Loc) => match q with | (k145_2, k145_ro) => lv_has ls 3 [(2, .int k145_2), (1, .int (340 + (900 * (v_ro 2)))), (0, .ref b_o)] ∧ va_P G.1 vwCl [(b_rf, (arI G 7 v_rf)), (b_ro, (arI G 5740 k145_ro)), (b_tp, (arI G 400 v_tp)), (b_nl, (arI G 96 k51_nl)), (b_op, (arI G 400 k51_op)), (b_ar, (arI G 400 k51_ar)), (b_pi, (arI G 400 k51_pi)), (b_pa, (arI G 400 k51_pa)), (b_ws, (arJ G 8 v_ws)), (b_hw, (arJ G 4 v_hw)), (b_o, (oc12 0 u_sa b_rf b_ro b_im b_ke u_fd b_tp 0 k51_fr k51_to k51_so k51_wo k51_fa k51_bd k51_nc b_nl k51_co b_op b_ar k51_le b_pi b_pa k51_pd k51_od b_ws b_hw u_la b_se b_re u_bk u_va u_su u_ce u_ho u_wy u_bt u_ps b_pt u_tg u_sn b_ip u_ic b_ah b_be b_me u_wd b_tr b_ld u_st b_wn u_id))] H ∧ va_D A [(b_rf, (arI G 7 v_rf)), (b_ro, (arI G 5740 k145_ro)), (b_tp, (arI G 400 v_tp)), (b_nl, (arI G 96 k51_nl)), (b_op, (arI G 400 k51_op)), (b_ar, (arI G 400 k51_ar)), (b_pi, (arI G 400 k51_pi)), (b_pa, (arI G 400 k51_pa)), (b_ws, (arJ G 8 v_ws)), (b_hw, (arJ G 4 v_hw)), (b_o, (oc12 0 u_sa b_rf b_ro b_im b_ke u_fd b_tp 0 k51_fr k51_to k51_so k51_wo k51_fa k51_bd k51_nc b_nl k51_co b_op b_ar k51_le b_pi b_pa k51_pd k51_od b_ws b_hw u_la b_se b_re u_bk u_va u_su u_ce u_ho u_wy u_bt u_ps b_pt u_tg u_sn b_ip u_ic b_ah b_be b_me u_wd b_tr b_ld u_st b_wn u_id))] ∧ va_S A s.heap H locs ∧ (0 ≤ k145_2.toInt ∧ k145_2.toInt ≤ 96) ∧ (k145_2.toInt ≤ 8 * k51_nc.toInt) ∧ (∀ j : Nat, (j : Int) < k145_2.toInt → k145_ro ((340 + (900 * (v_ro 2))).toNatClampNeg + 2 + j) = k51_nl j) ∧ (∀ j : Nat, (j < (340 + (900 * (v_ro 2))).toNatClampNeg + 2 ∨ (340 + (900 * (v_ro 2))).toNatClampNeg + 98 ≤ j) → k145_ro j = (upd v_ro ((340 + (900 * (v_ro 2))) + 1).toNatClampNeg k51_nc) j)) (fun (q : (Int32) × (Nat → Int32)) => match q with | (k145_2, k145_ro) => Int.toNat (96 - k145_2.toInt)) (0, (upd v_ro ((340 + (900 * (v_ro 2))) + 1).toNatClampNeg k51_nc)) ⟨lv_sub hl [0, 1, 2] rfl, hP, hD, hS, ⟨by decide, by decide⟩, by have z : (0 : Int32).toInt = 0 := (by decide +kernel); omega, fun j h9 => absurd h9 (by have z : (0 : Int32).toInt = 0 := (by decide +kernel); omega), fun _ _ => rfl⟩ ?_
                  rintro ⟨k145_2, k145_ro⟩ ls H locs ⟨hl, hP, hD, hS, (i_125 : 0 ≤ k145_2.toInt ∧ k145_2.toInt ≤ 96), (i_126 : k145_2.toInt ≤ 8 * k51_nc.toInt), (i_127 : ∀ j : Nat, (j : Int) < k145_2.toInt → k145_ro ((340 + (900 * (v_ro 2))).toNatClampNeg + 2 + j) = k51_nl j), (i_128 : ∀ j : Nat, (j < (340 + (900 * (v_ro 2))).toNatClampNeg + 2 ∨ (340 + (900 * (v_ro 2))).toNatClampNeg + 98 ≤ j) → k145_ro j = (upd v_ro ((340 + (900 * (v_ro 2))) + 1).toNatClampNeg k51_nc) j)⟩ ih_145_129
                  replace hl : lv_has ls 3 [(2, .int k145_2), (1, .int (340 + (900 * (v_ro 2)))), (0, .ref b_o)] := hl
                  refine g5_rs [(b_rf, (arI G 7 v_rf)), (b_ro, (arI G 5740 k145_ro)), (b_tp, (arI G 400 v_tp)), (b_nl, (arI G 96 k51_nl)), (b_op, (arI G 400 k51_op)), (b_ar, (arI G 400 k51_ar)), (b_pi, (arI G 400 k51_pi)), (b_pa, (arI G 400 k51_pa)), (b_ws, (arJ G 8 v_ws)), (b_hw, (arJ G 4 v_hw)), (b_o, (oc12 0 u_sa b_rf b_ro b_im b_ke u_fd b_tp 0 k51_fr k51_to k51_so k51_wo k51_fa k51_bd k51_nc b_nl k51_co b_op b_ar k51_le b_pi b_pa k51_pd k51_od b_ws b_hw u_la b_se b_re u_bk u_va u_su u_ce u_ho u_wy u_bt u_ps b_pt u_tg u_sn b_ip u_ic b_ah b_be b_me u_wd b_tr b_ld u_st b_wn u_id))] hP hD ?_
                  clear hP hD
                  intro hP hD
                  refine lv_iload_n hx hb dX12_law_145 rfl (lv_at hl 0 rfl) ?_
                  refine lv_bipush (v := 8) hx hb dX12_law_146 (by decide +kernel) ?_
                  refine lv_aload_n hx hb dX12_law_148 rfl (lv_at hl 2 rfl) ?_
                  refine va_get (D := G.1) (ci := 12) (v := .int k51_nc) (C := RX12) (T := TX12) (N := 52) hx hb hts inG_X12 hown hK hP 10 rfl rfl 15 (by decide +kernel) (hts _ fl_X12_312) (fun _ h9 => h9) rfl dX12_law_149 ?_
                  refine W.eq (g2 := F0 m 152 ls [.int k51_nc, .int 8, .int k145_2]) rfl ?_
                  refine lv_imul hx hb dX12_law_152 ?_
                  have t_130 : (8 * k51_nc).toInt = 8 * k51_nc.toInt := g5_imul (a := 8) (b := k51_nc.toInt) (by decide +kernel) (by rfl) (by omega) (by omega)
                  refine lv_icmp_ge (tgt := 178) hx hb dX12_law_153 (by decide +kernel) (fun c_131 => ?_) (fun c_131 => ?_)
                  ·
                    have i_131 : k145_2.toInt ≥ (8 * k51_nc.toInt) := by have z := g5_ge (a := k145_2.toInt) (b := (8 * k51_nc).toInt) (by rfl) (by rfl) c_131; omega
                    refine lv_iconst (v := 0) hx hb dX12_law_178 (by decide +kernel) ?_
                    refine lv_istore_n (lv' := [(2, .int 0), (1, .int (340 + (900 * (v_ro 2)))), (0, .ref b_o)]) hx hb dX12_law_179 rfl hl (by decide +kernel) rfl ?_
                    clear hl
                    intro ls hl
                    refine g5_loop (α := (Int32) × (Nat → Int32)) (fun (q : (Int32) × (Nat → Int32)) (ls : Array Slot) (H : Heap) (locs : List Loc) => match q with | (k180_2, k180_ro) => lv_has ls 3 [(2, .int k180_2), (1, .int (340 + (900 * (v_ro 2)))), (0, .ref b_o)] ∧ va_P G.1 vwCl [(b_rf, (arI G 7 v_rf)), (b_ro, (arI G 5740 k180_ro)), (b_tp, (arI G 400 v_tp)), (b_nl, (arI G 96 k51_nl)), (b_op, (arI G 400 k51_op)), (b_ar, (arI G 400 k51_ar)), (b_pi, (arI G 400 k51_pi)), (b_pa, (arI G 400 k51_pa)), (b_ws, (arJ G 8 v_ws)), (b_hw, (arJ G 4 v_hw)), (b_o, (oc12 0 u_sa b_rf b_ro b_im b_ke u_fd b_tp 0 k51_fr k51_to k51_so k51_wo k51_fa k51_bd k51_nc b_nl k51_co b_op b_ar k51_le b_pi b_pa k51_pd k51_od b_ws b_hw u_la b_se b_re u_bk u_va u_su u_ce u_ho u_wy u_bt u_ps b_pt u_tg u_sn b_ip u_ic b_ah b_be b_me u_wd b_tr b_ld u_st b_wn u_id))] H ∧ va_D A [(b_rf, (arI G 7 v_rf)), (b_ro, (arI G 5740 k180_ro)), (b_tp, (arI G 400 v_tp)), (b_nl, (arI G 96 k51_nl)), (b_op, (arI G 400 k51_op)), (b_ar, (arI G 400 k51_ar)), (b_pi, (arI G 400 k51_pi)), (b_pa, (arI G 400 k51_pa)), (b_ws, (arJ G 8 v_ws)), (b_hw, (arJ G 4 v_hw)), (b_o, (oc12 0 u_sa b_rf b_ro b_im b_ke u_fd b_tp 0 k51_fr k51_to k51_so k51_wo k51_fa k51_bd k51_nc b_nl k51_co b_op b_ar k51_le b_pi b_pa k51_pd k51_od b_ws b_hw u_la b_se b_re u_bk u_va u_su u_ce u_ho u_wy u_bt u_ps b_pt u_tg u_sn b_ip u_ic b_ah b_be b_me u_wd b_tr b_ld u_st b_wn u_id))] ∧ va_S A s.heap H locs ∧ (0 ≤ k180_2.toInt ∧ k180_2.toInt ≤ 400) ∧ (k180_2.toInt ≤ k51_co.toInt) ∧ (∀ j : Nat, (j : Int) < k180_2.toInt → k180_ro ((340 + (900 * (v_ro 2))).toNatClampNeg + 98 + 2 * j) = k51_op j ∧ k180_ro ((340 + (900 * (v_ro 2))).toNatClampNeg + 98 + 2 * j + 1) = k51_ar j) ∧ (∀ j : Nat, (j < (340 + (900 * (v_ro 2))).toNatClampNeg + 98 ∨ (340 + (900 * (v_ro 2))).toNatClampNeg + 900 ≤ j) → k180_ro j = k145_ro j)) (fun (q : (Int32) × (Nat → Int32)) => match q with | (k180_2, k180_ro) => Int.toNat (400 - k180_2.toInt)) (0, k145_ro) ⟨lv_sub hl [0, 1, 2] rfl, hP, hD, hS, ⟨by decide, by decide⟩, by have z : (0 : Int32).toInt = 0 := (by decide +kernel); omega, fun j h9 => absurd h9 (by have z : (0 : Int32).toInt = 0 := (by decide +kernel); omega), fun _ _ => rfl⟩ ?_
                    rintro ⟨k180_2, k180_ro⟩ ls H locs ⟨hl, hP, hD, hS, (i_132 : 0 ≤ k180_2.toInt ∧ k180_2.toInt ≤ 400), (i_133 : k180_2.toInt ≤ k51_co.toInt), (i_134 : ∀ j : Nat, (j : Int) < k180_2.toInt → k180_ro ((340 + (900 * (v_ro 2))).toNatClampNeg + 98 + 2 * j) = k51_op j ∧ k180_ro ((340 + (900 * (v_ro 2))).toNatClampNeg + 98 + 2 * j + 1) = k51_ar j), (i_135 : ∀ j : Nat, (j < (340 + (900 * (v_ro 2))).toNatClampNeg + 98 ∨ (340 + (900 * (v_ro 2))).toNatClampNeg + 900 ≤ j) → k180_ro j = k145_ro j)⟩ ih_180_136
                    replace hl : lv_has ls 3 [(2, .int k180_2), (1, .int (340 + (900 * (v_ro 2)))), (0, .ref b_o)] := hl
                    refine g5_rs [(b_rf, (arI G 7 v_rf)), (b_ro, (arI G 5740 k180_ro)), (b_tp, (arI G 400 v_tp)), (b_nl, (arI G 96 k51_nl)), (b_op, (arI G 400 k51_op)), (b_ar, (arI G 400 k51_ar)), (b_pi, (arI G 400 k51_pi)), (b_pa, (arI G 400 k51_pa)), (b_ws, (arJ G 8 v_ws)), (b_hw, (arJ G 4 v_hw)), (b_o, (oc12 0 u_sa b_rf b_ro b_im b_ke u_fd b_tp 0 k51_fr k51_to k51_so k51_wo k51_fa k51_bd k51_nc b_nl k51_co b_op b_ar k51_le b_pi b_pa k51_pd k51_od b_ws b_hw u_la b_se b_re u_bk u_va u_su u_ce u_ho u_wy u_bt u_ps b_pt u_tg u_sn b_ip u_ic b_ah b_be b_me u_wd b_tr b_ld u_st b_wn u_id))] hP hD ?_
                    clear hP hD
                    intro hP hD
                    refine lv_iload_n hx hb dX12_law_180 rfl (lv_at hl 0 rfl) ?_
                    refine lv_aload_n hx hb dX12_law_181 rfl (lv_at hl 2 rfl) ?_
                    refine va_get (D := G.1) (ci := 12) (v := .int k51_co) (C := RX12) (T := TX12) (N := 52) hx hb hts inG_X12 hown hK hP 10 rfl rfl 17 (by decide +kernel) (hts _ fl_X12_237) (fun _ h9 => h9) rfl dX12_law_182 ?_
                    refine lv_icmp_ge (tgt := 234) hx hb dX12_law_185 (by decide +kernel) (fun c_137 => ?_) (fun c_137 => ?_)
                    ·
                      have i_137 : k180_2.toInt ≥ k51_co.toInt := g5_ge (a := k180_2.toInt) (b := k51_co.toInt) rfl rfl c_137
                      refine lv_aload_n hx hb dX12_law_234 rfl (lv_at hl 2 rfl) ?_
                      refine va_get (D := G.1) (ci := 12) (v := .ref b_ro) (C := RX12) (T := TX12) (N := 52) hx hb hts inG_X12 hown hK hP 10 rfl rfl 3 (by decide +kernel) (hts _ fl_X12_13) (fun _ h9 => h9) rfl dX12_law_235 ?_
                      refine lv_iconst (v := 2) hx hb dX12_law_238 (by decide +kernel) ?_
                      refine lv_dup2_11 hx hb dX12_law_239 rfl rfl ?_
                      refine W.eq (g2 := F0 m 240 ls [.int 2, .ref b_ro, .int 2, .ref b_ro]) rfl ?_
                      refine va_iald hx hb hK hP 1 0 rfl rfl (i := 2) (by unfold vp_in; decide) dX12_law_240 ?_
                      refine g5_ti (v := (k180_ro 2)) rfl ?_
                      have h29_138 : (k180_ro 2) = (v_ro 2) := by rw [i_135 2 (by have zz := g5_clamp (340 + (900 * (v_ro 2))); omega), i_128 2 (by have zz := g5_clamp (340 + (900 * (v_ro 2))); omega), upd_ne (by have zz := g5_clamp ((340 + (900 * (v_ro 2))) + 1); omega)]
                      refine g5_ti (v := (v_ro 2)) h29_138 ?_
                      refine lv_iconst (v := 1) hx hb dX12_law_241 (by decide +kernel) ?_
                      refine lv_iadd hx hb dX12_law_242 ?_
                      have t_139 : ((v_ro 2) + 1).toInt = (v_ro 2).toInt + 1 := g5_iadd (a := (v_ro 2).toInt) (b := 1) (by rfl) (by decide +kernel) (by omega) (by omega)
                      refine va_iast hx hb hK hP hD hS 1 0 rfl rfl (i := 2) (x := ((v_ro 2) + 1)) (by unfold vp_in; decide) dX12_law_243 ?_
                      clear hP hD hS
                      intro H locs hP hD hS
                      refine g5_rs [(b_rf, (arI G 7 v_rf)), (b_ro, (arI G 5740 (upd k180_ro 2 ((v_ro 2) + 1)))), (b_tp, (arI G 400 v_tp)), (b_nl, (arI G 96 k51_nl)), (b_op, (arI G 400 k51_op)), (b_ar, (arI G 400 k51_ar)), (b_pi, (arI G 400 k51_pi)), (b_pa, (arI G 400 k51_pa)), (b_ws, (arJ G 8 v_ws)), (b_hw, (arJ G 4 v_hw)), (b_o, (oc12 0 u_sa b_rf b_ro b_im b_ke u_fd b_tp 0 k51_fr k51_to k51_so k51_wo k51_fa k51_bd k51_nc b_nl k51_co b_op b_ar k51_le b_pi b_pa k51_pd k51_od b_ws b_hw u_la b_se b_re u_bk u_va u_su u_ce u_ho u_wy u_bt u_ps b_pt u_tg u_sn b_ip u_ic b_ah b_be b_me u_wd b_tr b_ld u_st b_wn u_id))] hP hD ?_
                      clear hP hD
                      intro hP hD
                      refine lv_aload_n hx hb dX12_law_244 rfl (lv_at hl 2 rfl) ?_
                      refine W.eq (g2 := F0 m 245 ls [.ref b_o]) rfl ?_
                      refine lv_aload_n hx hb dX12_law_245 rfl (lv_at hl 2 rfl) ?_
                      refine va_get (D := G.1) (ci := 12) (v := .ref b_ro) (C := RX12) (T := TX12) (N := 52) hx hb hts inG_X12 hown hK hP 10 rfl rfl 3 (by decide +kernel) (hts _ fl_X12_13) (fun _ h9 => h9) rfl dX12_law_246 ?_
                      refine lv_iconst (v := 2) hx hb dX12_law_249 (by decide +kernel) ?_
                      refine va_iald hx hb hK hP 1 0 rfl rfl (i := 2) (by unfold vp_in; decide) dX12_law_250 ?_
                      refine g5_ti (v := ((v_ro 2) + 1)) rfl ?_
                      refine lv_iconst (v := 1) hx hb dX12_law_251 (by decide +kernel) ?_
                      refine W.eq (g2 := F0 m 252 ls [.int 1, .int ((v_ro 2) + 1), .ref b_o]) rfl ?_
                      refine lv_isub hx hb dX12_law_252 ?_
                      have t_140 : (((v_ro 2) + 1) - 1).toInt = ((v_ro 2) + 1).toInt - 1 := g5_isub (a := ((v_ro 2) + 1).toInt) (b := 1) (by rfl) (by decide +kernel) (by omega) (by omega)
                      obtain ⟨hPc, hDc, hFc⟩ := g5_sub3 (wc := [(b_o, (oc12 0 u_sa b_rf b_ro b_im b_ke u_fd b_tp 0 k51_fr k51_to k51_so k51_wo k51_fa k51_bd k51_nc b_nl k51_co b_op b_ar k51_le b_pi b_pa k51_pd k51_od b_ws b_hw u_la b_se b_re u_bk u_va u_su u_ce u_ho u_wy u_bt u_ps b_pt u_tg u_sn b_ip u_ic b_ah b_be b_me u_wd b_tr b_ld u_st b_wn u_id)), (b_rf, (arI G 7 v_rf))]) hP hD hS hA [10, 0] (by decide +kernel) rfl
                      refine va_calli (va_runV (As := [.int (((v_ro 2) + 1) - 1)]) (rest := []) ⟨hx, hb, hml, hown, hts⟩ (n_tell l G b_o b_rf b_ro b_im b_ke b_tp b_nl b_op b_ar b_pi b_pa b_ws b_hw b_se b_re b_pt b_ip b_ah b_be b_me b_tr b_ld b_wn H.size 0 u_sa u_fd 0 k51_fr k51_to k51_so k51_fa k51_bd k51_nc k51_co k51_le k51_pd k51_od u_la u_bk u_ce u_ho u_wy u_bt u_ps u_tg u_sn u_ic u_wd u_id (((v_ro 2) + 1) - 1) k51_wo u_va u_su u_st v_rf ⟨by decide, by decide⟩ i_47 i_48 i_49 i_50 i_51 i_52 h_u_la h_u_bk h_u_ce h_u_ho h_u_wy h_u_bt h_u_ps h_u_ic h_u_id ⟨by omega, by omega⟩) (cwV 1 hts gV_X12_125 rfl rfl rfl hv_X12_tell ⟨Nat.le_of_ble_eq_true rfl, Nat.le_of_ble_eq_true rfl⟩) (g5_preV hPc hK hDc hN hT hS hFc (ci := 12) (q0 := 0) rfl rfl) rfl rfl hl.1 rfl (lv_room (Nat.le_of_ble_eq_true rfl)) dX12_law_253 ⟨Nat.le_of_ble_eq_true rfl, Nat.le_of_ble_eq_true rfl⟩) hS (fun q _ h => hFc q h) hFc (fun r u t H locs ht hvm hw hB hz1 hk1 hS => ?_)
                      obtain ⟨hP1, hD1⟩ := hB
                      have hP1 := g5_ht ht hP1
                      obtain ⟨z142, z143, z144, (i_141 : 0 ≤ z143.toInt ∧ z143.toInt ≤ 1), rfl, rfl⟩ := hw
                      have hJ9 := va_join (wr := [(b_ro, (arI G 5740 (upd k180_ro 2 ((v_ro 2) + 1)))), (b_tp, (arI G 400 v_tp)), (b_nl, (arI G 96 k51_nl)), (b_op, (arI G 400 k51_op)), (b_ar, (arI G 400 k51_ar)), (b_pi, (arI G 400 k51_pi)), (b_pa, (arI G 400 k51_pa)), (b_ws, (arJ G 8 v_ws)), (b_hw, (arJ G 4 v_hw))]) hP hD [10, 0] [1, 2, 3, 4, 5, 6, 7, 8, 9] rfl rfl (by decide +kernel) (by decide +kernel) hk1 hFc hP1 hD1
                      clear hP hD hPc hDc hFc ht hvm hz1 hk1 hP1 hD1
                      obtain ⟨hP, hD⟩ := hJ9
                      refine g5_rs [(b_ro, (arI G 5740 (upd k180_ro 2 ((v_ro 2) + 1)))), (b_tp, (arI G 400 v_tp)), (b_nl, (arI G 96 k51_nl)), (b_op, (arI G 400 k51_op)), (b_ar, (arI G 400 k51_ar)), (b_pi, (arI G 400 k51_pi)), (b_pa, (arI G 400 k51_pa)), (b_ws, (arJ G 8 v_ws)), (b_hw, (arJ G 4 v_hw)), (b_o, (oc12 0 z142 b_rf b_ro b_im b_ke u_fd b_tp 0 k51_fr k51_to k51_so k51_wo k51_fa k51_bd k51_nc b_nl k51_co b_op b_ar k51_le b_pi b_pa k51_pd k51_od b_ws b_hw u_la b_se b_re u_bk u_va u_su u_ce u_ho u_wy u_bt u_ps b_pt u_tg u_sn b_ip z143 b_ah b_be b_me u_wd b_tr b_ld u_st b_wn u_id)), (b_rf, (arI G 7 z144))] hP hD ?_
                      clear hP hD
                      intro hP hD
                      exact W.iret (v := (((v_ro 2) + 1) - 1)) hx hb hr (fun t ht hW => ⟨⟨(((v_ro 2) + 1) - 1), [(b_o, (oc12 0 z142 b_rf b_ro b_im b_ke u_fd b_tp 0 k51_fr k51_to k51_so k51_wo k51_fa k51_bd k51_nc b_nl k51_co b_op b_ar k51_le b_pi b_pa k51_pd k51_od b_ws b_hw u_la b_se b_re u_bk u_va u_su u_ce u_ho u_wy u_bt u_ps b_pt u_tg u_sn b_ip z143 b_ah b_be b_me u_wd b_tr b_ld u_st b_wn u_id)), (b_rf, (arI G 7 z144)), (b_ro, (arI G 5740 (upd k180_ro 2 ((v_ro 2) + 1)))), (b_tp, (arI G 400 v_tp)), (b_nl, (arI G 96 k51_nl)), (b_op, (arI G 400 k51_op)), (b_ar, (arI G 400 k51_ar)), (b_pi, (arI G 400 k51_pi)), (b_pa, (arI G 400 k51_pa)), (b_ws, (arJ G 8 v_ws)), (b_hw, (arJ G 4 v_hw))], rfl, ⟨(((v_ro 2) + 1) - 1), 0, z142, 0, k51_fr, k51_to, k51_so, k51_wo, k51_fa, k51_bd, k51_nc, k51_co, k51_le, k51_pd, k51_od, z143, z144, (upd k180_ro 2 ((v_ro 2) + 1)), k51_nl, k51_op, k51_ar, k51_pi, k51_pa, ⟨by have zc_o_td : (0 : Int32).toInt = 0 := (by decide +kernel); omega, by have zc_o_td : (0 : Int32).toInt = 0 := (by decide +kernel); omega⟩, i_47, i_48, i_49, i_50, i_51, i_52, i_141, mi_law r_ro (by omega) (by omega) (by omega) rfl ⟨by omega, by omega⟩ ⟨by omega, by omega⟩ i_127 i_128 (by omega) i_134 i_135 (by omega) (i_53 (by omega)) (by omega), by decide, fun j h1 h2 => by rw [upd_ne h2, i_135 j (by have zz := g5_clamp (340 + (900 * (v_ro 2))); omega), i_128 j (by have zz := g5_clamp (340 + (900 * (v_ro 2))); omega), upd_ne (by have zz := g5_clamp ((340 + (900 * (v_ro 2))) + 1); omega)], fun j h1 h2 => by rw [upd_ne (show j ≠ 2 by omega), i_135 j (by have zz := g5_clamp (340 + (900 * (v_ro 2))); omega), i_128 j (by have zz := g5_clamp (340 + (900 * (v_ro 2))); omega), upd_ne (by have zz := g5_clamp ((340 + (900 * (v_ro 2))) + 1); omega)], Or.inr (Or.inr ⟨by omega, LL, hL1, by omega, hFA, by rw [upd_eq]; exact g5_iadd rfl (by decide +kernel) (by omega) (by omega), mlaw_of (f1 := v_ro) hL2 hL3 (by omega) (by omega) (by omega) i_127 i_128 i_134 i_135 (by omega) (by omega) rfl (i_53 (by omega)) (by omega)⟩), rfl, rfl⟩, by rw [ht]; exact hP.sub [9, 10, 0, 1, 2, 3, 4, 5, 6, 7, 8] rfl, hD.sub [9, 10, 0, 1, 2, 3, 4, 5, 6, 7, 8] (by decide +kernel) rfl⟩, hS.F ht⟩) hS.2.2 dX12_law_256
                    ·
                      have i_137 : k180_2.toInt < k51_co.toInt := g5_geN (a := k180_2.toInt) (b := k51_co.toInt) rfl rfl c_137
                      refine lv_aload_n hx hb dX12_law_188 rfl (lv_at hl 2 rfl) ?_
                      refine va_get (D := G.1) (ci := 12) (v := .ref b_ro) (C := RX12) (T := TX12) (N := 52) hx hb hts inG_X12 hown hK hP 10 rfl rfl 3 (by decide +kernel) (hts _ fl_X12_13) (fun _ h9 => h9) rfl dX12_law_189 ?_
                      refine lv_iload_n hx hb dX12_law_192 rfl (lv_at hl 1 rfl) ?_
                      refine lv_bipush (v := 98) hx hb dX12_law_193 (by decide +kernel) ?_
                      refine W.eq (g2 := F0 m 195 ls [.int 98, .int (340 + (900 * (v_ro 2))), .ref b_ro]) rfl ?_
                      refine lv_iadd hx hb dX12_law_195 ?_
                      have t_145 : ((340 + (900 * (v_ro 2))) + 98).toInt = (340 + (900 * (v_ro 2))).toInt + 98 := g5_iadd (a := (340 + (900 * (v_ro 2))).toInt) (b := 98) (by rfl) (by decide +kernel) (by omega) (by omega)
                      refine lv_iconst (v := 2) hx hb dX12_law_196 (by decide +kernel) ?_
                      refine lv_iload_n hx hb dX12_law_197 rfl (lv_at hl 0 rfl) ?_
                      refine lv_imul hx hb dX12_law_198 ?_
                      have t_146 : (2 * k180_2).toInt = 2 * k180_2.toInt := g5_imul (a := 2) (b := k180_2.toInt) (by decide +kernel) (by rfl) (by omega) (by omega)
                      refine lv_iadd hx hb dX12_law_199 ?_
                      have t_147 : (((340 + (900 * (v_ro 2))) + 98) + (2 * k180_2)).toInt = ((340 + (900 * (v_ro 2))) + 98).toInt + (2 * k180_2).toInt := g5_iadd (a := ((340 + (900 * (v_ro 2))) + 98).toInt) (b := (2 * k180_2).toInt) (by rfl) (by rfl) (by omega) (by omega)
                      refine W.eq (g2 := F0 m 200 ls [.int (((340 + (900 * (v_ro 2))) + 98) + (2 * k180_2)), .ref b_ro]) rfl ?_
                      refine lv_aload_n hx hb dX12_law_200 rfl (lv_at hl 2 rfl) ?_
                      refine va_get (D := G.1) (ci := 12) (v := .ref b_op) (C := RX12) (T := TX12) (N := 52) hx hb hts inG_X12 hown hK hP 10 rfl rfl 18 (by decide +kernel) (hts _ fl_X12_33) (fun _ h9 => h9) rfl dX12_law_201 ?_
                      refine lv_iload_n hx hb dX12_law_204 rfl (lv_at hl 0 rfl) ?_
                      refine va_iald hx hb hK hP 4 0 rfl rfl (i := k180_2) (vp_in_iff.mpr ⟨by omega, by omega⟩) dX12_law_205 ?_
                      refine va_iast hx hb hK hP hD hS 1 0 rfl rfl (i := (((340 + (900 * (v_ro 2))) + 98) + (2 * k180_2))) (x := (k51_op k180_2.toNatClampNeg)) (vp_in_iff.mpr ⟨by omega, by omega⟩) dX12_law_206 ?_
                      clear hP hD hS
                      intro H locs hP hD hS
                      refine g5_rs [(b_rf, (arI G 7 v_rf)), (b_ro, (arI G 5740 (upd k180_ro (((340 + (900 * (v_ro 2))) + 98) + (2 * k180_2)).toNatClampNeg (k51_op k180_2.toNatClampNeg)))), (b_tp, (arI G 400 v_tp)), (b_nl, (arI G 96 k51_nl)), (b_op, (arI G 400 k51_op)), (b_ar, (arI G 400 k51_ar)), (b_pi, (arI G 400 k51_pi)), (b_pa, (arI G 400 k51_pa)), (b_ws, (arJ G 8 v_ws)), (b_hw, (arJ G 4 v_hw)), (b_o, (oc12 0 u_sa b_rf b_ro b_im b_ke u_fd b_tp 0 k51_fr k51_to k51_so k51_wo k51_fa k51_bd k51_nc b_nl k51_co b_op b_ar k51_le b_pi b_pa k51_pd k51_od b_ws b_hw u_la b_se b_re u_bk u_va u_su u_ce u_ho u_wy u_bt u_ps b_pt u_tg u_sn b_ip u_ic b_ah b_be b_me u_wd b_tr b_ld u_st b_wn u_id))] hP hD ?_
                      clear hP hD
                      intro hP hD
                      refine W.eq (g2 := F0 m 207 ls []) rfl ?_
                      refine lv_aload_n hx hb dX12_law_207 rfl (lv_at hl 2 rfl) ?_
                      refine va_get (D := G.1) (ci := 12) (v := .ref b_ro) (C := RX12) (T := TX12) (N := 52) hx hb hts inG_X12 hown hK hP 10 rfl rfl 3 (by decide +kernel) (hts _ fl_X12_13) (fun _ h9 => h9) rfl dX12_law_208 ?_
                      refine lv_iload_n hx hb dX12_law_211 rfl (lv_at hl 1 rfl) ?_
                      refine lv_bipush (v := 98) hx hb dX12_law_212 (by decide +kernel) ?_
                      refine lv_iadd hx hb dX12_law_214 ?_
                      have t_148 : ((340 + (900 * (v_ro 2))) + 98).toInt = (340 + (900 * (v_ro 2))).toInt + 98 := g5_iadd (a := (340 + (900 * (v_ro 2))).toInt) (b := 98) (by rfl) (by decide +kernel) (by omega) (by omega)
                      refine W.eq (g2 := F0 m 215 ls [.int ((340 + (900 * (v_ro 2))) + 98), .ref b_ro]) rfl ?_
                      refine lv_iconst (v := 2) hx hb dX12_law_215 (by decide +kernel) ?_
                      refine lv_iload_n hx hb dX12_law_216 rfl (lv_at hl 0 rfl) ?_
                      refine lv_imul hx hb dX12_law_217 ?_
                      have t_149 : (2 * k180_2).toInt = 2 * k180_2.toInt := g5_imul (a := 2) (b := k180_2.toInt) (by decide +kernel) (by rfl) (by omega) (by omega)
                      refine lv_iadd hx hb dX12_law_218 ?_
                      have t_150 : (((340 + (900 * (v_ro 2))) + 98) + (2 * k180_2)).toInt = ((340 + (900 * (v_ro 2))) + 98).toInt + (2 * k180_2).toInt := g5_iadd (a := ((340 + (900 * (v_ro 2))) + 98).toInt) (b := (2 * k180_2).toInt) (by rfl) (by rfl) (by omega) (by omega)
                      refine lv_iconst (v := 1) hx hb dX12_law_219 (by decide +kernel) ?_
                      refine W.eq (g2 := F0 m 220 ls [.int 1, .int (((340 + (900 * (v_ro 2))) + 98) + (2 * k180_2)), .ref b_ro]) rfl ?_
                      refine lv_iadd hx hb dX12_law_220 ?_
                      have t_151 : ((((340 + (900 * (v_ro 2))) + 98) + (2 * k180_2)) + 1).toInt = (((340 + (900 * (v_ro 2))) + 98) + (2 * k180_2)).toInt + 1 := g5_iadd (a := (((340 + (900 * (v_ro 2))) + 98) + (2 * k180_2)).toInt) (b := 1) (by rfl) (by decide +kernel) (by omega) (by omega)
                      refine lv_aload_n hx hb dX12_law_221 rfl (lv_at hl 2 rfl) ?_
                      refine va_get (D := G.1) (ci := 12) (v := .ref b_ar) (C := RX12) (T := TX12) (N := 52) hx hb hts inG_X12 hown hK hP 10 rfl rfl 19 (by decide +kernel) (hts _ fl_X12_36) (fun _ h9 => h9) rfl dX12_law_222 ?_
                      refine lv_iload_n hx hb dX12_law_225 rfl (lv_at hl 0 rfl) ?_
                      refine va_iald hx hb hK hP 5 0 rfl rfl (i := k180_2) (vp_in_iff.mpr ⟨by omega, by omega⟩) dX12_law_226 ?_
                      refine W.eq (g2 := F0 m 227 ls [.int (k51_ar k180_2.toNatClampNeg), .int ((((340 + (900 * (v_ro 2))) + 98) + (2 * k180_2)) + 1), .ref b_ro]) rfl ?_
                      refine va_iast hx hb hK hP hD hS 1 0 rfl rfl (i := ((((340 + (900 * (v_ro 2))) + 98) + (2 * k180_2)) + 1)) (x := (k51_ar k180_2.toNatClampNeg)) (vp_in_iff.mpr ⟨by omega, by omega⟩) dX12_law_227 ?_
                      clear hP hD hS
                      intro H locs hP hD hS
                      refine g5_rs [(b_rf, (arI G 7 v_rf)), (b_ro, (arI G 5740 (upd (upd k180_ro (((340 + (900 * (v_ro 2))) + 98) + (2 * k180_2)).toNatClampNeg (k51_op k180_2.toNatClampNeg)) ((((340 + (900 * (v_ro 2))) + 98) + (2 * k180_2)) + 1).toNatClampNeg (k51_ar k180_2.toNatClampNeg)))), (b_tp, (arI G 400 v_tp)), (b_nl, (arI G 96 k51_nl)), (b_op, (arI G 400 k51_op)), (b_ar, (arI G 400 k51_ar)), (b_pi, (arI G 400 k51_pi)), (b_pa, (arI G 400 k51_pa)), (b_ws, (arJ G 8 v_ws)), (b_hw, (arJ G 4 v_hw)), (b_o, (oc12 0 u_sa b_rf b_ro b_im b_ke u_fd b_tp 0 k51_fr k51_to k51_so k51_wo k51_fa k51_bd k51_nc b_nl k51_co b_op b_ar k51_le b_pi b_pa k51_pd k51_od b_ws b_hw u_la b_se b_re u_bk u_va u_su u_ce u_ho u_wy u_bt u_ps b_pt u_tg u_sn b_ip u_ic b_ah b_be b_me u_wd b_tr b_ld u_st b_wn u_id))] hP hD ?_
                      clear hP hD
                      intro hP hD
                      refine lv_iinc (v := (k180_2 + 1)) (lv' := [(2, .int (k180_2 + 1)), (1, .int (340 + (900 * (v_ro 2)))), (0, .ref b_o)]) hx hb dX12_law_228 hl (k := 0) rfl rfl (by decide +kernel) rfl ?_
                      clear hl
                      intro ls hl
                      have t_152 : (k180_2 + 1).toInt = k180_2.toInt + 1 := g5_iadd (a := k180_2.toInt) (b := 1) rfl (by decide +kernel) (by omega) (by omega)
                      refine lv_goto (tgt := 180) hx hb dX12_law_231 (by decide +kernel) ?_
                      exact ih_180_136 ((k180_2 + 1), (upd (upd k180_ro (((340 + (900 * (v_ro 2))) + 98) + (2 * k180_2)).toNatClampNeg (k51_op k180_2.toNatClampNeg)) ((((340 + (900 * (v_ro 2))) + 98) + (2 * k180_2)) + 1).toNatClampNeg (k51_ar k180_2.toNatClampNeg))) ls H locs (show Int.toNat (400 - (k180_2 + 1).toInt) < Int.toNat (400 - k180_2.toInt) from g_up (show k180_2.toInt < (k180_2 + 1).toInt by omega) (show k180_2.toInt < 400 by omega)) ⟨lv_sub hl [0, 1, 2] rfl, hP, hD, hS, ⟨by omega, by omega⟩, by omega, lw_d1 i_134 (by omega) (by omega) (by omega) (by omega) (by omega), lw_d2 (k := k180_2) i_135 ⟨by omega, by omega⟩ (by omega) (by omega) (by omega)⟩
                  ·
                    have i_131 : k145_2.toInt < (8 * k51_nc.toInt) := by have z := g5_geN (a := k145_2.toInt) (b := (8 * k51_nc).toInt) (by rfl) (by rfl) c_131; omega
                    refine lv_aload_n hx hb dX12_law_156 rfl (lv_at hl 2 rfl) ?_
                    refine va_get (D := G.1) (ci := 12) (v := .ref b_ro) (C := RX12) (T := TX12) (N := 52) hx hb hts inG_X12 hown hK hP 10 rfl rfl 3 (by decide +kernel) (hts _ fl_X12_13) (fun _ h9 => h9) rfl dX12_law_157 ?_
                    refine lv_iload_n hx hb dX12_law_160 rfl (lv_at hl 1 rfl) ?_
                    refine lv_iconst (v := 2) hx hb dX12_law_161 (by decide +kernel) ?_
                    refine W.eq (g2 := F0 m 162 ls [.int 2, .int (340 + (900 * (v_ro 2))), .ref b_ro]) rfl ?_
                    refine lv_iadd hx hb dX12_law_162 ?_
                    have t_153 : ((340 + (900 * (v_ro 2))) + 2).toInt = (340 + (900 * (v_ro 2))).toInt + 2 := g5_iadd (a := (340 + (900 * (v_ro 2))).toInt) (b := 2) (by rfl) (by decide +kernel) (by omega) (by omega)
                    refine lv_iload_n hx hb dX12_law_163 rfl (lv_at hl 0 rfl) ?_
                    refine lv_iadd hx hb dX12_law_164 ?_
                    have t_154 : (((340 + (900 * (v_ro 2))) + 2) + k145_2).toInt = ((340 + (900 * (v_ro 2))) + 2).toInt + k145_2.toInt := g5_iadd (a := ((340 + (900 * (v_ro 2))) + 2).toInt) (b := k145_2.toInt) (by rfl) (by rfl) (by omega) (by omega)
                    refine lv_aload_n hx hb dX12_law_165 rfl (lv_at hl 2 rfl) ?_
                    refine va_get (D := G.1) (ci := 12) (v := .ref b_nl) (C := RX12) (T := TX12) (N := 52) hx hb hts inG_X12 hown hK hP 10 rfl rfl 16 (by decide +kernel) (hts _ fl_X12_30) (fun _ h9 => h9) rfl dX12_law_166 ?_
                    refine W.eq (g2 := F0 m 169 ls [.ref b_nl, .int (((340 + (900 * (v_ro 2))) + 2) + k145_2), .ref b_ro]) rfl ?_
                    refine lv_iload_n hx hb dX12_law_169 rfl (lv_at hl 0 rfl) ?_
                    refine va_iald hx hb hK hP 3 0 rfl rfl (i := k145_2) (vp_in_iff.mpr ⟨by omega, by omega⟩) dX12_law_170 ?_
                    refine va_iast hx hb hK hP hD hS 1 0 rfl rfl (i := (((340 + (900 * (v_ro 2))) + 2) + k145_2)) (x := (k51_nl k145_2.toNatClampNeg)) (vp_in_iff.mpr ⟨by omega, by omega⟩) dX12_law_171 ?_
                    clear hP hD hS
                    intro H locs hP hD hS
                    refine g5_rs [(b_rf, (arI G 7 v_rf)), (b_ro, (arI G 5740 (upd k145_ro (((340 + (900 * (v_ro 2))) + 2) + k145_2).toNatClampNeg (k51_nl k145_2.toNatClampNeg)))), (b_tp, (arI G 400 v_tp)), (b_nl, (arI G 96 k51_nl)), (b_op, (arI G 400 k51_op)), (b_ar, (arI G 400 k51_ar)), (b_pi, (arI G 400 k51_pi)), (b_pa, (arI G 400 k51_pa)), (b_ws, (arJ G 8 v_ws)), (b_hw, (arJ G 4 v_hw)), (b_o, (oc12 0 u_sa b_rf b_ro b_im b_ke u_fd b_tp 0 k51_fr k51_to k51_so k51_wo k51_fa k51_bd k51_nc b_nl k51_co b_op b_ar k51_le b_pi b_pa k51_pd k51_od b_ws b_hw u_la b_se b_re u_bk u_va u_su u_ce u_ho u_wy u_bt u_ps b_pt u_tg u_sn b_ip u_ic b_ah b_be b_me u_wd b_tr b_ld u_st b_wn u_id))] hP hD ?_
                    clear hP hD
                    intro hP hD
                    refine lv_iinc (v := (k145_2 + 1)) (lv' := [(2, .int (k145_2 + 1)), (1, .int (340 + (900 * (v_ro 2)))), (0, .ref b_o)]) hx hb dX12_law_172 hl (k := 0) rfl rfl (by decide +kernel) rfl ?_
                    clear hl
                    intro ls hl
                    have t_155 : (k145_2 + 1).toInt = k145_2.toInt + 1 := g5_iadd (a := k145_2.toInt) (b := 1) rfl (by decide +kernel) (by omega) (by omega)
                    refine lv_goto (tgt := 145) hx hb dX12_law_175 (by decide +kernel) ?_
                    exact ih_145_129 ((k145_2 + 1), (upd k145_ro (((340 + (900 * (v_ro 2))) + 2) + k145_2).toNatClampNeg (k51_nl k145_2.toNatClampNeg))) ls H locs (show Int.toNat (96 - (k145_2 + 1).toInt) < Int.toNat (96 - k145_2.toInt) from g_up (show k145_2.toInt < (k145_2 + 1).toInt by omega) (show k145_2.toInt < 96 by omega)) ⟨lv_sub hl [0, 1, 2] rfl, hP, hD, hS, ⟨by omega, by omega⟩, by omega, lw_c1 i_127 (by omega) (by omega) (by omega) (by omega), lw_c2 (k := k145_2) i_128 ⟨by omega, by omega⟩ (by omega) (by omega)⟩
                ·
                  have i_120 : k51_bd.toInt ≠ 0 := g5_eqN (a := k51_bd.toInt) (b := 0) rfl (by decide +kernel) c_120
                  omega
              ·
                have n_119 : gNe (k51_so.toInt) (0) := g5_eqN (a := k51_so.toInt) (b := 0) rfl (by decide +kernel) c_119
                obtain ⟨kk, hLB, hTk, hk1, hk2⟩ := lxs_k i_60 (by omega)
                have hFL := lxs_out hLB (fun q8 => i_70 ((tk_sign e_tp hTk (by decide +kernel) (by decide +kernel) (c := 59)).mp q8)) (fun q8 => by have q7 := (tk_end e_tp hTk).mp q8; first | omega | (unfold gNe at *; omega))
                refine lv_aload_n hx hb dX12_law_92 rfl (lv_at hl 0 rfl) ?_
                refine lv_iconst (v := 0) hx hb dX12_law_93 (by decide +kernel) ?_
                obtain ⟨hPc, hDc, hFc⟩ := g5_sub3 (wc := [(b_o, (oc12 0 u_sa b_rf b_ro b_im b_ke u_fd b_tp u_td k51_fr k51_to k51_so k51_wo k51_fa k51_bd k51_nc b_nl k51_co b_op b_ar k51_le b_pi b_pa k51_pd k51_od b_ws b_hw u_la b_se b_re u_bk u_va u_su u_ce u_ho u_wy u_bt u_ps b_pt u_tg u_sn b_ip u_ic b_ah b_be b_me u_wd b_tr b_ld u_st b_wn u_id)), (b_tp, (arI G 400 v_tp))]) hP hD hS hA [10, 2] (by decide +kernel) rfl
                refine va_callv (va_runV (As := [.int 0]) (rest := []) ⟨hx, hb, hml, hown, hts⟩ (n_must0 l G b_o b_tp b_rf b_ro b_im b_ke b_nl b_op b_ar b_pi b_pa b_ws b_hw b_se b_re b_pt b_ip b_ah b_be b_me b_tr b_ld b_wn H.size 0 u_sa u_fd u_td k51_fr k51_to k51_so k51_fa k51_bd k51_nc k51_co k51_le k51_pd k51_od u_la u_bk u_ce u_ho u_wy u_bt u_ps u_tg u_sn u_ic u_wd u_id k51_wo u_va u_su u_st v_tp h_u_td i_47 i_48 ⟨by omega, by omega⟩ i_50 i_51 i_52 h_u_la h_u_bk h_u_ce h_u_ho h_u_wy h_u_bt h_u_ps h_u_ic h_u_id) (cwV 1 hts gV_X12_233 rfl rfl rfl hv_X12_must ⟨Nat.le_of_ble_eq_true rfl, Nat.le_of_ble_eq_true rfl⟩) (g5_preV hPc hK hDc hN hT hS hFc (ci := 12) (q0 := 0) rfl rfl) rfl rfl hl.1 rfl (lv_room (Nat.le_of_ble_eq_true rfl)) dX12_law_94 ⟨Nat.le_of_ble_eq_true rfl, Nat.le_of_ble_eq_true rfl⟩) hS (fun q _ h => hFc q h) hFc (fun u t H locs ht hvm hw hB hz1 hk1 hS => ?_)
                obtain ⟨hP1, hD1⟩ := hB
                have hP1 := g5_ht ht hP1
                obtain rfl := hw
                have hJ9 := va_join (wr := [(b_rf, (arI G 7 v_rf)), (b_ro, (arI G 5740 v_ro)), (b_nl, (arI G 96 k51_nl)), (b_op, (arI G 400 k51_op)), (b_ar, (arI G 400 k51_ar)), (b_pi, (arI G 400 k51_pi)), (b_pa, (arI G 400 k51_pa)), (b_ws, (arJ G 8 v_ws)), (b_hw, (arJ G 4 v_hw))]) hP hD [10, 2] [0, 1, 3, 4, 5, 6, 7, 8, 9] rfl rfl (by decide +kernel) (by decide +kernel) hk1 hFc hP1 hD1
                clear hP hD hPc hDc hFc ht hvm hz1 hk1 hP1 hD1
                obtain ⟨hP, hD⟩ := hJ9
                refine g5_rs [(b_rf, (arI G 7 v_rf)), (b_ro, (arI G 5740 v_ro)), (b_nl, (arI G 96 k51_nl)), (b_op, (arI G 400 k51_op)), (b_ar, (arI G 400 k51_ar)), (b_pi, (arI G 400 k51_pi)), (b_pa, (arI G 400 k51_pa)), (b_ws, (arJ G 8 v_ws)), (b_hw, (arJ G 4 v_hw)), (b_o, (oc12 0 u_sa b_rf b_ro b_im b_ke u_fd b_tp u_td k51_fr k51_to k51_so k51_wo k51_fr 1 k51_nc b_nl k51_co b_op b_ar k51_le b_pi b_pa k51_pd k51_od b_ws b_hw u_la b_se b_re u_bk u_va u_su u_ce u_ho u_wy u_bt u_ps b_pt u_tg u_sn b_ip u_ic b_ah b_be b_me u_wd b_tr b_ld u_st b_wn u_id)), (b_tp, (arI G 400 v_tp))] hP hD ?_
                clear hP hD
                intro hP hD
                refine lv_aload_n hx hb dX12_law_97 rfl (lv_at hl 0 rfl) ?_
                refine W.eq (g2 := F0 m 98 ls [.ref b_o]) rfl ?_
                refine lv_iconst (v := 0) hx hb dX12_law_98 (by decide +kernel) ?_
                refine va_put (D := G.1) (ci := 12) (v := .int 0) (ty := .int) (C := RX12) (T := TX12) (N := 52) hx hb hts inG_X12 tyX12 tyX12_ok nmX12 hown hK hP hD hS 9 rfl rfl 8 (by decide +kernel) (hts _ fl_X12_192) (fun _ h9 => h9) rfl (by decide +kernel) rfl rfl (Nat.le_of_ble_eq_true rfl) dX12_law_99 ?_
                clear hP hD hS
                intro H locs hP hD hS
                refine g5_rs [(b_rf, (arI G 7 v_rf)), (b_ro, (arI G 5740 v_ro)), (b_nl, (arI G 96 k51_nl)), (b_op, (arI G 400 k51_op)), (b_ar, (arI G 400 k51_ar)), (b_pi, (arI G 400 k51_pi)), (b_pa, (arI G 400 k51_pa)), (b_ws, (arJ G 8 v_ws)), (b_hw, (arJ G 4 v_hw)), (b_o, (oc12 0 u_sa b_rf b_ro b_im b_ke u_fd b_tp 0 k51_fr k51_to k51_so k51_wo k51_fr 1 k51_nc b_nl k51_co b_op b_ar k51_le b_pi b_pa k51_pd k51_od b_ws b_hw u_la b_se b_re u_bk u_va u_su u_ce u_ho u_wy u_bt u_ps b_pt u_tg u_sn b_ip u_ic b_ah b_be b_me u_wd b_tr b_ld u_st b_wn u_id)), (b_tp, (arI G 400 v_tp))] hP hD ?_
                clear hP hD
                intro hP hD
                refine lv_aload_n hx hb dX12_law_102 rfl (lv_at hl 0 rfl) ?_
                refine va_get (D := G.1) (ci := 12) (v := .int 1) (C := RX12) (T := TX12) (N := 52) hx hb hts inG_X12 hown hK hP 9 rfl rfl 14 (by decide +kernel) (hts _ fl_X12_205) (fun _ h9 => h9) rfl dX12_law_103 ?_
                refine lv_if_eq (tgt := 116) hx hb dX12_law_106 (by decide +kernel) (fun c_156 => ?_) (fun c_156 => ?_)
                ·
                  exact absurd c_156 (by decide +kernel)
                ·
                  refine lv_aload_n hx hb dX12_law_109 rfl (lv_at hl 0 rfl) ?_
                  refine lv_bipush (v := (-6)) hx hb dX12_law_110 (by decide +kernel) ?_
                  obtain ⟨hPc, hDc, hFc⟩ := g5_sub3 (wc := [(b_o, (oc12 0 u_sa b_rf b_ro b_im b_ke u_fd b_tp 0 k51_fr k51_to k51_so k51_wo k51_fr 1 k51_nc b_nl k51_co b_op b_ar k51_le b_pi b_pa k51_pd k51_od b_ws b_hw u_la b_se b_re u_bk u_va u_su u_ce u_ho u_wy u_bt u_ps b_pt u_tg u_sn b_ip u_ic b_ah b_be b_me u_wd b_tr b_ld u_st b_wn u_id)), (b_rf, (arI G 7 v_rf))]) hP hD hS hA [9, 0] (by decide +kernel) rfl
                  refine va_calli (va_runV (As := [.int (-6)]) (rest := []) ⟨hx, hb, hml, hown, hts⟩ (n_tell6 l G b_o b_rf b_ro b_im b_ke b_tp b_nl b_op b_ar b_pi b_pa b_ws b_hw b_se b_re b_pt b_ip b_ah b_be b_me b_tr b_ld b_wn H.size 0 u_sa u_fd 0 k51_fr k51_to k51_so k51_fr 1 k51_nc k51_co k51_le k51_pd k51_od u_la u_bk u_ce u_ho u_wy u_bt u_ps u_tg u_sn u_ic u_wd u_id k51_wo u_va u_su u_st v_rf ⟨by decide, by decide⟩ i_47 i_48 ⟨by decide, by decide⟩ i_50 i_51 i_52 h_u_la h_u_bk h_u_ce h_u_ho h_u_wy h_u_bt h_u_ps h_u_ic h_u_id) (cwV 1 hts gV_X12_125 rfl rfl rfl hv_X12_tell ⟨Nat.le_of_ble_eq_true rfl, Nat.le_of_ble_eq_true rfl⟩) (g5_preV hPc hK hDc hN hT hS hFc (ci := 12) (q0 := 0) rfl rfl) rfl rfl hl.1 rfl (lv_room (Nat.le_of_ble_eq_true rfl)) dX12_law_112 ⟨Nat.le_of_ble_eq_true rfl, Nat.le_of_ble_eq_true rfl⟩) hS (fun q _ h => hFc q h) hFc (fun r u t H locs ht hvm hw hB hz1 hk1 hS => ?_)
                  obtain ⟨hP1, hD1⟩ := hB
                  have hP1 := g5_ht ht hP1
                  obtain ⟨z158, z159, z160, (i_157 : 0 ≤ z159.toInt ∧ z159.toInt ≤ 1), rfl, rfl⟩ := hw
                  have hJ9 := va_join (wr := [(b_ro, (arI G 5740 v_ro)), (b_nl, (arI G 96 k51_nl)), (b_op, (arI G 400 k51_op)), (b_ar, (arI G 400 k51_ar)), (b_pi, (arI G 400 k51_pi)), (b_pa, (arI G 400 k51_pa)), (b_ws, (arJ G 8 v_ws)), (b_hw, (arJ G 4 v_hw)), (b_tp, (arI G 400 v_tp))]) hP hD [9, 0] [1, 2, 3, 4, 5, 6, 7, 8, 10] rfl rfl (by decide +kernel) (by decide +kernel) hk1 hFc hP1 hD1
                  clear hP hD hPc hDc hFc ht hvm hz1 hk1 hP1 hD1
                  obtain ⟨hP, hD⟩ := hJ9
                  refine g5_rs [(b_ro, (arI G 5740 v_ro)), (b_nl, (arI G 96 k51_nl)), (b_op, (arI G 400 k51_op)), (b_ar, (arI G 400 k51_ar)), (b_pi, (arI G 400 k51_pi)), (b_pa, (arI G 400 k51_pa)), (b_ws, (arJ G 8 v_ws)), (b_hw, (arJ G 4 v_hw)), (b_tp, (arI G 400 v_tp)), (b_o, (oc12 0 z158 b_rf b_ro b_im b_ke u_fd b_tp 0 k51_fr k51_to k51_so k51_wo k51_fr 1 k51_nc b_nl k51_co b_op b_ar k51_le b_pi b_pa k51_pd k51_od b_ws b_hw u_la b_se b_re u_bk u_va u_su u_ce u_ho u_wy u_bt u_ps b_pt u_tg u_sn b_ip z159 b_ah b_be b_me u_wd b_tr b_ld u_st b_wn u_id)), (b_rf, (arI G 7 z160))] hP hD ?_
                  clear hP hD
                  intro hP hD
                  exact W.iret (v := (-6)) hx hb hr (fun t ht hW => ⟨⟨(-6), [(b_o, (oc12 0 z158 b_rf b_ro b_im b_ke u_fd b_tp 0 k51_fr k51_to k51_so k51_wo k51_fr 1 k51_nc b_nl k51_co b_op b_ar k51_le b_pi b_pa k51_pd k51_od b_ws b_hw u_la b_se b_re u_bk u_va u_su u_ce u_ho u_wy u_bt u_ps b_pt u_tg u_sn b_ip z159 b_ah b_be b_me u_wd b_tr b_ld u_st b_wn u_id)), (b_rf, (arI G 7 z160)), (b_ro, (arI G 5740 v_ro)), (b_tp, (arI G 400 v_tp)), (b_nl, (arI G 96 k51_nl)), (b_op, (arI G 400 k51_op)), (b_ar, (arI G 400 k51_ar)), (b_pi, (arI G 400 k51_pi)), (b_pa, (arI G 400 k51_pa)), (b_ws, (arJ G 8 v_ws)), (b_hw, (arJ G 4 v_hw))], rfl, ⟨(-6), 0, z158, 0, k51_fr, k51_to, k51_so, k51_wo, k51_fr, 1, k51_nc, k51_co, k51_le, k51_pd, k51_od, z159, z160, v_ro, k51_nl, k51_op, k51_ar, k51_pi, k51_pa, ⟨by have zc_o_td : (0 : Int32).toInt = 0 := (by decide +kernel); omega, by have zc_o_td : (0 : Int32).toInt = 0 := (by decide +kernel); omega⟩, i_47, i_48, ⟨by have zc_o_bd : (1 : Int32).toInt = 1 := (by decide +kernel); omega, by have zc_o_bd : (1 : Int32).toInt = 1 := (by decide +kernel); omega⟩, i_50, i_51, i_52, i_157, r_ro, by decide, fun _ _ _ => rfl, fun _ _ _ => rfl, Or.inr (Or.inl ⟨by omega, hFL.1, by first | decide | omega, rfl, hFL.2⟩), rfl, rfl⟩, by rw [ht]; exact hP.sub [9, 10, 0, 8, 1, 2, 3, 4, 5, 6, 7] rfl, hD.sub [9, 10, 0, 8, 1, 2, 3, 4, 5, 6, 7] (by decide +kernel) rfl⟩, hS.F ht⟩) hS.2.2 dX12_law_115
          ·
            exact absurd c_117 (by decide +kernel)
    ·
      have hJ9 := va_join (wr := [(b_rf, (arI G 7 v_rf)), (b_ro, (arI G 5740 v_ro))]) hP hD [9, 10, 2, 3, 4, 5, 6, 7, 8] [0, 1] rfl rfl (by decide +kernel) (by decide +kernel) hk1 hFc hP1 hD1
      clear hP hD hPc hDc hFc ht hvm hz1 hk1 hP1 hD1
      obtain ⟨hP, hD⟩ := hJ9
      refine g5_rs [(b_rf, (arI G 7 v_rf)), (b_ro, (arI G 5740 v_ro)), (b_o, (oc12 0 u_sa b_rf b_ro b_im b_ke u_fd b_tp u_td z31 z32 z33 z34 z35 z36 z37 b_nl z38 b_op b_ar z39 b_pi b_pa z40 z41 b_ws b_hw u_la b_se b_re u_bk u_va u_su u_ce u_ho u_wy u_bt u_ps b_pt u_tg u_sn b_ip u_ic b_ah b_be b_me u_wd b_tr b_ld u_st b_wn u_id)), (b_tp, (arI G 400 v_tp)), (b_nl, (arI G 96 z42)), (b_op, (arI G 400 z43)), (b_ar, (arI G 400 z44)), (b_pi, (arI G 400 z45)), (b_pa, (arI G 400 z46)), (b_ws, (arJ G 8 v_ws)), (b_hw, (arJ G 4 v_hw))] hP hD ?_
      clear hP hD
      intro hP hD
      refine g5_loop (α := (Int32) × (Int32) × (Int32) × (Int64) × (Int32) × (Int32) × (Int32) × (Int32) × (Int32) × (Int32) × (Int32) × (Nat → Int32) × (Nat → Int32) × (Nat → Int32) × (Nat → Int32) × (Nat → Int32)) (fun (q : (Int32) × (Int32) × (Int32) × (Int64) × (Int32) × (Int32) × (Int32) × (Int32) × (Int32) × (Int32) × (Int32) × (Nat → Int32) × (Nat → Int32) × (Nat → Int32) × (Nat → Int32) × (Nat → Int32)) (ls : Array Slot) (H : Heap) (locs : List Loc) => match q with | (k51_fr, k51_to, k51_so, k51_wo, k51_fa, k51_bd, k51_nc, k51_co, k51_le, k51_pd, k51_od, k51_nl, k51_op, k51_ar, k51_pi, k51_pa) => lv_has ls 3 [(0, .ref b_o)] ∧ va_P G.1 vwCl [(b_rf, (arI G 7 v_rf)), (b_ro, (arI G 5740 v_ro)), (b_o, (oc12 0 u_sa b_rf b_ro b_im b_ke u_fd b_tp u_td k51_fr k51_to k51_so k51_wo k51_fa k51_bd k51_nc b_nl k51_co b_op b_ar k51_le b_pi b_pa k51_pd k51_od b_ws b_hw u_la b_se b_re u_bk u_va u_su u_ce u_ho u_wy u_bt u_ps b_pt u_tg u_sn b_ip u_ic b_ah b_be b_me u_wd b_tr b_ld u_st b_wn u_id)), (b_tp, (arI G 400 v_tp)), (b_nl, (arI G 96 k51_nl)), (b_op, (arI G 400 k51_op)), (b_ar, (arI G 400 k51_ar)), (b_pi, (arI G 400 k51_pi)), (b_pa, (arI G 400 k51_pa)), (b_ws, (arJ G 8 v_ws)), (b_hw, (arJ G 4 v_hw))] H ∧ va_D A [(b_rf, (arI G 7 v_rf)), (b_ro, (arI G 5740 v_ro)), (b_o, (oc12 0 u_sa b_rf b_ro b_im b_ke u_fd b_tp u_td k51_fr k51_to k51_so k51_wo k51_fa k51_bd k51_nc b_nl k51_co b_op b_ar k51_le b_pi b_pa k51_pd k51_od b_ws b_hw u_la b_se b_re u_bk u_va u_su u_ce u_ho u_wy u_bt u_ps b_pt u_tg u_sn b_ip u_ic b_ah b_be b_me u_wd b_tr b_ld u_st b_wn u_id)), (b_tp, (arI G 400 v_tp)), (b_nl, (arI G 96 k51_nl)), (b_op, (arI G 400 k51_op)), (b_ar, (arI G 400 k51_ar)), (b_pi, (arI G 400 k51_pi)), (b_pa, (arI G 400 k51_pa)), (b_ws, (arJ G 8 v_ws)), (b_hw, (arJ G 4 v_hw))] ∧ va_S A s.heap H locs ∧ (0 ≤ k51_fr.toInt ∧ k51_fr.toInt ≤ 400) ∧ (0 ≤ k51_to.toInt ∧ k51_to.toInt ≤ 400) ∧ (0 ≤ k51_bd.toInt ∧ k51_bd.toInt ≤ 1) ∧ (0 ≤ k51_nc.toInt ∧ k51_nc.toInt ≤ 12) ∧ (0 ≤ k51_co.toInt ∧ k51_co.toInt ≤ 400) ∧ (0 ≤ k51_pd.toInt ∧ k51_pd.toInt ≤ 400) ∧ (k51_bd.toInt = 0 → LWJ k51_nl k51_op k51_ar k51_nc.toInt k51_co.toInt) ∧ (k51_fr.toInt ≤ k51_to.toInt ∧ k51_to.toInt ≤ u_td.toInt) ∧ (TKs k51_so.toInt k51_fr.toInt k51_to.toInt) ∧ (k51_co.toInt ≤ k51_fr.toInt) ∧ (0 ≤ k51_le.toInt ∧ k51_le.toInt ≤ 50) ∧ (k51_bd.toInt = 1 → k51_fa = k51_fr) ∧ (k51_bd.toInt = 0 → k51_fa.toInt = -1) ∧ (LXS v_tp u_td k51_nl k51_op k51_ar k51_nc k51_co k51_le k51_bd k51_fr k51_to k51_so k51_wo)) (fun (q : (Int32) × (Int32) × (Int32) × (Int64) × (Int32) × (Int32) × (Int32) × (Int32) × (Int32) × (Int32) × (Int32) × (Nat → Int32) × (Nat → Int32) × (Nat → Int32) × (Nat → Int32) × (Nat → Int32)) => match q with | (k51_fr, k51_to, k51_so, k51_wo, k51_fa, k51_bd, k51_nc, k51_co, k51_le, k51_pd, k51_od, k51_nl, k51_op, k51_ar, k51_pi, k51_pa) => Int.toNat (400 - k51_fr.toInt)) (z31, z32, z33, z34, z35, z36, z37, z38, z39, z40, z41, z42, z43, z44, z45, z46) ⟨lv_sub hl [0] rfl, hP, hD, hS, i_14, i_15, i_16, i_17, i_18, i_19, i_23, by omega, i_21, by omega, i_27, i_25, fun q9 => by rw [i_26 q9]; decide, lxs_0 (nl := v_nl) (by decide +kernel) (by decide +kernel) (by decide +kernel) (by first | exact fun q9 => absurd q9 (by decide +kernel) | exact fun _ => by omega) (by first | decide | omega) i_24⟩ ?_
      rintro ⟨k51_fr, k51_to, k51_so, k51_wo, k51_fa, k51_bd, k51_nc, k51_co, k51_le, k51_pd, k51_od, k51_nl, k51_op, k51_ar, k51_pi, k51_pa⟩ ls H locs ⟨hl, hP, hD, hS, (i_161 : 0 ≤ k51_fr.toInt ∧ k51_fr.toInt ≤ 400), (i_162 : 0 ≤ k51_to.toInt ∧ k51_to.toInt ≤ 400), (i_163 : 0 ≤ k51_bd.toInt ∧ k51_bd.toInt ≤ 1), (i_164 : 0 ≤ k51_nc.toInt ∧ k51_nc.toInt ≤ 12), (i_165 : 0 ≤ k51_co.toInt ∧ k51_co.toInt ≤ 400), (i_166 : 0 ≤ k51_pd.toInt ∧ k51_pd.toInt ≤ 400), (i_167 : k51_bd.toInt = 0 → LWJ k51_nl k51_op k51_ar k51_nc.toInt k51_co.toInt), (i_168 : k51_fr.toInt ≤ k51_to.toInt ∧ k51_to.toInt ≤ u_td.toInt), (i_169 : TKs k51_so.toInt k51_fr.toInt k51_to.toInt), (i_170 : k51_co.toInt ≤ k51_fr.toInt), (i_171 : 0 ≤ k51_le.toInt ∧ k51_le.toInt ≤ 50), (i_172 : k51_bd.toInt = 1 → k51_fa = k51_fr), (i_173 : k51_bd.toInt = 0 → k51_fa.toInt = -1), (i_174 : LXS v_tp u_td k51_nl k51_op k51_ar k51_nc k51_co k51_le k51_bd k51_fr k51_to k51_so k51_wo)⟩ ih_51_175
      replace hl : lv_has ls 3 [(0, .ref b_o)] := hl
      refine g5_rs [(b_rf, (arI G 7 v_rf)), (b_ro, (arI G 5740 v_ro)), (b_o, (oc12 0 u_sa b_rf b_ro b_im b_ke u_fd b_tp u_td k51_fr k51_to k51_so k51_wo k51_fa k51_bd k51_nc b_nl k51_co b_op b_ar k51_le b_pi b_pa k51_pd k51_od b_ws b_hw u_la b_se b_re u_bk u_va u_su u_ce u_ho u_wy u_bt u_ps b_pt u_tg u_sn b_ip u_ic b_ah b_be b_me u_wd b_tr b_ld u_st b_wn u_id)), (b_tp, (arI G 400 v_tp)), (b_nl, (arI G 96 k51_nl)), (b_op, (arI G 400 k51_op)), (b_ar, (arI G 400 k51_ar)), (b_pi, (arI G 400 k51_pi)), (b_pa, (arI G 400 k51_pa)), (b_ws, (arJ G 8 v_ws)), (b_hw, (arJ G 4 v_hw))] hP hD ?_
      clear hP hD
      intro hP hD
      refine lv_aload_n hx hb dX12_law_51 rfl (lv_at hl 0 rfl) ?_
      refine va_get (D := G.1) (ci := 12) (v := .int k51_bd) (C := RX12) (T := TX12) (N := 52) hx hb hts inG_X12 hown hK hP 2 rfl rfl 14 (by decide +kernel) (hts _ fl_X12_205) (fun _ h9 => h9) rfl dX12_law_52 ?_
      refine lv_if_ne (tgt := 78) hx hb dX12_law_55 (by decide +kernel) (fun c_176 => ?_) (fun c_176 => ?_)
      ·
        have n_176 : gNe (k51_bd.toInt) (0) := g5_ne (a := k51_bd.toInt) (b := 0) rfl (by decide +kernel) c_176
        have i_176 : k51_bd.toInt ≥ 1 := by have z := g5_ne (a := k51_bd.toInt) (b := 0) (by rfl) (by decide +kernel) c_176; omega
        refine lv_aload_n hx hb dX12_law_78 rfl (lv_at hl 0 rfl) ?_
        refine va_get (D := G.1) (ci := 12) (v := .int k51_bd) (C := RX12) (T := TX12) (N := 52) hx hb hts inG_X12 hown hK hP 2 rfl rfl 14 (by decide +kernel) (hts _ fl_X12_205) (fun _ h9 => h9) rfl dX12_law_79 ?_
        refine lv_if_ne (tgt := 97) hx hb dX12_law_82 (by decide +kernel) (fun c_177 => ?_) (fun c_177 => ?_)
        ·
          have n_177 : gNe (k51_bd.toInt) (0) := g5_ne (a := k51_bd.toInt) (b := 0) rfl (by decide +kernel) c_177
          refine lv_aload_n hx hb dX12_law_97 rfl (lv_at hl 0 rfl) ?_
          refine lv_iconst (v := 0) hx hb dX12_law_98 (by decide +kernel) ?_
          refine va_put (D := G.1) (ci := 12) (v := .int 0) (ty := .int) (C := RX12) (T := TX12) (N := 52) hx hb hts inG_X12 tyX12 tyX12_ok nmX12 hown hK hP hD hS 2 rfl rfl 8 (by decide +kernel) (hts _ fl_X12_192) (fun _ h9 => h9) rfl (by decide +kernel) rfl rfl (Nat.le_of_ble_eq_true rfl) dX12_law_99 ?_
          clear hP hD hS
          intro H locs hP hD hS
          refine g5_rs [(b_rf, (arI G 7 v_rf)), (b_ro, (arI G 5740 v_ro)), (b_o, (oc12 0 u_sa b_rf b_ro b_im b_ke u_fd b_tp 0 k51_fr k51_to k51_so k51_wo k51_fa k51_bd k51_nc b_nl k51_co b_op b_ar k51_le b_pi b_pa k51_pd k51_od b_ws b_hw u_la b_se b_re u_bk u_va u_su u_ce u_ho u_wy u_bt u_ps b_pt u_tg u_sn b_ip u_ic b_ah b_be b_me u_wd b_tr b_ld u_st b_wn u_id)), (b_tp, (arI G 400 v_tp)), (b_nl, (arI G 96 k51_nl)), (b_op, (arI G 400 k51_op)), (b_ar, (arI G 400 k51_ar)), (b_pi, (arI G 400 k51_pi)), (b_pa, (arI G 400 k51_pa)), (b_ws, (arJ G 8 v_ws)), (b_hw, (arJ G 4 v_hw))] hP hD ?_
          clear hP hD
          intro hP hD
          refine lv_aload_n hx hb dX12_law_102 rfl (lv_at hl 0 rfl) ?_
          refine W.eq (g2 := F0 m 103 ls [.ref b_o]) rfl ?_
          refine va_get (D := G.1) (ci := 12) (v := .int k51_bd) (C := RX12) (T := TX12) (N := 52) hx hb hts inG_X12 hown hK hP 2 rfl rfl 14 (by decide +kernel) (hts _ fl_X12_205) (fun _ h9 => h9) rfl dX12_law_103 ?_
          refine lv_if_eq (tgt := 116) hx hb dX12_law_106 (by decide +kernel) (fun c_178 => ?_) (fun c_178 => ?_)
          ·
            have i_178 : k51_bd.toInt = 0 := g5_eq (a := k51_bd.toInt) (b := 0) rfl (by decide +kernel) c_178
            omega
          ·
            have n_178 : gNe (k51_bd.toInt) (0) := g5_eqN (a := k51_bd.toInt) (b := 0) rfl (by decide +kernel) c_178
            have hFL := lxs_bad i_174 (by omega)
            have hFA := i_172 (by omega)
            refine lv_aload_n hx hb dX12_law_109 rfl (lv_at hl 0 rfl) ?_
            refine lv_bipush (v := (-6)) hx hb dX12_law_110 (by decide +kernel) ?_
            obtain ⟨hPc, hDc, hFc⟩ := g5_sub3 (wc := [(b_o, (oc12 0 u_sa b_rf b_ro b_im b_ke u_fd b_tp 0 k51_fr k51_to k51_so k51_wo k51_fa k51_bd k51_nc b_nl k51_co b_op b_ar k51_le b_pi b_pa k51_pd k51_od b_ws b_hw u_la b_se b_re u_bk u_va u_su u_ce u_ho u_wy u_bt u_ps b_pt u_tg u_sn b_ip u_ic b_ah b_be b_me u_wd b_tr b_ld u_st b_wn u_id)), (b_rf, (arI G 7 v_rf))]) hP hD hS hA [2, 0] (by decide +kernel) rfl
            refine va_calli (va_runV (As := [.int (-6)]) (rest := []) ⟨hx, hb, hml, hown, hts⟩ (n_tell6 l G b_o b_rf b_ro b_im b_ke b_tp b_nl b_op b_ar b_pi b_pa b_ws b_hw b_se b_re b_pt b_ip b_ah b_be b_me b_tr b_ld b_wn H.size 0 u_sa u_fd 0 k51_fr k51_to k51_so k51_fa k51_bd k51_nc k51_co k51_le k51_pd k51_od u_la u_bk u_ce u_ho u_wy u_bt u_ps u_tg u_sn u_ic u_wd u_id k51_wo u_va u_su u_st v_rf ⟨by decide, by decide⟩ i_161 i_162 i_163 i_164 i_165 i_166 h_u_la h_u_bk h_u_ce h_u_ho h_u_wy h_u_bt h_u_ps h_u_ic h_u_id) (cwV 1 hts gV_X12_125 rfl rfl rfl hv_X12_tell ⟨Nat.le_of_ble_eq_true rfl, Nat.le_of_ble_eq_true rfl⟩) (g5_preV hPc hK hDc hN hT hS hFc (ci := 12) (q0 := 0) rfl rfl) rfl rfl hl.1 rfl (lv_room (Nat.le_of_ble_eq_true rfl)) dX12_law_112 ⟨Nat.le_of_ble_eq_true rfl, Nat.le_of_ble_eq_true rfl⟩) hS (fun q _ h => hFc q h) hFc (fun r u t H locs ht hvm hw hB hz1 hk1 hS => ?_)
            obtain ⟨hP1, hD1⟩ := hB
            have hP1 := g5_ht ht hP1
            obtain ⟨z180, z181, z182, (i_179 : 0 ≤ z181.toInt ∧ z181.toInt ≤ 1), rfl, rfl⟩ := hw
            have hJ9 := va_join (wr := [(b_ro, (arI G 5740 v_ro)), (b_tp, (arI G 400 v_tp)), (b_nl, (arI G 96 k51_nl)), (b_op, (arI G 400 k51_op)), (b_ar, (arI G 400 k51_ar)), (b_pi, (arI G 400 k51_pi)), (b_pa, (arI G 400 k51_pa)), (b_ws, (arJ G 8 v_ws)), (b_hw, (arJ G 4 v_hw))]) hP hD [2, 0] [1, 3, 4, 5, 6, 7, 8, 9, 10] rfl rfl (by decide +kernel) (by decide +kernel) hk1 hFc hP1 hD1
            clear hP hD hPc hDc hFc ht hvm hz1 hk1 hP1 hD1
            obtain ⟨hP, hD⟩ := hJ9
            refine g5_rs [(b_ro, (arI G 5740 v_ro)), (b_tp, (arI G 400 v_tp)), (b_nl, (arI G 96 k51_nl)), (b_op, (arI G 400 k51_op)), (b_ar, (arI G 400 k51_ar)), (b_pi, (arI G 400 k51_pi)), (b_pa, (arI G 400 k51_pa)), (b_ws, (arJ G 8 v_ws)), (b_hw, (arJ G 4 v_hw)), (b_o, (oc12 0 z180 b_rf b_ro b_im b_ke u_fd b_tp 0 k51_fr k51_to k51_so k51_wo k51_fa k51_bd k51_nc b_nl k51_co b_op b_ar k51_le b_pi b_pa k51_pd k51_od b_ws b_hw u_la b_se b_re u_bk u_va u_su u_ce u_ho u_wy u_bt u_ps b_pt u_tg u_sn b_ip z181 b_ah b_be b_me u_wd b_tr b_ld u_st b_wn u_id)), (b_rf, (arI G 7 z182))] hP hD ?_
            clear hP hD
            intro hP hD
            exact W.iret (v := (-6)) hx hb hr (fun t ht hW => ⟨⟨(-6), [(b_o, (oc12 0 z180 b_rf b_ro b_im b_ke u_fd b_tp 0 k51_fr k51_to k51_so k51_wo k51_fa k51_bd k51_nc b_nl k51_co b_op b_ar k51_le b_pi b_pa k51_pd k51_od b_ws b_hw u_la b_se b_re u_bk u_va u_su u_ce u_ho u_wy u_bt u_ps b_pt u_tg u_sn b_ip z181 b_ah b_be b_me u_wd b_tr b_ld u_st b_wn u_id)), (b_rf, (arI G 7 z182)), (b_ro, (arI G 5740 v_ro)), (b_tp, (arI G 400 v_tp)), (b_nl, (arI G 96 k51_nl)), (b_op, (arI G 400 k51_op)), (b_ar, (arI G 400 k51_ar)), (b_pi, (arI G 400 k51_pi)), (b_pa, (arI G 400 k51_pa)), (b_ws, (arJ G 8 v_ws)), (b_hw, (arJ G 4 v_hw))], rfl, ⟨(-6), 0, z180, 0, k51_fr, k51_to, k51_so, k51_wo, k51_fa, k51_bd, k51_nc, k51_co, k51_le, k51_pd, k51_od, z181, z182, v_ro, k51_nl, k51_op, k51_ar, k51_pi, k51_pa, ⟨by have zc_o_td : (0 : Int32).toInt = 0 := (by decide +kernel); omega, by have zc_o_td : (0 : Int32).toInt = 0 := (by decide +kernel); omega⟩, i_161, i_162, i_163, i_164, i_165, i_166, i_179, r_ro, by decide, fun _ _ _ => rfl, fun _ _ _ => rfl, Or.inr (Or.inl ⟨by omega, hFL.1, by first | decide | omega, rfl, by rw [hFA]; exact hFL.2⟩), rfl, rfl⟩, by rw [ht]; exact hP.sub [9, 10, 0, 1, 2, 3, 4, 5, 6, 7, 8] rfl, hD.sub [9, 10, 0, 1, 2, 3, 4, 5, 6, 7, 8] (by decide +kernel) rfl⟩, hS.F ht⟩) hS.2.2 dX12_law_115
        ·
          have i_177 : k51_bd.toInt = 0 := g5_neN (a := k51_bd.toInt) (b := 0) rfl (by decide +kernel) c_177
          omega
      ·
        have i_176 : k51_bd.toInt = 0 := g5_neN (a := k51_bd.toInt) (b := 0) rfl (by decide +kernel) c_176
        refine lv_aload_n hx hb dX12_law_58 rfl (lv_at hl 0 rfl) ?_
        refine lv_bipush (v := 59) hx hb dX12_law_59 (by decide +kernel) ?_
        obtain ⟨hPc, hDc, hFc⟩ := g5_sub3 (wc := [(b_o, (oc12 0 u_sa b_rf b_ro b_im b_ke u_fd b_tp u_td k51_fr k51_to k51_so k51_wo k51_fa k51_bd k51_nc b_nl k51_co b_op b_ar k51_le b_pi b_pa k51_pd k51_od b_ws b_hw u_la b_se b_re u_bk u_va u_su u_ce u_ho u_wy u_bt u_ps b_pt u_tg u_sn b_ip u_ic b_ah b_be b_me u_wd b_tr b_ld u_st b_wn u_id))]) hP hD hS hA [2] (by decide +kernel) rfl
        refine va_calli (va_runV (As := [.int 59]) (rest := []) ⟨hx, hb, hml, hown, hts⟩ (n_isSignX59 l G b_o b_rf b_ro b_im b_ke b_tp b_nl b_op b_ar b_pi b_pa b_ws b_hw b_se b_re b_pt b_ip b_ah b_be b_me b_tr b_ld b_wn H.size 0 u_sa u_fd u_td k51_fr k51_to k51_so k51_fa k51_bd k51_nc k51_co k51_le k51_pd k51_od u_la u_bk u_ce u_ho u_wy u_bt u_ps u_tg u_sn u_ic u_wd u_id k51_wo u_va u_su u_st h_u_td i_161 i_162 i_163 i_164 i_165 i_166 h_u_la h_u_bk h_u_ce h_u_ho h_u_wy h_u_bt h_u_ps h_u_ic h_u_id) (cwV 1 hts gV_X12_267 rfl rfl rfl hv_X12_isSign ⟨Nat.le_of_ble_eq_true rfl, Nat.le_of_ble_eq_true rfl⟩) (g5_preV hPc hK hDc hN hT hS hFc (ci := 12) (q0 := 0) rfl rfl) rfl rfl hl.1 rfl (lv_room (Nat.le_of_ble_eq_true rfl)) dX12_law_61 ⟨Nat.le_of_ble_eq_true rfl, Nat.le_of_ble_eq_true rfl⟩) hS (fun q _ h => hFc q h) hFc (fun r u t H locs ht hvm hw hB hz1 hk1 hS => ?_)
        obtain ⟨hP1, hD1⟩ := hB
        have hP1 := g5_ht ht hP1
        rcases hw with ⟨(i_183 : k51_so.toInt = 3 ∧ k51_wo.toInt = 59), rfl, rfl⟩ | ⟨(i_184 : ¬ (k51_so.toInt = 3 ∧ k51_wo.toInt = 59)), rfl, rfl⟩
        ·
          have hJ9 := va_join (wr := [(b_rf, (arI G 7 v_rf)), (b_ro, (arI G 5740 v_ro)), (b_tp, (arI G 400 v_tp)), (b_nl, (arI G 96 k51_nl)), (b_op, (arI G 400 k51_op)), (b_ar, (arI G 400 k51_ar)), (b_pi, (arI G 400 k51_pi)), (b_pa, (arI G 400 k51_pa)), (b_ws, (arJ G 8 v_ws)), (b_hw, (arJ G 4 v_hw))]) hP hD [2] [0, 1, 3, 4, 5, 6, 7, 8, 9, 10] rfl rfl (by decide +kernel) (by decide +kernel) hk1 hFc hP1 hD1
          clear hP hD hPc hDc hFc ht hvm hz1 hk1 hP1 hD1
          obtain ⟨hP, hD⟩ := hJ9
          refine g5_rs [(b_rf, (arI G 7 v_rf)), (b_ro, (arI G 5740 v_ro)), (b_tp, (arI G 400 v_tp)), (b_nl, (arI G 96 k51_nl)), (b_op, (arI G 400 k51_op)), (b_ar, (arI G 400 k51_ar)), (b_pi, (arI G 400 k51_pi)), (b_pa, (arI G 400 k51_pa)), (b_ws, (arJ G 8 v_ws)), (b_hw, (arJ G 4 v_hw)), (b_o, (oc12 0 u_sa b_rf b_ro b_im b_ke u_fd b_tp u_td k51_fr k51_to k51_so k51_wo k51_fa k51_bd k51_nc b_nl k51_co b_op b_ar k51_le b_pi b_pa k51_pd k51_od b_ws b_hw u_la b_se b_re u_bk u_va u_su u_ce u_ho u_wy u_bt u_ps b_pt u_tg u_sn b_ip u_ic b_ah b_be b_me u_wd b_tr b_ld u_st b_wn u_id))] hP hD ?_
          clear hP hD
          intro hP hD
          refine lv_if_eq (tgt := 78) hx hb dX12_law_64 (by decide +kernel) (fun c_185 => ?_) (fun c_185 => ?_)
          ·
            exact absurd c_185 (by decide +kernel)
          ·
            have hlt7 : k51_fr.toInt < k51_to.toInt := tks_lt i_169 (by omega)
            obtain ⟨kk, hLB, hTk, hk1, hk2⟩ := lxs_k i_174 (by omega)
            have hK59 := (tk_sign e_tp hTk (by decide +kernel) (by decide +kernel) (c := 59)).mpr i_183
            have hkn : kk < u_td.toInt.toNat := k_lt (by omega) (by rw [hK59]; decide)
            refine lv_aload_n hx hb dX12_law_67 rfl (lv_at hl 0 rfl) ?_
            obtain ⟨hPc, hDc, hFc⟩ := g5_sub3 (wc := [(b_o, (oc12 0 u_sa b_rf b_ro b_im b_ke u_fd b_tp u_td k51_fr k51_to k51_so k51_wo k51_fa k51_bd k51_nc b_nl k51_co b_op b_ar k51_le b_pi b_pa k51_pd k51_od b_ws b_hw u_la b_se b_re u_bk u_va u_su u_ce u_ho u_wy u_bt u_ps b_pt u_tg u_sn b_ip u_ic b_ah b_be b_me u_wd b_tr b_ld u_st b_wn u_id)), (b_tp, (arI G 400 v_tp))]) hP hD hS hA [10, 2] (by decide +kernel) rfl
            refine va_callv (va_runV (As := []) (rest := []) ⟨hx, hb, hml, hown, hts⟩ (n_nextX l G b_o b_tp b_rf b_ro b_im b_ke b_nl b_op b_ar b_pi b_pa b_ws b_hw b_se b_re b_pt b_ip b_ah b_be b_me b_tr b_ld b_wn H.size 0 u_sa u_fd u_td k51_fr k51_to k51_so k51_fa k51_bd k51_nc k51_co k51_le k51_pd k51_od u_la u_bk u_ce u_ho u_wy u_bt u_ps u_tg u_sn u_ic u_wd u_id k51_wo u_va u_su u_st v_tp h_u_td i_161 i_162 i_163 i_164 i_165 i_166 h_u_la h_u_bk h_u_ce h_u_ho h_u_wy h_u_bt h_u_ps h_u_ic h_u_id (by omega)) (cwV 0 hts gV_X12_208 rfl rfl rfl hv_X12_next ⟨Nat.le_of_ble_eq_true rfl, Nat.le_of_ble_eq_true rfl⟩) (g5_preV hPc hK hDc hN hT hS hFc (ci := 12) (q0 := 0) rfl rfl) rfl rfl hl.1 rfl (lv_room (Nat.le_of_ble_eq_true rfl)) dX12_law_68 ⟨Nat.le_of_ble_eq_true rfl, Nat.le_of_ble_eq_true rfl⟩) hS (fun q _ h => hFc q h) hFc (fun u t H locs ht hvm hw hB hz1 hk1 hS => ?_)
            obtain ⟨hP1, hD1⟩ := hB
            have hP1 := g5_ht ht hP1
            obtain ⟨z191, z192, z193, z194, (i_186 : 0 ≤ z191.toInt ∧ z191.toInt ≤ 400), (i_187 : 0 ≤ z192.toInt ∧ z192.toInt ≤ 400), (i_188 : k51_to.toInt ≤ z191.toInt ∧ z191.toInt ≤ z192.toInt ∧ z192.toInt ≤ u_td.toInt), (i_189 : TKs z193.toInt z191.toInt z192.toInt), (i_190 : TOKA v_tp u_td.toInt.toNat (skT v_tp u_td.toInt.toNat k51_to.toInt.toNat) z191 z192 z193 z194), rfl⟩ := hw
            have hJ9 := va_join (wr := [(b_rf, (arI G 7 v_rf)), (b_ro, (arI G 5740 v_ro)), (b_nl, (arI G 96 k51_nl)), (b_op, (arI G 400 k51_op)), (b_ar, (arI G 400 k51_ar)), (b_pi, (arI G 400 k51_pi)), (b_pa, (arI G 400 k51_pa)), (b_ws, (arJ G 8 v_ws)), (b_hw, (arJ G 4 v_hw))]) hP hD [10, 2] [0, 1, 3, 4, 5, 6, 7, 8, 9] rfl rfl (by decide +kernel) (by decide +kernel) hk1 hFc hP1 hD1
            clear hP hD hPc hDc hFc ht hvm hz1 hk1 hP1 hD1
            obtain ⟨hP, hD⟩ := hJ9
            refine g5_rs [(b_rf, (arI G 7 v_rf)), (b_ro, (arI G 5740 v_ro)), (b_nl, (arI G 96 k51_nl)), (b_op, (arI G 400 k51_op)), (b_ar, (arI G 400 k51_ar)), (b_pi, (arI G 400 k51_pi)), (b_pa, (arI G 400 k51_pa)), (b_ws, (arJ G 8 v_ws)), (b_hw, (arJ G 4 v_hw)), (b_o, (oc12 0 u_sa b_rf b_ro b_im b_ke u_fd b_tp u_td z191 z192 z193 z194 k51_fa k51_bd k51_nc b_nl k51_co b_op b_ar k51_le b_pi b_pa k51_pd k51_od b_ws b_hw u_la b_se b_re u_bk u_va u_su u_ce u_ho u_wy u_bt u_ps b_pt u_tg u_sn b_ip u_ic b_ah b_be b_me u_wd b_tr b_ld u_st b_wn u_id)), (b_tp, (arI G 400 v_tp))] hP hD ?_
            clear hP hD
            intro hP hD
            have hE_195 : LWJ k51_nl k51_op k51_ar k51_nc.toInt k51_co.toInt := i_167 (by omega)
            have hE_196 : TOKA v_tp u_td.toInt.toNat (pT v_tp u_td.toInt.toNat (kk + 1)) z191 z192 z193 z194 := toka_nx hTk i_190
            refine lv_aload_n hx hb dX12_law_71 rfl (lv_at hl 0 rfl) ?_
            obtain ⟨hPc, hDc, hFc⟩ := g5_sub3 (wc := [(b_o, (oc12 0 u_sa b_rf b_ro b_im b_ke u_fd b_tp u_td z191 z192 z193 z194 k51_fa k51_bd k51_nc b_nl k51_co b_op b_ar k51_le b_pi b_pa k51_pd k51_od b_ws b_hw u_la b_se b_re u_bk u_va u_su u_ce u_ho u_wy u_bt u_ps b_pt u_tg u_sn b_ip u_ic b_ah b_be b_me u_wd b_tr b_ld u_st b_wn u_id)), (b_tp, (arI G 400 v_tp)), (b_nl, (arI G 96 k51_nl)), (b_op, (arI G 400 k51_op)), (b_ar, (arI G 400 k51_ar)), (b_pi, (arI G 400 k51_pi)), (b_pa, (arI G 400 k51_pa)), (b_ws, (arJ G 8 v_ws)), (b_hw, (arJ G 4 v_hw))]) hP hD hS hA [9, 10, 2, 3, 4, 5, 6, 7, 8] (by decide +kernel) rfl
            refine va_callv (va_runV (As := []) (rest := []) ⟨hx, hb, hml, hown, hts⟩ (n_readClauseX l G b_o b_tp b_nl b_op b_ar b_pi b_pa b_ws b_hw b_rf b_ro b_im b_ke b_se b_re b_pt b_ip b_ah b_be b_me b_tr b_ld b_wn H.size 0 u_sa u_fd u_td z191 z192 z193 k51_fa k51_bd k51_nc k51_co k51_le k51_pd k51_od u_la u_bk u_ce u_ho u_wy u_bt u_ps u_tg u_sn u_ic u_wd u_id z194 u_va u_su u_st v_tp k51_nl k51_op k51_ar k51_pi k51_pa v_ws v_hw (kk + 1) h_u_td i_186 i_187 ⟨by omega, by omega⟩ i_164 i_165 i_166 h_u_la h_u_bk h_u_ce h_u_ho h_u_wy h_u_bt h_u_ps h_u_ic h_u_id (by omega) (i_189) (by omega) (hE_195) (e_tp) (e_ws) (hE_196) (i_171) (by omega) (by omega) (by omega)) (cwV 0 hts gV_X12_323 rfl rfl rfl hv_X12_readClause ⟨Nat.le_of_ble_eq_true rfl, Nat.le_of_ble_eq_true rfl⟩) (g5_preV hPc hK hDc hN hT hS hFc (ci := 12) (q0 := 0) rfl rfl) rfl rfl hl.1 rfl (lv_room (Nat.le_of_ble_eq_true rfl)) dX12_law_72 ⟨Nat.le_of_ble_eq_true rfl, Nat.le_of_ble_eq_true rfl⟩) hS (fun q _ h => hFc q h) hFc (fun u t H locs ht hvm hw hB hz1 hk1 hS => ?_)
            obtain ⟨hP1, hD1⟩ := hB
            have hP1 := g5_ht ht hP1
            rcases hw with ⟨(i_197 : CLX v_tp u_td k51_nc k51_co k51_le (kk + 1) (1 : Int32) z191 z192 z193 z194 k51_op k51_ar k51_nl k51_co k51_le), rfl⟩ | ⟨z215, z216, z217, z218, z219, z220, z221, z222, z223, z224, z225, z226, z227, z228, z229, z230, (i_198 : 0 ≤ z215.toInt ∧ z215.toInt ≤ 400), (i_199 : 0 ≤ z216.toInt ∧ z216.toInt ≤ 400), (i_200 : 0 ≤ z220.toInt ∧ z220.toInt ≤ 1), (i_201 : 0 ≤ z221.toInt ∧ z221.toInt ≤ 12), (i_202 : 0 ≤ z222.toInt ∧ z222.toInt ≤ 400), (i_203 : 0 ≤ z224.toInt ∧ z224.toInt ≤ 400), (i_204 : z191.toInt ≤ z215.toInt ∧ z215.toInt ≤ z216.toInt ∧ z216.toInt ≤ u_td.toInt), (i_205 : TKs z217.toInt z215.toInt z216.toInt), (i_206 : z222.toInt ≤ z215.toInt), (i_207 : z220.toInt = 0 → LWJ z226 z227 z228 z221.toInt z222.toInt), (i_208 : CLX v_tp u_td k51_nc k51_co k51_le (kk + 1) z220 z215 z216 z217 z218 z227 z228 z226 z222 z223), (i_209 : z220.toInt = 1 → z219 = z215), (i_210 : z220.toInt = 0 → z219 = k51_fa), (i_211 : 0 ≤ z223.toInt ∧ z223.toInt ≤ 50), (i_212 : z221.toInt = k51_nc.toInt + 1), (i_213 : KP k51_op k51_ar z227 z228 k51_co.toInt), (i_214 : ∀ j : Nat, (j : Int) < 8 * k51_nc.toInt → z226 j = k51_nl j), rfl⟩
            ·
              have hJ9 := va_join (wr := [(b_rf, (arI G 7 v_rf)), (b_ro, (arI G 5740 v_ro))]) hP hD [9, 10, 2, 3, 4, 5, 6, 7, 8] [0, 1] rfl rfl (by decide +kernel) (by decide +kernel) hk1 hFc hP1 hD1
              clear hP hD hPc hDc hFc ht hvm hz1 hk1 hP1 hD1
              obtain ⟨hP, hD⟩ := hJ9
              refine g5_rs [(b_rf, (arI G 7 v_rf)), (b_ro, (arI G 5740 v_ro)), (b_o, (oc12 0 u_sa b_rf b_ro b_im b_ke u_fd b_tp u_td z191 z192 z193 z194 z191 1 k51_nc b_nl k51_co b_op b_ar k51_le b_pi b_pa k51_pd k51_od b_ws b_hw u_la b_se b_re u_bk u_va u_su u_ce u_ho u_wy u_bt u_ps b_pt u_tg u_sn b_ip u_ic b_ah b_be b_me u_wd b_tr b_ld u_st b_wn u_id)), (b_tp, (arI G 400 v_tp)), (b_nl, (arI G 96 k51_nl)), (b_op, (arI G 400 k51_op)), (b_ar, (arI G 400 k51_ar)), (b_pi, (arI G 400 k51_pi)), (b_pa, (arI G 400 k51_pa)), (b_ws, (arJ G 8 v_ws)), (b_hw, (arJ G 4 v_hw))] hP hD ?_
              clear hP hD
              intro hP hD
              refine lv_goto (tgt := 51) hx hb dX12_law_75 (by decide +kernel) ?_
              exact ih_51_175 (z191, z192, z193, z194, z191, 1, k51_nc, k51_co, k51_le, k51_pd, k51_od, k51_nl, k51_op, k51_ar, k51_pi, k51_pa) ls H locs (show Int.toNat (400 - z191.toInt) < Int.toNat (400 - k51_fr.toInt) from g_up (show k51_fr.toInt < z191.toInt by omega) (show k51_fr.toInt < 400 by omega)) ⟨lv_sub hl [0] rfl, hP, hD, hS, i_186, i_187, ⟨by decide, by decide⟩, i_164, i_165, i_166, fun q9 => absurd q9 (by decide +kernel), by omega, i_189, by omega, i_171, fun _ => rfl, fun q9 => absurd q9 (by decide +kernel), lxs_S hLB (i_167 (by omega)) hK59 (by first | exact fun q9 => absurd q9 (by decide +kernel) | exact fun _ => by omega) (by first | decide | omega) i_197 (fun _ _ => rfl) kp_rf⟩
            ·
              have hJ9 := va_join (wr := [(b_rf, (arI G 7 v_rf)), (b_ro, (arI G 5740 v_ro))]) hP hD [9, 10, 2, 3, 4, 5, 6, 7, 8] [0, 1] rfl rfl (by decide +kernel) (by decide +kernel) hk1 hFc hP1 hD1
              clear hP hD hPc hDc hFc ht hvm hz1 hk1 hP1 hD1
              obtain ⟨hP, hD⟩ := hJ9
              refine g5_rs [(b_rf, (arI G 7 v_rf)), (b_ro, (arI G 5740 v_ro)), (b_o, (oc12 0 u_sa b_rf b_ro b_im b_ke u_fd b_tp u_td z215 z216 z217 z218 z219 z220 z221 b_nl z222 b_op b_ar z223 b_pi b_pa z224 z225 b_ws b_hw u_la b_se b_re u_bk u_va u_su u_ce u_ho u_wy u_bt u_ps b_pt u_tg u_sn b_ip u_ic b_ah b_be b_me u_wd b_tr b_ld u_st b_wn u_id)), (b_tp, (arI G 400 v_tp)), (b_nl, (arI G 96 z226)), (b_op, (arI G 400 z227)), (b_ar, (arI G 400 z228)), (b_pi, (arI G 400 z229)), (b_pa, (arI G 400 z230)), (b_ws, (arJ G 8 v_ws)), (b_hw, (arJ G 4 v_hw))] hP hD ?_
              clear hP hD
              intro hP hD
              refine lv_goto (tgt := 51) hx hb dX12_law_75 (by decide +kernel) ?_
              exact ih_51_175 (z215, z216, z217, z218, z219, z220, z221, z222, z223, z224, z225, z226, z227, z228, z229, z230) ls H locs (show Int.toNat (400 - z215.toInt) < Int.toNat (400 - k51_fr.toInt) from g_up (show k51_fr.toInt < z215.toInt by omega) (show k51_fr.toInt < 400 by omega)) ⟨lv_sub hl [0] rfl, hP, hD, hS, i_198, i_199, i_200, i_201, i_202, i_203, i_207, by omega, i_205, by omega, i_211, i_209, fun q9 => by rw [i_210 q9]; exact i_173 (by omega), lxs_S hLB (i_167 (by omega)) hK59 (by first | exact fun q9 => absurd q9 (by decide +kernel) | exact fun _ => by omega) (by first | decide | omega) i_208 i_214 i_213⟩
        ·
          have hJ9 := va_join (wr := [(b_rf, (arI G 7 v_rf)), (b_ro, (arI G 5740 v_ro)), (b_tp, (arI G 400 v_tp)), (b_nl, (arI G 96 k51_nl)), (b_op, (arI G 400 k51_op)), (b_ar, (arI G 400 k51_ar)), (b_pi, (arI G 400 k51_pi)), (b_pa, (arI G 400 k51_pa)), (b_ws, (arJ G 8 v_ws)), (b_hw, (arJ G 4 v_hw))]) hP hD [2] [0, 1, 3, 4, 5, 6, 7, 8, 9, 10] rfl rfl (by decide +kernel) (by decide +kernel) hk1 hFc hP1 hD1
          clear hP hD hPc hDc hFc ht hvm hz1 hk1 hP1 hD1
          obtain ⟨hP, hD⟩ := hJ9
          refine g5_rs [(b_rf, (arI G 7 v_rf)), (b_ro, (arI G 5740 v_ro)), (b_tp, (arI G 400 v_tp)), (b_nl, (arI G 96 k51_nl)), (b_op, (arI G 400 k51_op)), (b_ar, (arI G 400 k51_ar)), (b_pi, (arI G 400 k51_pi)), (b_pa, (arI G 400 k51_pa)), (b_ws, (arJ G 8 v_ws)), (b_hw, (arJ G 4 v_hw)), (b_o, (oc12 0 u_sa b_rf b_ro b_im b_ke u_fd b_tp u_td k51_fr k51_to k51_so k51_wo k51_fa k51_bd k51_nc b_nl k51_co b_op b_ar k51_le b_pi b_pa k51_pd k51_od b_ws b_hw u_la b_se b_re u_bk u_va u_su u_ce u_ho u_wy u_bt u_ps b_pt u_tg u_sn b_ip u_ic b_ah b_be b_me u_wd b_tr b_ld u_st b_wn u_id))] hP hD ?_
          clear hP hD
          intro hP hD
          refine lv_if_eq (tgt := 78) hx hb dX12_law_64 (by decide +kernel) (fun c_231 => ?_) (fun c_231 => ?_)
          ·
            refine lv_aload_n hx hb dX12_law_78 rfl (lv_at hl 0 rfl) ?_
            refine va_get (D := G.1) (ci := 12) (v := .int k51_bd) (C := RX12) (T := TX12) (N := 52) hx hb hts inG_X12 hown hK hP 10 rfl rfl 14 (by decide +kernel) (hts _ fl_X12_205) (fun _ h9 => h9) rfl dX12_law_79 ?_
            refine lv_if_ne (tgt := 97) hx hb dX12_law_82 (by decide +kernel) (fun c_232 => ?_) (fun c_232 => ?_)
            ·
              have i_232 : k51_bd.toInt ≠ 0 := g5_ne (a := k51_bd.toInt) (b := 0) rfl (by decide +kernel) c_232
              omega
            ·
              have i_232 : k51_bd.toInt = 0 := g5_neN (a := k51_bd.toInt) (b := 0) rfl (by decide +kernel) c_232
              refine lv_aload_n hx hb dX12_law_85 rfl (lv_at hl 0 rfl) ?_
              refine va_get (D := G.1) (ci := 12) (v := .int k51_so) (C := RX12) (T := TX12) (N := 52) hx hb hts inG_X12 hown hK hP 10 rfl rfl 11 (by decide +kernel) (hts _ fl_X12_224) (fun _ h9 => h9) rfl dX12_law_86 ?_
              refine lv_if_eq (tgt := 97) hx hb dX12_law_89 (by decide +kernel) (fun c_233 => ?_) (fun c_233 => ?_)
              ·
                have i_233 : k51_so.toInt = 0 := g5_eq (a := k51_so.toInt) (b := 0) rfl (by decide +kernel) c_233
                refine lv_aload_n hx hb dX12_law_97 rfl (lv_at hl 0 rfl) ?_
                refine lv_iconst (v := 0) hx hb dX12_law_98 (by decide +kernel) ?_
                refine va_put (D := G.1) (ci := 12) (v := .int 0) (ty := .int) (C := RX12) (T := TX12) (N := 52) hx hb hts inG_X12 tyX12 tyX12_ok nmX12 hown hK hP hD hS 10 rfl rfl 8 (by decide +kernel) (hts _ fl_X12_192) (fun _ h9 => h9) rfl (by decide +kernel) rfl rfl (Nat.le_of_ble_eq_true rfl) dX12_law_99 ?_
                clear hP hD hS
                intro H locs hP hD hS
                refine g5_rs [(b_rf, (arI G 7 v_rf)), (b_ro, (arI G 5740 v_ro)), (b_tp, (arI G 400 v_tp)), (b_nl, (arI G 96 k51_nl)), (b_op, (arI G 400 k51_op)), (b_ar, (arI G 400 k51_ar)), (b_pi, (arI G 400 k51_pi)), (b_pa, (arI G 400 k51_pa)), (b_ws, (arJ G 8 v_ws)), (b_hw, (arJ G 4 v_hw)), (b_o, (oc12 0 u_sa b_rf b_ro b_im b_ke u_fd b_tp 0 k51_fr k51_to k51_so k51_wo k51_fa k51_bd k51_nc b_nl k51_co b_op b_ar k51_le b_pi b_pa k51_pd k51_od b_ws b_hw u_la b_se b_re u_bk u_va u_su u_ce u_ho u_wy u_bt u_ps b_pt u_tg u_sn b_ip u_ic b_ah b_be b_me u_wd b_tr b_ld u_st b_wn u_id))] hP hD ?_
                clear hP hD
                intro hP hD
                refine lv_aload_n hx hb dX12_law_102 rfl (lv_at hl 0 rfl) ?_
                refine W.eq (g2 := F0 m 103 ls [.ref b_o]) rfl ?_
                refine va_get (D := G.1) (ci := 12) (v := .int k51_bd) (C := RX12) (T := TX12) (N := 52) hx hb hts inG_X12 hown hK hP 10 rfl rfl 14 (by decide +kernel) (hts _ fl_X12_205) (fun _ h9 => h9) rfl dX12_law_103 ?_
                refine lv_if_eq (tgt := 116) hx hb dX12_law_106 (by decide +kernel) (fun c_234 => ?_) (fun c_234 => ?_)
                ·
                  have i_234 : k51_bd.toInt = 0 := g5_eq (a := k51_bd.toInt) (b := 0) rfl (by decide +kernel) c_234
                  obtain ⟨kk, hLB, hTk, hk1, hk2⟩ := lxs_k i_174 (by omega)
                  obtain ⟨LL, hL1, hL2, hL3⟩ := lxs_end hLB ((tk_end e_tp hTk).mpr (by omega))
                  have hFA := i_173 (by omega)
                  refine lv_sipush (v := 340) hx hb dX12_law_116 (by decide +kernel) ?_
                  refine lv_sipush (v := 900) hx hb dX12_law_119 (by decide +kernel) ?_
                  refine lv_aload_n hx hb dX12_law_122 rfl (lv_at hl 0 rfl) ?_
                  refine va_get (D := G.1) (ci := 12) (v := .ref b_ro) (C := RX12) (T := TX12) (N := 52) hx hb hts inG_X12 hown hK hP 10 rfl rfl 3 (by decide +kernel) (hts _ fl_X12_13) (fun _ h9 => h9) rfl dX12_law_123 ?_
                  refine W.eq (g2 := F0 m 126 ls [.ref b_ro, .int 900, .int 340]) rfl ?_
                  refine lv_iconst (v := 2) hx hb dX12_law_126 (by decide +kernel) ?_
                  refine va_iald hx hb hK hP 1 0 rfl rfl (i := 2) (by unfold vp_in; decide) dX12_law_127 ?_
                  refine g5_ti (v := (v_ro 2)) rfl ?_
                  have hr_235 : 0 ≤ (v_ro 2).toInt ∧ (v_ro 2).toInt ≤ 6 := mi_2 r_ro
                  refine lv_imul hx hb dX12_law_128 ?_
                  have t_236 : (900 * (v_ro 2)).toInt = 900 * (v_ro 2).toInt := g5_imul (a := 900) (b := (v_ro 2).toInt) (by decide +kernel) (by rfl) (by omega) (by omega)
                  refine lv_iadd hx hb dX12_law_129 ?_
                  have t_237 : (340 + (900 * (v_ro 2))).toInt = 340 + (900 * (v_ro 2)).toInt := g5_iadd (a := 340) (b := (900 * (v_ro 2)).toInt) (by decide +kernel) (by rfl) (by omega) (by omega)
                  refine lv_istore_n (lv' := [(1, .int (340 + (900 * (v_ro 2)))), (0, .ref b_o)]) hx hb dX12_law_130 rfl hl (by decide +kernel) rfl ?_
                  clear hl
                  intro ls hl
                  refine W.eq (g2 := F0 m 131 ls []) rfl ?_
                  refine lv_aload_n hx hb dX12_law_131 rfl (lv_at hl 1 rfl) ?_
                  refine va_get (D := G.1) (ci := 12) (v := .ref b_ro) (C := RX12) (T := TX12) (N := 52) hx hb hts inG_X12 hown hK hP 10 rfl rfl 3 (by decide +kernel) (hts _ fl_X12_13) (fun _ h9 => h9) rfl dX12_law_132 ?_
                  refine lv_iload_n hx hb dX12_law_135 rfl (lv_at hl 0 rfl) ?_
                  refine lv_iconst (v := 1) hx hb dX12_law_136 (by decide +kernel) ?_
                  refine lv_iadd hx hb dX12_law_137 ?_
                  have t_238 : ((340 + (900 * (v_ro 2))) + 1).toInt = (340 + (900 * (v_ro 2))).toInt + 1 := g5_iadd (a := (340 + (900 * (v_ro 2))).toInt) (b := 1) (by rfl) (by decide +kernel) (by omega) (by omega)
                  refine W.eq (g2 := F0 m 138 ls [.int ((340 + (900 * (v_ro 2))) + 1), .ref b_ro]) rfl ?_
                  refine lv_aload_n hx hb dX12_law_138 rfl (lv_at hl 1 rfl) ?_
                  refine va_get (D := G.1) (ci := 12) (v := .int k51_nc) (C := RX12) (T := TX12) (N := 52) hx hb hts inG_X12 hown hK hP 10 rfl rfl 15 (by decide +kernel) (hts _ fl_X12_312) (fun _ h9 => h9) rfl dX12_law_139 ?_
                  refine va_iast hx hb hK hP hD hS 1 0 rfl rfl (i := ((340 + (900 * (v_ro 2))) + 1)) (x := k51_nc) (vp_in_iff.mpr ⟨by omega, by omega⟩) dX12_law_142 ?_
                  clear hP hD hS
                  intro H locs hP hD hS
                  refine g5_rs [(b_rf, (arI G 7 v_rf)), (b_ro, (arI G 5740 (upd v_ro ((340 + (900 * (v_ro 2))) + 1).toNatClampNeg k51_nc))), (b_tp, (arI G 400 v_tp)), (b_nl, (arI G 96 k51_nl)), (b_op, (arI G 400 k51_op)), (b_ar, (arI G 400 k51_ar)), (b_pi, (arI G 400 k51_pi)), (b_pa, (arI G 400 k51_pa)), (b_ws, (arJ G 8 v_ws)), (b_hw, (arJ G 4 v_hw)), (b_o, (oc12 0 u_sa b_rf b_ro b_im b_ke u_fd b_tp 0 k51_fr k51_to k51_so k51_wo k51_fa k51_bd k51_nc b_nl k51_co b_op b_ar k51_le b_pi b_pa k51_pd k51_od b_ws b_hw u_la b_se b_re u_bk u_va u_su u_ce u_ho u_wy u_bt u_ps b_pt u_tg u_sn b_ip u_ic b_ah b_be b_me u_wd b_tr b_ld u_st b_wn u_id))] hP hD ?_
                  clear hP hD
                  intro hP hD
                  refine lv_iconst (v := 0) hx hb dX12_law_143 (by decide +kernel) ?_
                  refine lv_istore_n (lv' := [(2, .int 0), (1, .int (340 + (900 * (v_ro 2)))), (0, .ref b_o)]) hx hb dX12_law_144 rfl hl (by decide +kernel) rfl ?_
                  clear hl
                  intro ls hl
                  refine g5_loop (α := (Int32) × (Nat → Int32)) (fun (q : (Int32) × (Nat → Int32)) (ls : Array Slot) (H : Heap) (locs : List Loc) => match q with | (k145_2, k145_ro) => lv_has ls 3 [(2, .int k145_2), (1, .int (340 + (900 * (v_ro 2)))), (0, .ref b_o)] ∧ va_P G.1 vwCl [(b_rf, (arI G 7 v_rf)), (b_ro, (arI G 5740 k145_ro)), (b_tp, (arI G 400 v_tp)), (b_nl, (arI G 96 k51_nl)), (b_op, (arI G 400 k51_op)), (b_ar, (arI G 400 k51_ar)), (b_pi, (arI G 400 k51_pi)), (b_pa, (arI G 400 k51_pa)), (b_ws, (arJ G 8 v_ws)), (b_hw, (arJ G 4 v_hw)), (b_o, (oc12 0 u_sa b_rf b_ro b_im b_ke u_fd b_tp 0 k51_fr k51_to k51_so k51_wo k51_fa k51_bd k51_nc b_nl k51_co b_op b_ar k51_le b_pi b_pa k51_pd k51_od b_ws b_hw u_la b_se b_re u_bk u_va u_su u_ce u_ho u_wy u_bt u_ps b_pt u_tg u_sn b_ip u_ic b_ah b_be b_me u_wd b_tr b_ld u_st b_wn u_id))] H ∧ va_D A [(b_rf, (arI G 7 v_rf)), (b_ro, (arI G 5740 k145_ro)), (b_tp, (arI G 400 v_tp)), (b_nl, (arI G 96 k51_nl)), (b_op, (arI G 400 k51_op)), (b_ar, (arI G 400 k51_ar)), (b_pi, (arI G 400 k51_pi)), (b_pa, (arI G 400 k51_pa)), (b_ws, (arJ G 8 v_ws)), (b_hw, (arJ G 4 v_hw)), (b_o, (oc12 0 u_sa b_rf b_ro b_im b_ke u_fd b_tp 0 k51_fr k51_to k51_so k51_wo k51_fa k51_bd k51_nc b_nl k51_co b_op b_ar k51_le b_pi b_pa k51_pd k51_od b_ws b_hw u_la b_se b_re u_bk u_va u_su u_ce u_ho u_wy u_bt u_ps b_pt u_tg u_sn b_ip u_ic b_ah b_be b_me u_wd b_tr b_ld u_st b_wn u_id))] ∧ va_S A s.heap H locs ∧ (0 ≤ k145_2.toInt ∧ k145_2.toInt ≤ 96) ∧ (k145_2.toInt ≤ 8 * k51_nc.toInt) ∧ (∀ j : Nat, (j : Int) < k145_2.toInt → k145_ro ((340 + (900 * (v_ro 2))).toNatClampNeg + 2 + j) = k51_nl j) ∧ (∀ j : Nat, (j < (340 + (900 * (v_ro 2))).toNatClampNeg + 2 ∨ (340 + (900 * (v_ro 2))).toNatClampNeg + 98 ≤ j) → k145_ro j = (upd v_ro ((340 + (900 * (v_ro 2))) + 1).toNatClampNeg k51_nc) j)) (fun (q : (Int32) × (Nat → Int32)) => match q with | (k145_2, k145_ro) => Int.toNat (96 - k145_2.toInt)) (0, (upd v_ro ((340 + (900 * (v_ro 2))) + 1).toNatClampNeg k51_nc)) ⟨lv_sub hl [0, 1, 2] rfl, hP, hD, hS, ⟨by decide, by decide⟩, by have z : (0 : Int32).toInt = 0 := (by decide +kernel); omega, fun j h9 => absurd h9 (by have z : (0 : Int32).toInt = 0 := (by decide +kernel); omega), fun _ _ => rfl⟩ ?_
                  rintro ⟨k145_2, k145_ro⟩ ls H locs ⟨hl, hP, hD, hS, (i_239 : 0 ≤ k145_2.toInt ∧ k145_2.toInt ≤ 96), (i_240 : k145_2.toInt ≤ 8 * k51_nc.toInt), (i_241 : ∀ j : Nat, (j : Int) < k145_2.toInt → k145_ro ((340 + (900 * (v_ro 2))).toNatClampNeg + 2 + j) = k51_nl j), (i_242 : ∀ j : Nat, (j < (340 + (900 * (v_ro 2))).toNatClampNeg + 2 ∨ (340 + (900 * (v_ro 2))).toNatClampNeg + 98 ≤ j) → k145_ro j = (upd v_ro ((340 + (900 * (v_ro 2))) + 1).toNatClampNeg k51_nc) j)⟩ ih_145_243
                  replace hl : lv_has ls 3 [(2, .int k145_2), (1, .int (340 + (900 * (v_ro 2)))), (0, .ref b_o)] := hl
                  refine g5_rs [(b_rf, (arI G 7 v_rf)), (b_ro, (arI G 5740 k145_ro)), (b_tp, (arI G 400 v_tp)), (b_nl, (arI G 96 k51_nl)), (b_op, (arI G 400 k51_op)), (b_ar, (arI G 400 k51_ar)), (b_pi, (arI G 400 k51_pi)), (b_pa, (arI G 400 k51_pa)), (b_ws, (arJ G 8 v_ws)), (b_hw, (arJ G 4 v_hw)), (b_o, (oc12 0 u_sa b_rf b_ro b_im b_ke u_fd b_tp 0 k51_fr k51_to k51_so k51_wo k51_fa k51_bd k51_nc b_nl k51_co b_op b_ar k51_le b_pi b_pa k51_pd k51_od b_ws b_hw u_la b_se b_re u_bk u_va u_su u_ce u_ho u_wy u_bt u_ps b_pt u_tg u_sn b_ip u_ic b_ah b_be b_me u_wd b_tr b_ld u_st b_wn u_id))] hP hD ?_
                  clear hP hD
                  intro hP hD
                  refine lv_iload_n hx hb dX12_law_145 rfl (lv_at hl 0 rfl) ?_
                  refine lv_bipush (v := 8) hx hb dX12_law_146 (by decide +kernel) ?_
                  refine lv_aload_n hx hb dX12_law_148 rfl (lv_at hl 2 rfl) ?_
                  refine va_get (D := G.1) (ci := 12) (v := .int k51_nc) (C := RX12) (T := TX12) (N := 52) hx hb hts inG_X12 hown hK hP 10 rfl rfl 15 (by decide +kernel) (hts _ fl_X12_312) (fun _ h9 => h9) rfl dX12_law_149 ?_
                  refine W.eq (g2 := F0 m 152 ls [.int k51_nc, .int 8, .int k145_2]) rfl ?_
                  refine lv_imul hx hb dX12_law_152 ?_
                  have t_244 : (8 * k51_nc).toInt = 8 * k51_nc.toInt := g5_imul (a := 8) (b := k51_nc.toInt) (by decide +kernel) (by rfl) (by omega) (by omega)
                  refine lv_icmp_ge (tgt := 178) hx hb dX12_law_153 (by decide +kernel) (fun c_245 => ?_) (fun c_245 => ?_)
                  ·
                    have i_245 : k145_2.toInt ≥ (8 * k51_nc.toInt) := by have z := g5_ge (a := k145_2.toInt) (b := (8 * k51_nc).toInt) (by rfl) (by rfl) c_245; omega
                    refine lv_iconst (v := 0) hx hb dX12_law_178 (by decide +kernel) ?_
                    refine lv_istore_n (lv' := [(2, .int 0), (1, .int (340 + (900 * (v_ro 2)))), (0, .ref b_o)]) hx hb dX12_law_179 rfl hl (by decide +kernel) rfl ?_
                    clear hl
                    intro ls hl
                    refine g5_loop (α := (Int32) × (Nat → Int32)) (fun (q : (Int32) × (Nat → Int32)) (ls : Array Slot) (H : Heap) (locs : List Loc) => match q with | (k180_2, k180_ro) => lv_has ls 3 [(2, .int k180_2), (1, .int (340 + (900 * (v_ro 2)))), (0, .ref b_o)] ∧ va_P G.1 vwCl [(b_rf, (arI G 7 v_rf)), (b_ro, (arI G 5740 k180_ro)), (b_tp, (arI G 400 v_tp)), (b_nl, (arI G 96 k51_nl)), (b_op, (arI G 400 k51_op)), (b_ar, (arI G 400 k51_ar)), (b_pi, (arI G 400 k51_pi)), (b_pa, (arI G 400 k51_pa)), (b_ws, (arJ G 8 v_ws)), (b_hw, (arJ G 4 v_hw)), (b_o, (oc12 0 u_sa b_rf b_ro b_im b_ke u_fd b_tp 0 k51_fr k51_to k51_so k51_wo k51_fa k51_bd k51_nc b_nl k51_co b_op b_ar k51_le b_pi b_pa k51_pd k51_od b_ws b_hw u_la b_se b_re u_bk u_va u_su u_ce u_ho u_wy u_bt u_ps b_pt u_tg u_sn b_ip u_ic b_ah b_be b_me u_wd b_tr b_ld u_st b_wn u_id))] H ∧ va_D A [(b_rf, (arI G 7 v_rf)), (b_ro, (arI G 5740 k180_ro)), (b_tp, (arI G 400 v_tp)), (b_nl, (arI G 96 k51_nl)), (b_op, (arI G 400 k51_op)), (b_ar, (arI G 400 k51_ar)), (b_pi, (arI G 400 k51_pi)), (b_pa, (arI G 400 k51_pa)), (b_ws, (arJ G 8 v_ws)), (b_hw, (arJ G 4 v_hw)), (b_o, (oc12 0 u_sa b_rf b_ro b_im b_ke u_fd b_tp 0 k51_fr k51_to k51_so k51_wo k51_fa k51_bd k51_nc b_nl k51_co b_op b_ar k51_le b_pi b_pa k51_pd k51_od b_ws b_hw u_la b_se b_re u_bk u_va u_su u_ce u_ho u_wy u_bt u_ps b_pt u_tg u_sn b_ip u_ic b_ah b_be b_me u_wd b_tr b_ld u_st b_wn u_id))] ∧ va_S A s.heap H locs ∧ (0 ≤ k180_2.toInt ∧ k180_2.toInt ≤ 400) ∧ (k180_2.toInt ≤ k51_co.toInt) ∧ (∀ j : Nat, (j : Int) < k180_2.toInt → k180_ro ((340 + (900 * (v_ro 2))).toNatClampNeg + 98 + 2 * j) = k51_op j ∧ k180_ro ((340 + (900 * (v_ro 2))).toNatClampNeg + 98 + 2 * j + 1) = k51_ar j) ∧ (∀ j : Nat, (j < (340 + (900 * (v_ro 2))).toNatClampNeg + 98 ∨ (340 + (900 * (v_ro 2))).toNatClampNeg + 900 ≤ j) → k180_ro j = k145_ro j)) (fun (q : (Int32) × (Nat → Int32)) => match q with | (k180_2, k180_ro) => Int.toNat (400 - k180_2.toInt)) (0, k145_ro) ⟨lv_sub hl [0, 1, 2] rfl, hP, hD, hS, ⟨by decide, by decide⟩, by have z : (0 : Int32).toInt = 0 := (by decide +kernel); omega, fun j h9 => absurd h9 (by have z : (0 : Int32).toInt = 0 := (by decide +kernel); omega), fun _ _ => rfl⟩ ?_
                    rintro ⟨k180_2, k180_ro⟩ ls H locs ⟨hl, hP, hD, hS, (i_246 : 0 ≤ k180_2.toInt ∧ k180_2.toInt ≤ 400), (i_247 : k180_2.toInt ≤ k51_co.toInt), (i_248 : ∀ j : Nat, (j : Int) < k180_2.toInt → k180_ro ((340 + (900 * (v_ro 2))).toNatClampNeg + 98 + 2 * j) = k51_op j ∧ k180_ro ((340 + (900 * (v_ro 2))).toNatClampNeg + 98 + 2 * j + 1) = k51_ar j), (i_249 : ∀ j : Nat, (j < (340 + (900 * (v_ro 2))).toNatClampNeg + 98 ∨ (340 + (900 * (v_ro 2))).toNatClampNeg + 900 ≤ j) → k180_ro j = k145_ro j)⟩ ih_180_250
                    replace hl : lv_has ls 3 [(2, .int k180_2), (1, .int (340 + (900 * (v_ro 2)))), (0, .ref b_o)] := hl
                    refine g5_rs [(b_rf, (arI G 7 v_rf)), (b_ro, (arI G 5740 k180_ro)), (b_tp, (arI G 400 v_tp)), (b_nl, (arI G 96 k51_nl)), (b_op, (arI G 400 k51_op)), (b_ar, (arI G 400 k51_ar)), (b_pi, (arI G 400 k51_pi)), (b_pa, (arI G 400 k51_pa)), (b_ws, (arJ G 8 v_ws)), (b_hw, (arJ G 4 v_hw)), (b_o, (oc12 0 u_sa b_rf b_ro b_im b_ke u_fd b_tp 0 k51_fr k51_to k51_so k51_wo k51_fa k51_bd k51_nc b_nl k51_co b_op b_ar k51_le b_pi b_pa k51_pd k51_od b_ws b_hw u_la b_se b_re u_bk u_va u_su u_ce u_ho u_wy u_bt u_ps b_pt u_tg u_sn b_ip u_ic b_ah b_be b_me u_wd b_tr b_ld u_st b_wn u_id))] hP hD ?_
                    clear hP hD
                    intro hP hD
                    refine lv_iload_n hx hb dX12_law_180 rfl (lv_at hl 0 rfl) ?_
                    refine lv_aload_n hx hb dX12_law_181 rfl (lv_at hl 2 rfl) ?_
                    refine va_get (D := G.1) (ci := 12) (v := .int k51_co) (C := RX12) (T := TX12) (N := 52) hx hb hts inG_X12 hown hK hP 10 rfl rfl 17 (by decide +kernel) (hts _ fl_X12_237) (fun _ h9 => h9) rfl dX12_law_182 ?_
                    refine lv_icmp_ge (tgt := 234) hx hb dX12_law_185 (by decide +kernel) (fun c_251 => ?_) (fun c_251 => ?_)
                    ·
                      have i_251 : k180_2.toInt ≥ k51_co.toInt := g5_ge (a := k180_2.toInt) (b := k51_co.toInt) rfl rfl c_251
                      refine lv_aload_n hx hb dX12_law_234 rfl (lv_at hl 2 rfl) ?_
                      refine va_get (D := G.1) (ci := 12) (v := .ref b_ro) (C := RX12) (T := TX12) (N := 52) hx hb hts inG_X12 hown hK hP 10 rfl rfl 3 (by decide +kernel) (hts _ fl_X12_13) (fun _ h9 => h9) rfl dX12_law_235 ?_
                      refine lv_iconst (v := 2) hx hb dX12_law_238 (by decide +kernel) ?_
                      refine lv_dup2_11 hx hb dX12_law_239 rfl rfl ?_
                      refine W.eq (g2 := F0 m 240 ls [.int 2, .ref b_ro, .int 2, .ref b_ro]) rfl ?_
                      refine va_iald hx hb hK hP 1 0 rfl rfl (i := 2) (by unfold vp_in; decide) dX12_law_240 ?_
                      refine g5_ti (v := (k180_ro 2)) rfl ?_
                      have h29_252 : (k180_ro 2) = (v_ro 2) := by rw [i_249 2 (by have zz := g5_clamp (340 + (900 * (v_ro 2))); omega), i_242 2 (by have zz := g5_clamp (340 + (900 * (v_ro 2))); omega), upd_ne (by have zz := g5_clamp ((340 + (900 * (v_ro 2))) + 1); omega)]
                      refine g5_ti (v := (v_ro 2)) h29_252 ?_
                      refine lv_iconst (v := 1) hx hb dX12_law_241 (by decide +kernel) ?_
                      refine lv_iadd hx hb dX12_law_242 ?_
                      have t_253 : ((v_ro 2) + 1).toInt = (v_ro 2).toInt + 1 := g5_iadd (a := (v_ro 2).toInt) (b := 1) (by rfl) (by decide +kernel) (by omega) (by omega)
                      refine va_iast hx hb hK hP hD hS 1 0 rfl rfl (i := 2) (x := ((v_ro 2) + 1)) (by unfold vp_in; decide) dX12_law_243 ?_
                      clear hP hD hS
                      intro H locs hP hD hS
                      refine g5_rs [(b_rf, (arI G 7 v_rf)), (b_ro, (arI G 5740 (upd k180_ro 2 ((v_ro 2) + 1)))), (b_tp, (arI G 400 v_tp)), (b_nl, (arI G 96 k51_nl)), (b_op, (arI G 400 k51_op)), (b_ar, (arI G 400 k51_ar)), (b_pi, (arI G 400 k51_pi)), (b_pa, (arI G 400 k51_pa)), (b_ws, (arJ G 8 v_ws)), (b_hw, (arJ G 4 v_hw)), (b_o, (oc12 0 u_sa b_rf b_ro b_im b_ke u_fd b_tp 0 k51_fr k51_to k51_so k51_wo k51_fa k51_bd k51_nc b_nl k51_co b_op b_ar k51_le b_pi b_pa k51_pd k51_od b_ws b_hw u_la b_se b_re u_bk u_va u_su u_ce u_ho u_wy u_bt u_ps b_pt u_tg u_sn b_ip u_ic b_ah b_be b_me u_wd b_tr b_ld u_st b_wn u_id))] hP hD ?_
                      clear hP hD
                      intro hP hD
                      refine lv_aload_n hx hb dX12_law_244 rfl (lv_at hl 2 rfl) ?_
                      refine W.eq (g2 := F0 m 245 ls [.ref b_o]) rfl ?_
                      refine lv_aload_n hx hb dX12_law_245 rfl (lv_at hl 2 rfl) ?_
                      refine va_get (D := G.1) (ci := 12) (v := .ref b_ro) (C := RX12) (T := TX12) (N := 52) hx hb hts inG_X12 hown hK hP 10 rfl rfl 3 (by decide +kernel) (hts _ fl_X12_13) (fun _ h9 => h9) rfl dX12_law_246 ?_
                      refine lv_iconst (v := 2) hx hb dX12_law_249 (by decide +kernel) ?_
                      refine va_iald hx hb hK hP 1 0 rfl rfl (i := 2) (by unfold vp_in; decide) dX12_law_250 ?_
                      refine g5_ti (v := ((v_ro 2) + 1)) rfl ?_
                      refine lv_iconst (v := 1) hx hb dX12_law_251 (by decide +kernel) ?_
                      refine W.eq (g2 := F0 m 252 ls [.int 1, .int ((v_ro 2) + 1), .ref b_o]) rfl ?_
                      refine lv_isub hx hb dX12_law_252 ?_
                      have t_254 : (((v_ro 2) + 1) - 1).toInt = ((v_ro 2) + 1).toInt - 1 := g5_isub (a := ((v_ro 2) + 1).toInt) (b := 1) (by rfl) (by decide +kernel) (by omega) (by omega)
                      obtain ⟨hPc, hDc, hFc⟩ := g5_sub3 (wc := [(b_o, (oc12 0 u_sa b_rf b_ro b_im b_ke u_fd b_tp 0 k51_fr k51_to k51_so k51_wo k51_fa k51_bd k51_nc b_nl k51_co b_op b_ar k51_le b_pi b_pa k51_pd k51_od b_ws b_hw u_la b_se b_re u_bk u_va u_su u_ce u_ho u_wy u_bt u_ps b_pt u_tg u_sn b_ip u_ic b_ah b_be b_me u_wd b_tr b_ld u_st b_wn u_id)), (b_rf, (arI G 7 v_rf))]) hP hD hS hA [10, 0] (by decide +kernel) rfl
                      refine va_calli (va_runV (As := [.int (((v_ro 2) + 1) - 1)]) (rest := []) ⟨hx, hb, hml, hown, hts⟩ (n_tell l G b_o b_rf b_ro b_im b_ke b_tp b_nl b_op b_ar b_pi b_pa b_ws b_hw b_se b_re b_pt b_ip b_ah b_be b_me b_tr b_ld b_wn H.size 0 u_sa u_fd 0 k51_fr k51_to k51_so k51_fa k51_bd k51_nc k51_co k51_le k51_pd k51_od u_la u_bk u_ce u_ho u_wy u_bt u_ps u_tg u_sn u_ic u_wd u_id (((v_ro 2) + 1) - 1) k51_wo u_va u_su u_st v_rf ⟨by decide, by decide⟩ i_161 i_162 i_163 i_164 i_165 i_166 h_u_la h_u_bk h_u_ce h_u_ho h_u_wy h_u_bt h_u_ps h_u_ic h_u_id ⟨by omega, by omega⟩) (cwV 1 hts gV_X12_125 rfl rfl rfl hv_X12_tell ⟨Nat.le_of_ble_eq_true rfl, Nat.le_of_ble_eq_true rfl⟩) (g5_preV hPc hK hDc hN hT hS hFc (ci := 12) (q0 := 0) rfl rfl) rfl rfl hl.1 rfl (lv_room (Nat.le_of_ble_eq_true rfl)) dX12_law_253 ⟨Nat.le_of_ble_eq_true rfl, Nat.le_of_ble_eq_true rfl⟩) hS (fun q _ h => hFc q h) hFc (fun r u t H locs ht hvm hw hB hz1 hk1 hS => ?_)
                      obtain ⟨hP1, hD1⟩ := hB
                      have hP1 := g5_ht ht hP1
                      obtain ⟨z256, z257, z258, (i_255 : 0 ≤ z257.toInt ∧ z257.toInt ≤ 1), rfl, rfl⟩ := hw
                      have hJ9 := va_join (wr := [(b_ro, (arI G 5740 (upd k180_ro 2 ((v_ro 2) + 1)))), (b_tp, (arI G 400 v_tp)), (b_nl, (arI G 96 k51_nl)), (b_op, (arI G 400 k51_op)), (b_ar, (arI G 400 k51_ar)), (b_pi, (arI G 400 k51_pi)), (b_pa, (arI G 400 k51_pa)), (b_ws, (arJ G 8 v_ws)), (b_hw, (arJ G 4 v_hw))]) hP hD [10, 0] [1, 2, 3, 4, 5, 6, 7, 8, 9] rfl rfl (by decide +kernel) (by decide +kernel) hk1 hFc hP1 hD1
                      clear hP hD hPc hDc hFc ht hvm hz1 hk1 hP1 hD1
                      obtain ⟨hP, hD⟩ := hJ9
                      refine g5_rs [(b_ro, (arI G 5740 (upd k180_ro 2 ((v_ro 2) + 1)))), (b_tp, (arI G 400 v_tp)), (b_nl, (arI G 96 k51_nl)), (b_op, (arI G 400 k51_op)), (b_ar, (arI G 400 k51_ar)), (b_pi, (arI G 400 k51_pi)), (b_pa, (arI G 400 k51_pa)), (b_ws, (arJ G 8 v_ws)), (b_hw, (arJ G 4 v_hw)), (b_o, (oc12 0 z256 b_rf b_ro b_im b_ke u_fd b_tp 0 k51_fr k51_to k51_so k51_wo k51_fa k51_bd k51_nc b_nl k51_co b_op b_ar k51_le b_pi b_pa k51_pd k51_od b_ws b_hw u_la b_se b_re u_bk u_va u_su u_ce u_ho u_wy u_bt u_ps b_pt u_tg u_sn b_ip z257 b_ah b_be b_me u_wd b_tr b_ld u_st b_wn u_id)), (b_rf, (arI G 7 z258))] hP hD ?_
                      clear hP hD
                      intro hP hD
                      exact W.iret (v := (((v_ro 2) + 1) - 1)) hx hb hr (fun t ht hW => ⟨⟨(((v_ro 2) + 1) - 1), [(b_o, (oc12 0 z256 b_rf b_ro b_im b_ke u_fd b_tp 0 k51_fr k51_to k51_so k51_wo k51_fa k51_bd k51_nc b_nl k51_co b_op b_ar k51_le b_pi b_pa k51_pd k51_od b_ws b_hw u_la b_se b_re u_bk u_va u_su u_ce u_ho u_wy u_bt u_ps b_pt u_tg u_sn b_ip z257 b_ah b_be b_me u_wd b_tr b_ld u_st b_wn u_id)), (b_rf, (arI G 7 z258)), (b_ro, (arI G 5740 (upd k180_ro 2 ((v_ro 2) + 1)))), (b_tp, (arI G 400 v_tp)), (b_nl, (arI G 96 k51_nl)), (b_op, (arI G 400 k51_op)), (b_ar, (arI G 400 k51_ar)), (b_pi, (arI G 400 k51_pi)), (b_pa, (arI G 400 k51_pa)), (b_ws, (arJ G 8 v_ws)), (b_hw, (arJ G 4 v_hw))], rfl, ⟨(((v_ro 2) + 1) - 1), 0, z256, 0, k51_fr, k51_to, k51_so, k51_wo, k51_fa, k51_bd, k51_nc, k51_co, k51_le, k51_pd, k51_od, z257, z258, (upd k180_ro 2 ((v_ro 2) + 1)), k51_nl, k51_op, k51_ar, k51_pi, k51_pa, ⟨by have zc_o_td : (0 : Int32).toInt = 0 := (by decide +kernel); omega, by have zc_o_td : (0 : Int32).toInt = 0 := (by decide +kernel); omega⟩, i_161, i_162, i_163, i_164, i_165, i_166, i_255, mi_law r_ro (by omega) (by omega) (by omega) rfl ⟨by omega, by omega⟩ ⟨by omega, by omega⟩ i_241 i_242 (by omega) i_248 i_249 (by omega) (i_167 (by omega)) (by omega), by decide, fun j h1 h2 => by rw [upd_ne h2, i_249 j (by have zz := g5_clamp (340 + (900 * (v_ro 2))); omega), i_242 j (by have zz := g5_clamp (340 + (900 * (v_ro 2))); omega), upd_ne (by have zz := g5_clamp ((340 + (900 * (v_ro 2))) + 1); omega)], fun j h1 h2 => by rw [upd_ne (show j ≠ 2 by omega), i_249 j (by have zz := g5_clamp (340 + (900 * (v_ro 2))); omega), i_242 j (by have zz := g5_clamp (340 + (900 * (v_ro 2))); omega), upd_ne (by have zz := g5_clamp ((340 + (900 * (v_ro 2))) + 1); omega)], Or.inr (Or.inr ⟨by omega, LL, hL1, by omega, hFA, by rw [upd_eq]; exact g5_iadd rfl (by decide +kernel) (by omega) (by omega), mlaw_of (f1 := v_ro) hL2 hL3 (by omega) (by omega) (by omega) i_241 i_242 i_248 i_249 (by omega) (by omega) rfl (i_167 (by omega)) (by omega)⟩), rfl, rfl⟩, by rw [ht]; exact hP.sub [9, 10, 0, 1, 2, 3, 4, 5, 6, 7, 8] rfl, hD.sub [9, 10, 0, 1, 2, 3, 4, 5, 6, 7, 8] (by decide +kernel) rfl⟩, hS.F ht⟩) hS.2.2 dX12_law_256
                    ·
                      have i_251 : k180_2.toInt < k51_co.toInt := g5_geN (a := k180_2.toInt) (b := k51_co.toInt) rfl rfl c_251
                      refine lv_aload_n hx hb dX12_law_188 rfl (lv_at hl 2 rfl) ?_
                      refine va_get (D := G.1) (ci := 12) (v := .ref b_ro) (C := RX12) (T := TX12) (N := 52) hx hb hts inG_X12 hown hK hP 10 rfl rfl 3 (by decide +kernel) (hts _ fl_X12_13) (fun _ h9 => h9) rfl dX12_law_189 ?_
                      refine lv_iload_n hx hb dX12_law_192 rfl (lv_at hl 1 rfl) ?_
                      refine lv_bipush (v := 98) hx hb dX12_law_193 (by decide +kernel) ?_
                      refine W.eq (g2 := F0 m 195 ls [.int 98, .int (340 + (900 * (v_ro 2))), .ref b_ro]) rfl ?_
                      refine lv_iadd hx hb dX12_law_195 ?_
                      have t_259 : ((340 + (900 * (v_ro 2))) + 98).toInt = (340 + (900 * (v_ro 2))).toInt + 98 := g5_iadd (a := (340 + (900 * (v_ro 2))).toInt) (b := 98) (by rfl) (by decide +kernel) (by omega) (by omega)
                      refine lv_iconst (v := 2) hx hb dX12_law_196 (by decide +kernel) ?_
                      refine lv_iload_n hx hb dX12_law_197 rfl (lv_at hl 0 rfl) ?_
                      refine lv_imul hx hb dX12_law_198 ?_
                      have t_260 : (2 * k180_2).toInt = 2 * k180_2.toInt := g5_imul (a := 2) (b := k180_2.toInt) (by decide +kernel) (by rfl) (by omega) (by omega)
                      refine lv_iadd hx hb dX12_law_199 ?_
                      have t_261 : (((340 + (900 * (v_ro 2))) + 98) + (2 * k180_2)).toInt = ((340 + (900 * (v_ro 2))) + 98).toInt + (2 * k180_2).toInt := g5_iadd (a := ((340 + (900 * (v_ro 2))) + 98).toInt) (b := (2 * k180_2).toInt) (by rfl) (by rfl) (by omega) (by omega)
                      refine W.eq (g2 := F0 m 200 ls [.int (((340 + (900 * (v_ro 2))) + 98) + (2 * k180_2)), .ref b_ro]) rfl ?_
                      refine lv_aload_n hx hb dX12_law_200 rfl (lv_at hl 2 rfl) ?_
                      refine va_get (D := G.1) (ci := 12) (v := .ref b_op) (C := RX12) (T := TX12) (N := 52) hx hb hts inG_X12 hown hK hP 10 rfl rfl 18 (by decide +kernel) (hts _ fl_X12_33) (fun _ h9 => h9) rfl dX12_law_201 ?_
                      refine lv_iload_n hx hb dX12_law_204 rfl (lv_at hl 0 rfl) ?_
                      refine va_iald hx hb hK hP 4 0 rfl rfl (i := k180_2) (vp_in_iff.mpr ⟨by omega, by omega⟩) dX12_law_205 ?_
                      refine va_iast hx hb hK hP hD hS 1 0 rfl rfl (i := (((340 + (900 * (v_ro 2))) + 98) + (2 * k180_2))) (x := (k51_op k180_2.toNatClampNeg)) (vp_in_iff.mpr ⟨by omega, by omega⟩) dX12_law_206 ?_
                      clear hP hD hS
                      intro H locs hP hD hS
                      refine g5_rs [(b_rf, (arI G 7 v_rf)), (b_ro, (arI G 5740 (upd k180_ro (((340 + (900 * (v_ro 2))) + 98) + (2 * k180_2)).toNatClampNeg (k51_op k180_2.toNatClampNeg)))), (b_tp, (arI G 400 v_tp)), (b_nl, (arI G 96 k51_nl)), (b_op, (arI G 400 k51_op)), (b_ar, (arI G 400 k51_ar)), (b_pi, (arI G 400 k51_pi)), (b_pa, (arI G 400 k51_pa)), (b_ws, (arJ G 8 v_ws)), (b_hw, (arJ G 4 v_hw)), (b_o, (oc12 0 u_sa b_rf b_ro b_im b_ke u_fd b_tp 0 k51_fr k51_to k51_so k51_wo k51_fa k51_bd k51_nc b_nl k51_co b_op b_ar k51_le b_pi b_pa k51_pd k51_od b_ws b_hw u_la b_se b_re u_bk u_va u_su u_ce u_ho u_wy u_bt u_ps b_pt u_tg u_sn b_ip u_ic b_ah b_be b_me u_wd b_tr b_ld u_st b_wn u_id))] hP hD ?_
                      clear hP hD
                      intro hP hD
                      refine W.eq (g2 := F0 m 207 ls []) rfl ?_
                      refine lv_aload_n hx hb dX12_law_207 rfl (lv_at hl 2 rfl) ?_
                      refine va_get (D := G.1) (ci := 12) (v := .ref b_ro) (C := RX12) (T := TX12) (N := 52) hx hb hts inG_X12 hown hK hP 10 rfl rfl 3 (by decide +kernel) (hts _ fl_X12_13) (fun _ h9 => h9) rfl dX12_law_208 ?_
                      refine lv_iload_n hx hb dX12_law_211 rfl (lv_at hl 1 rfl) ?_
                      refine lv_bipush (v := 98) hx hb dX12_law_212 (by decide +kernel) ?_
                      refine lv_iadd hx hb dX12_law_214 ?_
                      have t_262 : ((340 + (900 * (v_ro 2))) + 98).toInt = (340 + (900 * (v_ro 2))).toInt + 98 := g5_iadd (a := (340 + (900 * (v_ro 2))).toInt) (b := 98) (by rfl) (by decide +kernel) (by omega) (by omega)
                      refine W.eq (g2 := F0 m 215 ls [.int ((340 + (900 * (v_ro 2))) + 98), .ref b_ro]) rfl ?_
                      refine lv_iconst (v := 2) hx hb dX12_law_215 (by decide +kernel) ?_
                      refine lv_iload_n hx hb dX12_law_216 rfl (lv_at hl 0 rfl) ?_
                      refine lv_imul hx hb dX12_law_217 ?_
                      have t_263 : (2 * k180_2).toInt = 2 * k180_2.toInt := g5_imul (a := 2) (b := k180_2.toInt) (by decide +kernel) (by rfl) (by omega) (by omega)
                      refine lv_iadd hx hb dX12_law_218 ?_
                      have t_264 : (((340 + (900 * (v_ro 2))) + 98) + (2 * k180_2)).toInt = ((340 + (900 * (v_ro 2))) + 98).toInt + (2 * k180_2).toInt := g5_iadd (a := ((340 + (900 * (v_ro 2))) + 98).toInt) (b := (2 * k180_2).toInt) (by rfl) (by rfl) (by omega) (by omega)
                      refine lv_iconst (v := 1) hx hb dX12_law_219 (by decide +kernel) ?_
                      refine W.eq (g2 := F0 m 220 ls [.int 1, .int (((340 + (900 * (v_ro 2))) + 98) + (2 * k180_2)), .ref b_ro]) rfl ?_
                      refine lv_iadd hx hb dX12_law_220 ?_
                      have t_265 : ((((340 + (900 * (v_ro 2))) + 98) + (2 * k180_2)) + 1).toInt = (((340 + (900 * (v_ro 2))) + 98) + (2 * k180_2)).toInt + 1 := g5_iadd (a := (((340 + (900 * (v_ro 2))) + 98) + (2 * k180_2)).toInt) (b := 1) (by rfl) (by decide +kernel) (by omega) (by omega)
                      refine lv_aload_n hx hb dX12_law_221 rfl (lv_at hl 2 rfl) ?_
                      refine va_get (D := G.1) (ci := 12) (v := .ref b_ar) (C := RX12) (T := TX12) (N := 52) hx hb hts inG_X12 hown hK hP 10 rfl rfl 19 (by decide +kernel) (hts _ fl_X12_36) (fun _ h9 => h9) rfl dX12_law_222 ?_
                      refine lv_iload_n hx hb dX12_law_225 rfl (lv_at hl 0 rfl) ?_
                      refine va_iald hx hb hK hP 5 0 rfl rfl (i := k180_2) (vp_in_iff.mpr ⟨by omega, by omega⟩) dX12_law_226 ?_
                      refine W.eq (g2 := F0 m 227 ls [.int (k51_ar k180_2.toNatClampNeg), .int ((((340 + (900 * (v_ro 2))) + 98) + (2 * k180_2)) + 1), .ref b_ro]) rfl ?_
                      refine va_iast hx hb hK hP hD hS 1 0 rfl rfl (i := ((((340 + (900 * (v_ro 2))) + 98) + (2 * k180_2)) + 1)) (x := (k51_ar k180_2.toNatClampNeg)) (vp_in_iff.mpr ⟨by omega, by omega⟩) dX12_law_227 ?_
                      clear hP hD hS
                      intro H locs hP hD hS
                      refine g5_rs [(b_rf, (arI G 7 v_rf)), (b_ro, (arI G 5740 (upd (upd k180_ro (((340 + (900 * (v_ro 2))) + 98) + (2 * k180_2)).toNatClampNeg (k51_op k180_2.toNatClampNeg)) ((((340 + (900 * (v_ro 2))) + 98) + (2 * k180_2)) + 1).toNatClampNeg (k51_ar k180_2.toNatClampNeg)))), (b_tp, (arI G 400 v_tp)), (b_nl, (arI G 96 k51_nl)), (b_op, (arI G 400 k51_op)), (b_ar, (arI G 400 k51_ar)), (b_pi, (arI G 400 k51_pi)), (b_pa, (arI G 400 k51_pa)), (b_ws, (arJ G 8 v_ws)), (b_hw, (arJ G 4 v_hw)), (b_o, (oc12 0 u_sa b_rf b_ro b_im b_ke u_fd b_tp 0 k51_fr k51_to k51_so k51_wo k51_fa k51_bd k51_nc b_nl k51_co b_op b_ar k51_le b_pi b_pa k51_pd k51_od b_ws b_hw u_la b_se b_re u_bk u_va u_su u_ce u_ho u_wy u_bt u_ps b_pt u_tg u_sn b_ip u_ic b_ah b_be b_me u_wd b_tr b_ld u_st b_wn u_id))] hP hD ?_
                      clear hP hD
                      intro hP hD
                      refine lv_iinc (v := (k180_2 + 1)) (lv' := [(2, .int (k180_2 + 1)), (1, .int (340 + (900 * (v_ro 2)))), (0, .ref b_o)]) hx hb dX12_law_228 hl (k := 0) rfl rfl (by decide +kernel) rfl ?_
                      clear hl
                      intro ls hl
                      have t_266 : (k180_2 + 1).toInt = k180_2.toInt + 1 := g5_iadd (a := k180_2.toInt) (b := 1) rfl (by decide +kernel) (by omega) (by omega)
                      refine lv_goto (tgt := 180) hx hb dX12_law_231 (by decide +kernel) ?_
                      exact ih_180_250 ((k180_2 + 1), (upd (upd k180_ro (((340 + (900 * (v_ro 2))) + 98) + (2 * k180_2)).toNatClampNeg (k51_op k180_2.toNatClampNeg)) ((((340 + (900 * (v_ro 2))) + 98) + (2 * k180_2)) + 1).toNatClampNeg (k51_ar k180_2.toNatClampNeg))) ls H locs (show Int.toNat (400 - (k180_2 + 1).toInt) < Int.toNat (400 - k180_2.toInt) from g_up (show k180_2.toInt < (k180_2 + 1).toInt by omega) (show k180_2.toInt < 400 by omega)) ⟨lv_sub hl [0, 1, 2] rfl, hP, hD, hS, ⟨by omega, by omega⟩, by omega, lw_d1 i_248 (by omega) (by omega) (by omega) (by omega) (by omega), lw_d2 (k := k180_2) i_249 ⟨by omega, by omega⟩ (by omega) (by omega) (by omega)⟩
                  ·
                    have i_245 : k145_2.toInt < (8 * k51_nc.toInt) := by have z := g5_geN (a := k145_2.toInt) (b := (8 * k51_nc).toInt) (by rfl) (by rfl) c_245; omega
                    refine lv_aload_n hx hb dX12_law_156 rfl (lv_at hl 2 rfl) ?_
                    refine va_get (D := G.1) (ci := 12) (v := .ref b_ro) (C := RX12) (T := TX12) (N := 52) hx hb hts inG_X12 hown hK hP 10 rfl rfl 3 (by decide +kernel) (hts _ fl_X12_13) (fun _ h9 => h9) rfl dX12_law_157 ?_
                    refine lv_iload_n hx hb dX12_law_160 rfl (lv_at hl 1 rfl) ?_
                    refine lv_iconst (v := 2) hx hb dX12_law_161 (by decide +kernel) ?_
                    refine W.eq (g2 := F0 m 162 ls [.int 2, .int (340 + (900 * (v_ro 2))), .ref b_ro]) rfl ?_
                    refine lv_iadd hx hb dX12_law_162 ?_
                    have t_267 : ((340 + (900 * (v_ro 2))) + 2).toInt = (340 + (900 * (v_ro 2))).toInt + 2 := g5_iadd (a := (340 + (900 * (v_ro 2))).toInt) (b := 2) (by rfl) (by decide +kernel) (by omega) (by omega)
                    refine lv_iload_n hx hb dX12_law_163 rfl (lv_at hl 0 rfl) ?_
                    refine lv_iadd hx hb dX12_law_164 ?_
                    have t_268 : (((340 + (900 * (v_ro 2))) + 2) + k145_2).toInt = ((340 + (900 * (v_ro 2))) + 2).toInt + k145_2.toInt := g5_iadd (a := ((340 + (900 * (v_ro 2))) + 2).toInt) (b := k145_2.toInt) (by rfl) (by rfl) (by omega) (by omega)
                    refine lv_aload_n hx hb dX12_law_165 rfl (lv_at hl 2 rfl) ?_
                    refine va_get (D := G.1) (ci := 12) (v := .ref b_nl) (C := RX12) (T := TX12) (N := 52) hx hb hts inG_X12 hown hK hP 10 rfl rfl 16 (by decide +kernel) (hts _ fl_X12_30) (fun _ h9 => h9) rfl dX12_law_166 ?_
                    refine W.eq (g2 := F0 m 169 ls [.ref b_nl, .int (((340 + (900 * (v_ro 2))) + 2) + k145_2), .ref b_ro]) rfl ?_
                    refine lv_iload_n hx hb dX12_law_169 rfl (lv_at hl 0 rfl) ?_
                    refine va_iald hx hb hK hP 3 0 rfl rfl (i := k145_2) (vp_in_iff.mpr ⟨by omega, by omega⟩) dX12_law_170 ?_
                    refine va_iast hx hb hK hP hD hS 1 0 rfl rfl (i := (((340 + (900 * (v_ro 2))) + 2) + k145_2)) (x := (k51_nl k145_2.toNatClampNeg)) (vp_in_iff.mpr ⟨by omega, by omega⟩) dX12_law_171 ?_
                    clear hP hD hS
                    intro H locs hP hD hS
                    refine g5_rs [(b_rf, (arI G 7 v_rf)), (b_ro, (arI G 5740 (upd k145_ro (((340 + (900 * (v_ro 2))) + 2) + k145_2).toNatClampNeg (k51_nl k145_2.toNatClampNeg)))), (b_tp, (arI G 400 v_tp)), (b_nl, (arI G 96 k51_nl)), (b_op, (arI G 400 k51_op)), (b_ar, (arI G 400 k51_ar)), (b_pi, (arI G 400 k51_pi)), (b_pa, (arI G 400 k51_pa)), (b_ws, (arJ G 8 v_ws)), (b_hw, (arJ G 4 v_hw)), (b_o, (oc12 0 u_sa b_rf b_ro b_im b_ke u_fd b_tp 0 k51_fr k51_to k51_so k51_wo k51_fa k51_bd k51_nc b_nl k51_co b_op b_ar k51_le b_pi b_pa k51_pd k51_od b_ws b_hw u_la b_se b_re u_bk u_va u_su u_ce u_ho u_wy u_bt u_ps b_pt u_tg u_sn b_ip u_ic b_ah b_be b_me u_wd b_tr b_ld u_st b_wn u_id))] hP hD ?_
                    clear hP hD
                    intro hP hD
                    refine lv_iinc (v := (k145_2 + 1)) (lv' := [(2, .int (k145_2 + 1)), (1, .int (340 + (900 * (v_ro 2)))), (0, .ref b_o)]) hx hb dX12_law_172 hl (k := 0) rfl rfl (by decide +kernel) rfl ?_
                    clear hl
                    intro ls hl
                    have t_269 : (k145_2 + 1).toInt = k145_2.toInt + 1 := g5_iadd (a := k145_2.toInt) (b := 1) rfl (by decide +kernel) (by omega) (by omega)
                    refine lv_goto (tgt := 145) hx hb dX12_law_175 (by decide +kernel) ?_
                    exact ih_145_243 ((k145_2 + 1), (upd k145_ro (((340 + (900 * (v_ro 2))) + 2) + k145_2).toNatClampNeg (k51_nl k145_2.toNatClampNeg))) ls H locs (show Int.toNat (96 - (k145_2 + 1).toInt) < Int.toNat (96 - k145_2.toInt) from g_up (show k145_2.toInt < (k145_2 + 1).toInt by omega) (show k145_2.toInt < 96 by omega)) ⟨lv_sub hl [0, 1, 2] rfl, hP, hD, hS, ⟨by omega, by omega⟩, by omega, lw_c1 i_241 (by omega) (by omega) (by omega) (by omega), lw_c2 (k := k145_2) i_242 ⟨by omega, by omega⟩ (by omega) (by omega)⟩
                ·
                  have i_234 : k51_bd.toInt ≠ 0 := g5_eqN (a := k51_bd.toInt) (b := 0) rfl (by decide +kernel) c_234
                  omega
              ·
                have n_233 : gNe (k51_so.toInt) (0) := g5_eqN (a := k51_so.toInt) (b := 0) rfl (by decide +kernel) c_233
                obtain ⟨kk, hLB, hTk, hk1, hk2⟩ := lxs_k i_174 (by omega)
                have hFL := lxs_out hLB (fun q8 => i_184 ((tk_sign e_tp hTk (by decide +kernel) (by decide +kernel) (c := 59)).mp q8)) (fun q8 => by have q7 := (tk_end e_tp hTk).mp q8; first | omega | (unfold gNe at *; omega))
                refine lv_aload_n hx hb dX12_law_92 rfl (lv_at hl 0 rfl) ?_
                refine lv_iconst (v := 0) hx hb dX12_law_93 (by decide +kernel) ?_
                obtain ⟨hPc, hDc, hFc⟩ := g5_sub3 (wc := [(b_o, (oc12 0 u_sa b_rf b_ro b_im b_ke u_fd b_tp u_td k51_fr k51_to k51_so k51_wo k51_fa k51_bd k51_nc b_nl k51_co b_op b_ar k51_le b_pi b_pa k51_pd k51_od b_ws b_hw u_la b_se b_re u_bk u_va u_su u_ce u_ho u_wy u_bt u_ps b_pt u_tg u_sn b_ip u_ic b_ah b_be b_me u_wd b_tr b_ld u_st b_wn u_id)), (b_tp, (arI G 400 v_tp))]) hP hD hS hA [10, 2] (by decide +kernel) rfl
                refine va_callv (va_runV (As := [.int 0]) (rest := []) ⟨hx, hb, hml, hown, hts⟩ (n_must0 l G b_o b_tp b_rf b_ro b_im b_ke b_nl b_op b_ar b_pi b_pa b_ws b_hw b_se b_re b_pt b_ip b_ah b_be b_me b_tr b_ld b_wn H.size 0 u_sa u_fd u_td k51_fr k51_to k51_so k51_fa k51_bd k51_nc k51_co k51_le k51_pd k51_od u_la u_bk u_ce u_ho u_wy u_bt u_ps u_tg u_sn u_ic u_wd u_id k51_wo u_va u_su u_st v_tp h_u_td i_161 i_162 ⟨by omega, by omega⟩ i_164 i_165 i_166 h_u_la h_u_bk h_u_ce h_u_ho h_u_wy h_u_bt h_u_ps h_u_ic h_u_id) (cwV 1 hts gV_X12_233 rfl rfl rfl hv_X12_must ⟨Nat.le_of_ble_eq_true rfl, Nat.le_of_ble_eq_true rfl⟩) (g5_preV hPc hK hDc hN hT hS hFc (ci := 12) (q0 := 0) rfl rfl) rfl rfl hl.1 rfl (lv_room (Nat.le_of_ble_eq_true rfl)) dX12_law_94 ⟨Nat.le_of_ble_eq_true rfl, Nat.le_of_ble_eq_true rfl⟩) hS (fun q _ h => hFc q h) hFc (fun u t H locs ht hvm hw hB hz1 hk1 hS => ?_)
                obtain ⟨hP1, hD1⟩ := hB
                have hP1 := g5_ht ht hP1
                obtain rfl := hw
                have hJ9 := va_join (wr := [(b_rf, (arI G 7 v_rf)), (b_ro, (arI G 5740 v_ro)), (b_nl, (arI G 96 k51_nl)), (b_op, (arI G 400 k51_op)), (b_ar, (arI G 400 k51_ar)), (b_pi, (arI G 400 k51_pi)), (b_pa, (arI G 400 k51_pa)), (b_ws, (arJ G 8 v_ws)), (b_hw, (arJ G 4 v_hw))]) hP hD [10, 2] [0, 1, 3, 4, 5, 6, 7, 8, 9] rfl rfl (by decide +kernel) (by decide +kernel) hk1 hFc hP1 hD1
                clear hP hD hPc hDc hFc ht hvm hz1 hk1 hP1 hD1
                obtain ⟨hP, hD⟩ := hJ9
                refine g5_rs [(b_rf, (arI G 7 v_rf)), (b_ro, (arI G 5740 v_ro)), (b_nl, (arI G 96 k51_nl)), (b_op, (arI G 400 k51_op)), (b_ar, (arI G 400 k51_ar)), (b_pi, (arI G 400 k51_pi)), (b_pa, (arI G 400 k51_pa)), (b_ws, (arJ G 8 v_ws)), (b_hw, (arJ G 4 v_hw)), (b_o, (oc12 0 u_sa b_rf b_ro b_im b_ke u_fd b_tp u_td k51_fr k51_to k51_so k51_wo k51_fr 1 k51_nc b_nl k51_co b_op b_ar k51_le b_pi b_pa k51_pd k51_od b_ws b_hw u_la b_se b_re u_bk u_va u_su u_ce u_ho u_wy u_bt u_ps b_pt u_tg u_sn b_ip u_ic b_ah b_be b_me u_wd b_tr b_ld u_st b_wn u_id)), (b_tp, (arI G 400 v_tp))] hP hD ?_
                clear hP hD
                intro hP hD
                refine lv_aload_n hx hb dX12_law_97 rfl (lv_at hl 0 rfl) ?_
                refine W.eq (g2 := F0 m 98 ls [.ref b_o]) rfl ?_
                refine lv_iconst (v := 0) hx hb dX12_law_98 (by decide +kernel) ?_
                refine va_put (D := G.1) (ci := 12) (v := .int 0) (ty := .int) (C := RX12) (T := TX12) (N := 52) hx hb hts inG_X12 tyX12 tyX12_ok nmX12 hown hK hP hD hS 9 rfl rfl 8 (by decide +kernel) (hts _ fl_X12_192) (fun _ h9 => h9) rfl (by decide +kernel) rfl rfl (Nat.le_of_ble_eq_true rfl) dX12_law_99 ?_
                clear hP hD hS
                intro H locs hP hD hS
                refine g5_rs [(b_rf, (arI G 7 v_rf)), (b_ro, (arI G 5740 v_ro)), (b_nl, (arI G 96 k51_nl)), (b_op, (arI G 400 k51_op)), (b_ar, (arI G 400 k51_ar)), (b_pi, (arI G 400 k51_pi)), (b_pa, (arI G 400 k51_pa)), (b_ws, (arJ G 8 v_ws)), (b_hw, (arJ G 4 v_hw)), (b_o, (oc12 0 u_sa b_rf b_ro b_im b_ke u_fd b_tp 0 k51_fr k51_to k51_so k51_wo k51_fr 1 k51_nc b_nl k51_co b_op b_ar k51_le b_pi b_pa k51_pd k51_od b_ws b_hw u_la b_se b_re u_bk u_va u_su u_ce u_ho u_wy u_bt u_ps b_pt u_tg u_sn b_ip u_ic b_ah b_be b_me u_wd b_tr b_ld u_st b_wn u_id)), (b_tp, (arI G 400 v_tp))] hP hD ?_
                clear hP hD
                intro hP hD
                refine lv_aload_n hx hb dX12_law_102 rfl (lv_at hl 0 rfl) ?_
                refine va_get (D := G.1) (ci := 12) (v := .int 1) (C := RX12) (T := TX12) (N := 52) hx hb hts inG_X12 hown hK hP 9 rfl rfl 14 (by decide +kernel) (hts _ fl_X12_205) (fun _ h9 => h9) rfl dX12_law_103 ?_
                refine lv_if_eq (tgt := 116) hx hb dX12_law_106 (by decide +kernel) (fun c_270 => ?_) (fun c_270 => ?_)
                ·
                  exact absurd c_270 (by decide +kernel)
                ·
                  refine lv_aload_n hx hb dX12_law_109 rfl (lv_at hl 0 rfl) ?_
                  refine lv_bipush (v := (-6)) hx hb dX12_law_110 (by decide +kernel) ?_
                  obtain ⟨hPc, hDc, hFc⟩ := g5_sub3 (wc := [(b_o, (oc12 0 u_sa b_rf b_ro b_im b_ke u_fd b_tp 0 k51_fr k51_to k51_so k51_wo k51_fr 1 k51_nc b_nl k51_co b_op b_ar k51_le b_pi b_pa k51_pd k51_od b_ws b_hw u_la b_se b_re u_bk u_va u_su u_ce u_ho u_wy u_bt u_ps b_pt u_tg u_sn b_ip u_ic b_ah b_be b_me u_wd b_tr b_ld u_st b_wn u_id)), (b_rf, (arI G 7 v_rf))]) hP hD hS hA [9, 0] (by decide +kernel) rfl
                  refine va_calli (va_runV (As := [.int (-6)]) (rest := []) ⟨hx, hb, hml, hown, hts⟩ (n_tell6 l G b_o b_rf b_ro b_im b_ke b_tp b_nl b_op b_ar b_pi b_pa b_ws b_hw b_se b_re b_pt b_ip b_ah b_be b_me b_tr b_ld b_wn H.size 0 u_sa u_fd 0 k51_fr k51_to k51_so k51_fr 1 k51_nc k51_co k51_le k51_pd k51_od u_la u_bk u_ce u_ho u_wy u_bt u_ps u_tg u_sn u_ic u_wd u_id k51_wo u_va u_su u_st v_rf ⟨by decide, by decide⟩ i_161 i_162 ⟨by decide, by decide⟩ i_164 i_165 i_166 h_u_la h_u_bk h_u_ce h_u_ho h_u_wy h_u_bt h_u_ps h_u_ic h_u_id) (cwV 1 hts gV_X12_125 rfl rfl rfl hv_X12_tell ⟨Nat.le_of_ble_eq_true rfl, Nat.le_of_ble_eq_true rfl⟩) (g5_preV hPc hK hDc hN hT hS hFc (ci := 12) (q0 := 0) rfl rfl) rfl rfl hl.1 rfl (lv_room (Nat.le_of_ble_eq_true rfl)) dX12_law_112 ⟨Nat.le_of_ble_eq_true rfl, Nat.le_of_ble_eq_true rfl⟩) hS (fun q _ h => hFc q h) hFc (fun r u t H locs ht hvm hw hB hz1 hk1 hS => ?_)
                  obtain ⟨hP1, hD1⟩ := hB
                  have hP1 := g5_ht ht hP1
                  obtain ⟨z272, z273, z274, (i_271 : 0 ≤ z273.toInt ∧ z273.toInt ≤ 1), rfl, rfl⟩ := hw
                  have hJ9 := va_join (wr := [(b_ro, (arI G 5740 v_ro)), (b_nl, (arI G 96 k51_nl)), (b_op, (arI G 400 k51_op)), (b_ar, (arI G 400 k51_ar)), (b_pi, (arI G 400 k51_pi)), (b_pa, (arI G 400 k51_pa)), (b_ws, (arJ G 8 v_ws)), (b_hw, (arJ G 4 v_hw)), (b_tp, (arI G 400 v_tp))]) hP hD [9, 0] [1, 2, 3, 4, 5, 6, 7, 8, 10] rfl rfl (by decide +kernel) (by decide +kernel) hk1 hFc hP1 hD1
                  clear hP hD hPc hDc hFc ht hvm hz1 hk1 hP1 hD1
                  obtain ⟨hP, hD⟩ := hJ9
                  refine g5_rs [(b_ro, (arI G 5740 v_ro)), (b_nl, (arI G 96 k51_nl)), (b_op, (arI G 400 k51_op)), (b_ar, (arI G 400 k51_ar)), (b_pi, (arI G 400 k51_pi)), (b_pa, (arI G 400 k51_pa)), (b_ws, (arJ G 8 v_ws)), (b_hw, (arJ G 4 v_hw)), (b_tp, (arI G 400 v_tp)), (b_o, (oc12 0 z272 b_rf b_ro b_im b_ke u_fd b_tp 0 k51_fr k51_to k51_so k51_wo k51_fr 1 k51_nc b_nl k51_co b_op b_ar k51_le b_pi b_pa k51_pd k51_od b_ws b_hw u_la b_se b_re u_bk u_va u_su u_ce u_ho u_wy u_bt u_ps b_pt u_tg u_sn b_ip z273 b_ah b_be b_me u_wd b_tr b_ld u_st b_wn u_id)), (b_rf, (arI G 7 z274))] hP hD ?_
                  clear hP hD
                  intro hP hD
                  exact W.iret (v := (-6)) hx hb hr (fun t ht hW => ⟨⟨(-6), [(b_o, (oc12 0 z272 b_rf b_ro b_im b_ke u_fd b_tp 0 k51_fr k51_to k51_so k51_wo k51_fr 1 k51_nc b_nl k51_co b_op b_ar k51_le b_pi b_pa k51_pd k51_od b_ws b_hw u_la b_se b_re u_bk u_va u_su u_ce u_ho u_wy u_bt u_ps b_pt u_tg u_sn b_ip z273 b_ah b_be b_me u_wd b_tr b_ld u_st b_wn u_id)), (b_rf, (arI G 7 z274)), (b_ro, (arI G 5740 v_ro)), (b_tp, (arI G 400 v_tp)), (b_nl, (arI G 96 k51_nl)), (b_op, (arI G 400 k51_op)), (b_ar, (arI G 400 k51_ar)), (b_pi, (arI G 400 k51_pi)), (b_pa, (arI G 400 k51_pa)), (b_ws, (arJ G 8 v_ws)), (b_hw, (arJ G 4 v_hw))], rfl, ⟨(-6), 0, z272, 0, k51_fr, k51_to, k51_so, k51_wo, k51_fr, 1, k51_nc, k51_co, k51_le, k51_pd, k51_od, z273, z274, v_ro, k51_nl, k51_op, k51_ar, k51_pi, k51_pa, ⟨by have zc_o_td : (0 : Int32).toInt = 0 := (by decide +kernel); omega, by have zc_o_td : (0 : Int32).toInt = 0 := (by decide +kernel); omega⟩, i_161, i_162, ⟨by have zc_o_bd : (1 : Int32).toInt = 1 := (by decide +kernel); omega, by have zc_o_bd : (1 : Int32).toInt = 1 := (by decide +kernel); omega⟩, i_164, i_165, i_166, i_271, r_ro, by decide, fun _ _ _ => rfl, fun _ _ _ => rfl, Or.inr (Or.inl ⟨by omega, hFL.1, by first | decide | omega, rfl, hFL.2⟩), rfl, rfl⟩, by rw [ht]; exact hP.sub [9, 10, 0, 8, 1, 2, 3, 4, 5, 6, 7] rfl, hD.sub [9, 10, 0, 8, 1, 2, 3, 4, 5, 6, 7] (by decide +kernel) rfl⟩, hS.F ht⟩) hS.2.2 dX12_law_115
          ·
            exact absurd c_231 (by decide +kernel)
  ·
    have i_2 : (v_ro 2).toInt = 6 := g5_neN (a := (v_ro 2).toInt) (b := 6) rfl (by decide +kernel) c_2
    refine lv_aload_n hx hb dX12_law_16 rfl (lv_at hl 0 rfl) ?_
    refine lv_iconst (v := 0) hx hb dX12_law_17 (by decide +kernel) ?_
    refine va_put (D := G.1) (ci := 12) (v := .int 0) (ty := .int) (C := RX12) (T := TX12) (N := 52) hx hb hts inG_X12 tyX12 tyX12_ok nmX12 hown hK hP hD hS 0 rfl rfl 8 (by decide +kernel) (hts _ fl_X12_192) (fun _ h9 => h9) rfl (by decide +kernel) rfl rfl (Nat.le_of_ble_eq_true rfl) dX12_law_18 ?_
    clear hP hD hS
    intro H locs hP hD hS
    refine g5_rs [(b_o, (oc12 0 u_sa b_rf b_ro b_im b_ke u_fd b_tp 0 u_fr u_to u_so u_wo u_fa u_bd u_nc b_nl u_co b_op b_ar u_le b_pi b_pa u_pd u_od b_ws b_hw u_la b_se b_re u_bk u_va u_su u_ce u_ho u_wy u_bt u_ps b_pt u_tg u_sn b_ip u_ic b_ah b_be b_me u_wd b_tr b_ld u_st b_wn u_id)), (b_rf, (arI G 7 v_rf)), (b_ro, (arI G 5740 v_ro)), (b_tp, (arI G 400 v_tp)), (b_nl, (arI G 96 v_nl)), (b_op, (arI G 400 v_op)), (b_ar, (arI G 400 v_ar)), (b_pi, (arI G 400 v_pi)), (b_pa, (arI G 400 v_pa)), (b_ws, (arJ G 8 v_ws)), (b_hw, (arJ G 4 v_hw))] hP hD ?_
    clear hP hD
    intro hP hD
    refine lv_aload_n hx hb dX12_law_21 rfl (lv_at hl 0 rfl) ?_
    refine W.eq (g2 := F0 m 22 ls [.ref b_o]) rfl ?_
    refine lv_bipush (v := (-5)) hx hb dX12_law_22 (by decide +kernel) ?_
    obtain ⟨hPc, hDc, hFc⟩ := g5_sub3 (wc := [(b_o, (oc12 0 u_sa b_rf b_ro b_im b_ke u_fd b_tp 0 u_fr u_to u_so u_wo u_fa u_bd u_nc b_nl u_co b_op b_ar u_le b_pi b_pa u_pd u_od b_ws b_hw u_la b_se b_re u_bk u_va u_su u_ce u_ho u_wy u_bt u_ps b_pt u_tg u_sn b_ip u_ic b_ah b_be b_me u_wd b_tr b_ld u_st b_wn u_id)), (b_rf, (arI G 7 v_rf))]) hP hD hS hA [0, 1] (by decide +kernel) rfl
    refine va_calli (va_runV (As := [.int (-5)]) (rest := []) ⟨hx, hb, hml, hown, hts⟩ (n_tell5 l G b_o b_rf b_ro b_im b_ke b_tp b_nl b_op b_ar b_pi b_pa b_ws b_hw b_se b_re b_pt b_ip b_ah b_be b_me b_tr b_ld b_wn H.size 0 u_sa u_fd 0 u_fr u_to u_so u_fa u_bd u_nc u_co u_le u_pd u_od u_la u_bk u_ce u_ho u_wy u_bt u_ps u_tg u_sn u_ic u_wd u_id u_wo u_va u_su u_st v_rf ⟨by decide, by decide⟩ h_u_fr h_u_to h_u_bd h_u_nc h_u_co h_u_pd h_u_la h_u_bk h_u_ce h_u_ho h_u_wy h_u_bt h_u_ps h_u_ic h_u_id) (cwV 1 hts gV_X12_125 rfl rfl rfl hv_X12_tell ⟨Nat.le_of_ble_eq_true rfl, Nat.le_of_ble_eq_true rfl⟩) (g5_preV hPc hK hDc hN hT hS hFc (ci := 12) (q0 := 0) rfl rfl) rfl rfl hl.1 rfl (lv_room (Nat.le_of_ble_eq_true rfl)) dX12_law_24 ⟨Nat.le_of_ble_eq_true rfl, Nat.le_of_ble_eq_true rfl⟩) hS (fun q _ h => hFc q h) hFc (fun r u t H locs ht hvm hw hB hz1 hk1 hS => ?_)
    obtain ⟨hP1, hD1⟩ := hB
    have hP1 := g5_ht ht hP1
    obtain ⟨z276, z277, z278, (i_275 : 0 ≤ z277.toInt ∧ z277.toInt ≤ 1), rfl, rfl⟩ := hw
    have hJ9 := va_join (wr := [(b_ro, (arI G 5740 v_ro)), (b_tp, (arI G 400 v_tp)), (b_nl, (arI G 96 v_nl)), (b_op, (arI G 400 v_op)), (b_ar, (arI G 400 v_ar)), (b_pi, (arI G 400 v_pi)), (b_pa, (arI G 400 v_pa)), (b_ws, (arJ G 8 v_ws)), (b_hw, (arJ G 4 v_hw))]) hP hD [0, 1] [2, 3, 4, 5, 6, 7, 8, 9, 10] rfl rfl (by decide +kernel) (by decide +kernel) hk1 hFc hP1 hD1
    clear hP hD hPc hDc hFc ht hvm hz1 hk1 hP1 hD1
    obtain ⟨hP, hD⟩ := hJ9
    refine g5_rs [(b_ro, (arI G 5740 v_ro)), (b_tp, (arI G 400 v_tp)), (b_nl, (arI G 96 v_nl)), (b_op, (arI G 400 v_op)), (b_ar, (arI G 400 v_ar)), (b_pi, (arI G 400 v_pi)), (b_pa, (arI G 400 v_pa)), (b_ws, (arJ G 8 v_ws)), (b_hw, (arJ G 4 v_hw)), (b_o, (oc12 0 z276 b_rf b_ro b_im b_ke u_fd b_tp 0 u_fr u_to u_so u_wo u_fa u_bd u_nc b_nl u_co b_op b_ar u_le b_pi b_pa u_pd u_od b_ws b_hw u_la b_se b_re u_bk u_va u_su u_ce u_ho u_wy u_bt u_ps b_pt u_tg u_sn b_ip z277 b_ah b_be b_me u_wd b_tr b_ld u_st b_wn u_id)), (b_rf, (arI G 7 z278))] hP hD ?_
    clear hP hD
    intro hP hD
    exact W.iret (v := (-5)) hx hb hr (fun t ht hW => ⟨⟨(-5), [(b_o, (oc12 0 z276 b_rf b_ro b_im b_ke u_fd b_tp 0 u_fr u_to u_so u_wo u_fa u_bd u_nc b_nl u_co b_op b_ar u_le b_pi b_pa u_pd u_od b_ws b_hw u_la b_se b_re u_bk u_va u_su u_ce u_ho u_wy u_bt u_ps b_pt u_tg u_sn b_ip z277 b_ah b_be b_me u_wd b_tr b_ld u_st b_wn u_id)), (b_rf, (arI G 7 z278)), (b_ro, (arI G 5740 v_ro)), (b_tp, (arI G 400 v_tp)), (b_nl, (arI G 96 v_nl)), (b_op, (arI G 400 v_op)), (b_ar, (arI G 400 v_ar)), (b_pi, (arI G 400 v_pi)), (b_pa, (arI G 400 v_pa)), (b_ws, (arJ G 8 v_ws)), (b_hw, (arJ G 4 v_hw))], rfl, ⟨(-5), 0, z276, 0, u_fr, u_to, u_so, u_wo, u_fa, u_bd, u_nc, u_co, u_le, u_pd, u_od, z277, z278, v_ro, v_nl, v_op, v_ar, v_pi, v_pa, ⟨by have zc_o_td : (0 : Int32).toInt = 0 := (by decide +kernel); omega, by have zc_o_td : (0 : Int32).toInt = 0 := (by decide +kernel); omega⟩, h_u_fr, h_u_to, h_u_bd, h_u_nc, h_u_co, h_u_pd, i_275, r_ro, by decide, fun _ _ _ => rfl, fun _ _ _ => rfl, Or.inl ⟨by omega, by first | decide | omega, rfl, rfl⟩, rfl, rfl⟩, by rw [ht]; exact hP.sub [9, 10, 0, 1, 2, 3, 4, 5, 6, 7, 8] rfl, hD.sub [9, 10, 0, 1, 2, 3, 4, 5, 6, 7, 8] (by decide +kernel) rfl⟩, hS.F ht⟩) hS.2.2 dX12_law_27
set_option maxHeartbeats 4000000 in
set_option maxRecDepth 100000 in
theorem x_lawX (l : Launch) (G : g5_G) (a_o a_rf a_h a_l a_r a_tk a_kd a_nm a_pl a_rc a_rh a_rs a_x a_im a_ke a_k a_wa a_th a_ha a_wk a_wd a_g a_b a_s a_p a_w a_bb : Nat) (sz : Nat) (e_tl : Int32) (e_fd : Int32) (e_fpl : Int32) (e_wn : Int32) (e_lr : Int32) (e_le : Int32) (e_st : Int32) (e_fo : Int32) (e_lc : Int32) (e_ln : Int32) (e_pa : Int32) (e_at : Int32) (e_fp : Int32) (e_wa : Int64) (e_gb : Int64) (f_rf : Nat → Int32) (f_l : Nat → Option Nat) (f_kd : Nat → Int32) (f_nm : Nat → Int32) (f_pl : Nat → Int32) (f_rc : Nat → Int32) (f_rh : Nat → Int32) (f_rs : Nat → Int32) (f_x : Nat → Int32) (h_e_tl : 0 ≤ e_tl.toInt ∧ e_tl.toInt ≤ 400) (h_e_wn : 0 ≤ e_wn.toInt ∧ e_wn.toInt ≤ 1) (h_e_ln : 0 ≤ e_ln.toInt ∧ e_ln.toInt ≤ 400) (h_e_pa : 0 ≤ e_pa.toInt ∧ e_pa.toInt ≤ 50) (h_e_at : 0 ≤ e_at.toInt ∧ e_at.toInt ≤ 401) (e_tk : TOKI f_kd f_nm) (e_l6 : 0 ≤ e_lc.toInt ∧ e_lc.toInt ≤ 6) (e_tx : byOK f_x) : Met l yX11_law (wsG yX11_law cX11_law 3 (some .int)) ({ frames := 111, cells := 4, slots := 429, locals := 2662 }) (va_Pc [.ref a_o] (g5_P G [(a_o, (oc11 a_h a_im a_ke a_k a_wa a_th a_ha a_wk a_r a_x e_tl e_fd e_fpl a_wd e_wn a_rf e_lr)), (a_rf, (arI G 5 f_rf)), (a_h, (oc1 e_wa e_le e_st e_fo e_lc a_l a_g a_b a_s a_p a_w e_gb a_bb)), (a_l, (arW G 6 f_l)), (a_r, (oc4 a_tk a_rh a_rs a_rc e_ln e_pa e_at e_fp)), (a_tk, (oc8 a_kd a_nm a_pl)), (a_kd, (arI G 401 f_kd)), (a_nm, (arI G 401 f_nm)), (a_pl, (arI G 401 f_pl)), (a_rc, (arI G 400 f_rc)), (a_rh, (arI G 12 f_rh)), (a_rs, (arI G 13 f_rs)), (a_x, (arI G 400 f_x))] sz)) (va_Qi (fun (r : Int32) (u : va_W) => (∃ (o_r : Int32) (o_lr : Int32) (o_rf : Nat → Int32) (o_ln : Int32) (o_pa : Int32) (o_at : Int32) (o_rc : Nat → Int32) (o_fp : Int32) (o_fq : Int32) (o_rh : Nat → Int32) (o_rs : Nat → Int32) (o_kd : Nat → Int32) (o_nm : Nat → Int32) (o_pl : Nat → Int32), (0 ≤ o_ln.toInt ∧ o_ln.toInt ≤ 400) ∧ (0 ≤ o_at.toInt ∧ o_at.toInt ≤ 401) ∧ (0 ≤ o_pa.toInt ∧ o_pa.toInt ≤ 50) ∧ (TOKI o_kd o_nm) ∧ ((e_lc.toInt = 6 ∧ o_r.toInt = -5 ∧ o_fq = e_fpl) ∨ (e_lc.toInt < 6 ∧ (LAWX f_x e_tl.toInt.toNat).2.2 = none ∧ o_r.toInt = -6 ∧ o_fq.toInt = (pT f_x e_tl.toInt.toNat (LAWX f_x e_tl.toInt.toNat).1 : Int))) ∧ (r = o_r) ∧ (u = [(a_o, (oc11 a_h a_im a_ke a_k a_wa a_th a_ha a_wk a_r a_x 0 e_fd o_fq a_wd e_wn a_rf o_lr)), (a_rf, (arI G 5 o_rf)), (a_h, (oc1 e_wa e_le e_st e_fo e_lc a_l a_g a_b a_s a_p a_w e_gb a_bb)), (a_l, (arW G 6 f_l)), (a_r, (oc4 a_tk a_rh a_rs a_rc o_ln o_pa o_at o_fp)), (a_tk, (oc8 a_kd a_nm a_pl)), (a_kd, (arI G 401 o_kd)), (a_nm, (arI G 401 o_nm)), (a_pl, (arI G 401 o_pl)), (a_rc, (arI G 400 o_rc)), (a_rh, (arI G 12 o_rh)), (a_rs, (arI G 13 o_rs)), (a_x, (arI G 400 f_x))])) ∨ (∃ (o_r : Int32) (o_lr : Int32) (o_rf : Nat → Int32) (o_ln : Int32) (o_pa : Int32) (o_at : Int32) (o_rc : Nat → Int32) (o_fp : Int32) (o_fq : Int32) (o_rh : Nat → Int32) (o_rs : Nat → Int32) (o_kd : Nat → Int32) (o_nm : Nat → Int32) (o_pl : Nat → Int32) (o_lc : Int32) (o_q : Nat) (o_qh : Nat) (o_qs : Nat) (o_qc : Nat) (o_cl : Int32) (o_nh : Nat) (o_ns : Nat) (o_nc : Nat) (o_fh : Nat → Int32) (o_fs : Nat → Int32) (o_fc : Nat → Int32), (0 ≤ o_ln.toInt ∧ o_ln.toInt ≤ 400) ∧ (0 ≤ o_at.toInt ∧ o_at.toInt ≤ 401) ∧ (0 ≤ o_pa.toInt ∧ o_pa.toInt ≤ 50) ∧ (TOKI o_kd o_nm) ∧ (0 ≤ e_lc.toInt ∧ o_lc.toInt = e_lc.toInt + 1 ∧ o_lc.toInt ≤ 6) ∧ (1 ≤ o_cl.toInt ∧ o_cl.toInt ≤ 12) ∧ (o_nc ≤ 400) ∧ (∀ j : Nat, j < o_ns → 0 ≤ (o_fs j).toInt ∧ (o_fs j).toInt ≤ (o_nc : Int)) ∧ (∀ j : Nat, j < o_nc → (o_fc j >>> (12 &&& 31)).toInt = 1 → (o_fc j &&& 4095).toInt < 8) ∧ ((o_cl.toInt : Int) ≤ (o_nh : Int) ∧ (o_cl.toInt + 1 : Int) ≤ (o_ns : Int)) ∧ (∃ L : List CLT, (LAWX f_x e_tl.toInt.toNat).2.2 = some L ∧ LWC o_fh o_fs o_fc L o_cl.toInt.toNat) ∧ (lvC o_fc o_nc ≤ 50) ∧ (o_r.toInt = e_lc.toInt) ∧ (o_fq.toInt = -1) ∧ (r = o_r) ∧ (u = [(a_o, (oc11 a_h a_im a_ke a_k a_wa a_th a_ha a_wk a_r a_x 0 e_fd o_fq a_wd e_wn a_rf o_lr)), (a_rf, (arI G 5 o_rf)), (a_h, (oc1 e_wa e_le e_st e_fo o_lc a_l a_g a_b a_s a_p a_w e_gb a_bb)), (a_l, (arW G 6 (va_up f_l e_lc.toNatClampNeg (some o_q)))), (a_r, (oc4 a_tk a_rh a_rs a_rc o_ln o_pa o_at o_fp)), (a_tk, (oc8 a_kd a_nm a_pl)), (a_kd, (arI G 401 o_kd)), (a_nm, (arI G 401 o_nm)), (a_pl, (arI G 401 o_pl)), (a_rc, (arI G 400 o_rc)), (a_rh, (arI G 12 o_rh)), (a_rs, (arI G 13 o_rs)), (a_x, (arI G 400 f_x)), (o_q, (oc3 o_cl o_qh o_qs o_qc)), (o_qh, (arI G o_nh o_fh)), (o_qs, (arI G o_ns o_fs)), (o_qc, (arI G o_nc o_fc))]))) (g5_B G (va_A [(a_o, (oc11 a_h a_im a_ke a_k a_wa a_th a_ha a_wk a_r a_x e_tl e_fd e_fpl a_wd e_wn a_rf e_lr)), (a_rf, (arI G 5 f_rf)), (a_h, (oc1 e_wa e_le e_st e_fo e_lc a_l a_g a_b a_s a_p a_w e_gb a_bb)), (a_l, (arW G 6 f_l)), (a_r, (oc4 a_tk a_rh a_rs a_rc e_ln e_pa e_at e_fp)), (a_tk, (oc8 a_kd a_nm a_pl)), (a_kd, (arI G 401 f_kd)), (a_nm, (arI G 401 f_nm)), (a_pl, (arI G 401 f_pl)), (a_rc, (arI G 400 f_rc)), (a_rh, (arI G 12 f_rh)), (a_rs, (arI G 13 f_rs)), (a_x, (arI G 400 f_x))] sz)) (va_A [(a_o, (oc11 a_h a_im a_ke a_k a_wa a_th a_ha a_wk a_r a_x e_tl e_fd e_fpl a_wd e_wn a_rf e_lr)), (a_rf, (arI G 5 f_rf)), (a_h, (oc1 e_wa e_le e_st e_fo e_lc a_l a_g a_b a_s a_p a_w e_gb a_bb)), (a_l, (arW G 6 f_l)), (a_r, (oc4 a_tk a_rh a_rs a_rc e_ln e_pa e_at e_fp)), (a_tk, (oc8 a_kd a_nm a_pl)), (a_kd, (arI G 401 f_kd)), (a_nm, (arI G 401 f_nm)), (a_pl, (arI G 401 f_pl)), (a_rc, (arI G 400 f_rc)), (a_rh, (arI G 12 f_rh)), (a_rs, (arI G 13 f_rs)), (a_x, (arI G 400 f_x))] sz)) 4 429 (va_A [(a_o, (oc11 a_h a_im a_ke a_k a_wa a_th a_ha a_wk a_r a_x e_tl e_fd e_fpl a_wd e_wn a_rf e_lr)), (a_rf, (arI G 5 f_rf)), (a_h, (oc1 e_wa e_le e_st e_fo e_lc a_l a_g a_b a_s a_p a_w e_gb a_bb)), (a_l, (arW G 6 f_l)), (a_r, (oc4 a_tk a_rh a_rs a_rc e_ln e_pa e_at e_fp)), (a_tk, (oc8 a_kd a_nm a_pl)), (a_kd, (arI G 401 f_kd)), (a_nm, (arI G 401 f_nm)), (a_pl, (arI G 401 f_pl)), (a_rc, (arI G 400 f_rc)), (a_rh, (arI G 12 f_rh)), (a_rs, (arI G 13 f_rs)), (a_x, (arI G 400 f_x))] sz) := by
  refine Met.ofW (cc := cX11_law) (maxL := 3) (ret := (some .int)) (by decide +kernel) rfl ?_
  intro p e s m args below meth c s₁ B hml hv
  obtain ⟨rfl, hsz, hP, hK, hD0, hN, hT⟩ := hv
  have hx := B.exec
  have hb := B.bytes
  have hr := B.returns
  have hts : ∀ w ∈ tblG, w.before _ s = true := fun w h => atoms_spec (ws := (wsG yX11_law cX11_law 3 (some .int))) B.pre w (List.mem_cons_of_mem _ h)
  have hown : s.vm.findClass RX11 = some m.cls := findClass_of_methodNamed B.named
  have hlocks := B.notSynchronized
  subst hsz
  have hD := hD0.self (sz := s.heap.size)
  generalize hAe : va_A [(a_o, (oc11 a_h a_im a_ke a_k a_wa a_th a_ha a_wk a_r a_x e_tl e_fd e_fpl a_wd e_wn a_rf e_lr)), (a_rf, (arI G 5 f_rf)), (a_h, (oc1 e_wa e_le e_st e_fo e_lc a_l a_g a_b a_s a_p a_w e_gb a_bb)), (a_l, (arW G 6 f_l)), (a_r, (oc4 a_tk a_rh a_rs a_rc e_ln e_pa e_at e_fp)), (a_tk, (oc8 a_kd a_nm a_pl)), (a_kd, (arI G 401 f_kd)), (a_nm, (arI G 401 f_nm)), (a_pl, (arI G 401 f_pl)), (a_rc, (arI G 400 f_rc)), (a_rh, (arI G 12 f_rh)), (a_rs, (arI G 13 f_rs)), (a_x, (arI G 400 f_x))] s.heap.size = A at hD hT ⊢
  have hA : ∀ q : Nat, s.heap.size ≤ q → A q := fun q h => by rw [← hAe]; exact Or.inr h
  have hS : va_S A s.heap s.heap [] := va_S.rf
  replace hP : va_P G.1 vwCl [(a_o, (oc11 a_h a_im a_ke a_k a_wa a_th a_ha a_wk a_r a_x e_tl e_fd e_fpl a_wd e_wn a_rf e_lr)), (a_rf, (arI G 5 f_rf)), (a_h, (oc1 e_wa e_le e_st e_fo e_lc a_l a_g a_b a_s a_p a_w e_gb a_bb)), (a_l, (arW G 6 f_l)), (a_r, (oc4 a_tk a_rh a_rs a_rc e_ln e_pa e_at e_fp)), (a_tk, (oc8 a_kd a_nm a_pl)), (a_kd, (arI G 401 f_kd)), (a_nm, (arI G 401 f_nm)), (a_pl, (arI G 401 f_pl)), (a_rc, (arI G 400 f_rc)), (a_rh, (arI G 12 f_rh)), (a_rs, (arI G 13 f_rs)), (a_x, (arI G 400 f_x))] s.heap := hP
  have hl := lv_entry ([.ref a_o]) (n := 3) (Nat.le_of_ble_eq_true rfl)
  rw [lg_entry_eq]
  generalize (lg_sl ([.ref a_o]) ++ List.replicate (3 - (lg_sl ([.ref a_o])).length) Slot.unset).toArray = ls at hl ⊢
  replace hl : lv_has ls 3 [(0, .ref a_o)] := hl
  refine lv_aload_n hx hb dX11_law_0 rfl (lv_at hl 0 rfl) ?_
  refine va_get (D := G.1) (ci := 11) (v := .int e_tl) (C := RX11) (T := TX11) (N := 17) hx hb hts inG_X11 hown hK hP 0 rfl rfl 10 (by decide +kernel) (hts _ fl_X11_74) (fun _ h9 => h9) rfl dX11_law_1 ?_
  refine lv_istore_n (lv' := [(1, .int e_tl), (0, .ref a_o)]) hx hb dX11_law_4 rfl hl (by decide +kernel) rfl ?_
  clear hl
  intro ls hl
  refine lv_aload_n hx hb dX11_law_5 rfl (lv_at hl 1 rfl) ?_
  refine W.eq (g2 := F0 m 6 ls [.ref a_o]) rfl ?_
  refine lv_iconst (v := 0) hx hb dX11_law_6 (by decide +kernel) ?_
  refine va_put (D := G.1) (ci := 11) (v := .int 0) (ty := .int) (C := RX11) (T := TX11) (N := 17) hx hb hts inG_X11 tyX11 tyX11_ok nmX11 hown hK hP hD hS 0 rfl rfl 10 (by decide +kernel) (hts _ fl_X11_74) (fun _ h9 => h9) rfl (by decide +kernel) rfl rfl (Nat.le_of_ble_eq_true rfl) dX11_law_7 ?_
  clear hP hD hS
  intro H locs hP hD hS
  refine g5_rs [(a_o, (oc11 a_h a_im a_ke a_k a_wa a_th a_ha a_wk a_r a_x 0 e_fd e_fpl a_wd e_wn a_rf e_lr)), (a_rf, (arI G 5 f_rf)), (a_h, (oc1 e_wa e_le e_st e_fo e_lc a_l a_g a_b a_s a_p a_w e_gb a_bb)), (a_l, (arW G 6 f_l)), (a_r, (oc4 a_tk a_rh a_rs a_rc e_ln e_pa e_at e_fp)), (a_tk, (oc8 a_kd a_nm a_pl)), (a_kd, (arI G 401 f_kd)), (a_nm, (arI G 401 f_nm)), (a_pl, (arI G 401 f_pl)), (a_rc, (arI G 400 f_rc)), (a_rh, (arI G 12 f_rh)), (a_rs, (arI G 13 f_rs)), (a_x, (arI G 400 f_x))] hP hD ?_
  clear hP hD
  intro hP hD
  refine lv_aload_n hx hb dX11_law_10 rfl (lv_at hl 1 rfl) ?_
  refine va_get (D := G.1) (ci := 11) (v := .ref a_h) (C := RX11) (T := TX11) (N := 17) hx hb hts inG_X11 hown hK hP 0 rfl rfl 0 (by decide +kernel) (hts _ fl_X11_12) (fun _ h9 => h9) rfl dX11_law_11 ?_
  refine va_get (D := G.1) (ci := 1) (v := .int e_lc) (C := RX1) (T := TX1) (N := 13) hx hb hts inG_X1 hown hK hP 2 rfl rfl 4 (by decide +kernel) (hts _ fl_X11_192) (fun _ h9 => h9) rfl dX11_law_14 ?_
  refine W.eq (g2 := F0 m 17 ls [.int e_lc]) rfl ?_
  refine lv_bipush (v := 6) hx hb dX11_law_17 (by decide +kernel) ?_
  refine lv_icmp_lt (tgt := 29) hx hb dX11_law_19 (by decide +kernel) (fun c_1 => ?_) (fun c_1 => ?_)
  ·
    have i_1 : e_lc.toInt < 6 := g5_lt (a := e_lc.toInt) (b := 6) rfl (by decide +kernel) c_1
    refine lv_aload_n hx hb dX11_law_29 rfl (lv_at hl 1 rfl) ?_
    refine va_get (D := G.1) (ci := 11) (v := .ref a_r) (C := RX11) (T := TX11) (N := 17) hx hb hts inG_X11 hown hK hP 0 rfl rfl 8 (by decide +kernel) (hts _ fl_X11_66) (fun _ h9 => h9) rfl dX11_law_30 ?_
    refine lv_aload_n hx hb dX11_law_33 rfl (lv_at hl 1 rfl) ?_
    refine va_get (D := G.1) (ci := 11) (v := .ref a_x) (C := RX11) (T := TX11) (N := 17) hx hb hts inG_X11 hown hK hP 0 rfl rfl 9 (by decide +kernel) (hts _ fl_X11_70) (fun _ h9 => h9) rfl dX11_law_34 ?_
    refine W.eq (g2 := F0 m 37 ls [.ref a_x, .ref a_r]) rfl ?_
    refine lv_iload_n hx hb dX11_law_37 rfl (lv_at hl 0 rfl) ?_
    obtain ⟨hPc, hDc, hFc⟩ := g5_sub3 (wc := [(a_r, (oc4 a_tk a_rh a_rs a_rc e_ln e_pa e_at e_fp)), (a_tk, (oc8 a_kd a_nm a_pl)), (a_kd, (arI G 401 f_kd)), (a_nm, (arI G 401 f_nm)), (a_pl, (arI G 401 f_pl)), (a_rc, (arI G 400 f_rc)), (a_rh, (arI G 12 f_rh)), (a_rs, (arI G 13 f_rs)), (a_x, (arI G 400 f_x))]) hP hD hS hA [4, 5, 6, 7, 8, 9, 10, 11, 12] (by decide +kernel) rfl
    refine va_callq (va_runV (As := [.ref a_x, .int e_tl]) (rest := []) ⟨hx, hb, hml, hown, hts⟩ (r_readX l G a_r a_tk a_kd a_nm a_pl a_rc a_rh a_rs a_x H.size e_ln e_pa e_at e_fp e_tl f_kd f_nm f_pl f_rc f_rh f_rs f_x h_e_ln h_e_pa h_e_at h_e_tl (e_tk) (e_tx)) (cwV 2 hts gV_X11_195 rfl rfl rfl hv_X4_read ⟨Nat.le_of_ble_eq_true rfl, Nat.le_of_ble_eq_true rfl⟩) (g5_preV hPc hK hDc hN hT hS hFc (ci := 4) (q0 := 0) rfl rfl) rfl rfl hl.1 rfl (lv_room (Nat.le_of_ble_eq_true rfl)) dX11_law_38 ⟨Nat.le_of_ble_eq_true rfl, Nat.le_of_ble_eq_true rfl⟩) hS (fun q _ h => hFc q h) hFc (fun r u t H locs ht hvm hw hB hz1 hk1 hS => ?_)
    obtain ⟨hP1, hD1⟩ := hB
    have hP1 := g5_ht ht hP1
    refine W.widen (k := 4) (n := 429) (Nat.le_of_ble_eq_true rfl) (Nat.le_of_ble_eq_true rfl) ?_
    rcases hw with ⟨z7, z8, z9, z10, z11, z12, z13, z14, z15, z16, (i_2 : 0 ≤ z7.toInt ∧ z7.toInt ≤ 400), (i_3 : 0 ≤ z9.toInt ∧ z9.toInt ≤ 401), (i_4 : 0 ≤ z8.toInt ∧ z8.toInt ≤ 50), (i_5 : TOKI z14 z15), (i_6 : (LAWX f_x e_tl.toInt.toNat).2.2 = none ∧ z11.toInt = (pT f_x e_tl.toInt.toNat (LAWX f_x e_tl.toInt.toNat).1 : Int)), rfl, rfl⟩ | ⟨z29, z30, z31, z32, z33, z34, z35, z36, z37, z38, z39, z40, z41, z42, z43, z44, z45, z46, z47, z48, z49, (i_17 : 0 ≤ z29.toInt ∧ z29.toInt ≤ 400), (i_18 : 0 ≤ z31.toInt ∧ z31.toInt ≤ 401), (i_19 : 0 ≤ z30.toInt ∧ z30.toInt ≤ 50), (i_20 : TOKI z36 z37), (i_21 : 1 ≤ z43.toInt ∧ z43.toInt ≤ 12), (i_22 : z46 ≤ 400), (i_23 : ∀ j : Nat, j < z45 → 0 ≤ (z48 j).toInt ∧ (z48 j).toInt ≤ (z46 : Int)), (i_24 : ∀ j : Nat, j < z46 → (z49 j >>> (12 &&& 31)).toInt = 1 → (z49 j &&& 4095).toInt < 8), (i_25 : (z43.toInt : Int) ≤ (z44 : Int) ∧ (z43.toInt + 1 : Int) ≤ (z45 : Int)), (i_26 : ∃ L : List CLT, (LAWX f_x e_tl.toInt.toNat).2.2 = some L ∧ LWC z47 z48 z49 L z43.toInt.toNat), (i_27 : z33.toInt = -1), (i_28 : lvC z49 z46 ≤ 50), rfl, rfl⟩
    ·
      have hJ9 := va_join (wr := [(a_o, (oc11 a_h a_im a_ke a_k a_wa a_th a_ha a_wk a_r a_x 0 e_fd e_fpl a_wd e_wn a_rf e_lr)), (a_rf, (arI G 5 f_rf)), (a_h, (oc1 e_wa e_le e_st e_fo e_lc a_l a_g a_b a_s a_p a_w e_gb a_bb)), (a_l, (arW G 6 f_l))]) hP hD [4, 5, 6, 7, 8, 9, 10, 11, 12] [0, 1, 2, 3] rfl rfl (by decide +kernel) (by decide +kernel) hk1 hFc hP1 hD1
      clear hP hD hPc hDc hFc ht hvm hz1 hk1 hP1 hD1
      obtain ⟨hP, hD⟩ := hJ9
      refine g5_rs [(a_o, (oc11 a_h a_im a_ke a_k a_wa a_th a_ha a_wk a_r a_x 0 e_fd e_fpl a_wd e_wn a_rf e_lr)), (a_rf, (arI G 5 f_rf)), (a_h, (oc1 e_wa e_le e_st e_fo e_lc a_l a_g a_b a_s a_p a_w e_gb a_bb)), (a_l, (arW G 6 f_l)), (a_r, (oc4 a_tk a_rh a_rs a_rc z7 z8 z9 z11)), (a_tk, (oc8 a_kd a_nm a_pl)), (a_kd, (arI G 401 z14)), (a_nm, (arI G 401 z15)), (a_pl, (arI G 401 z16)), (a_rc, (arI G 400 z10)), (a_rh, (arI G 12 z12)), (a_rs, (arI G 13 z13)), (a_x, (arI G 400 f_x))] hP hD ?_
      clear hP hD
      intro hP hD
      refine g5_tv (v := .null) rfl ?_
      refine lv_astore_nN (lv' := [(2, .null), (1, .int e_tl), (0, .ref a_o)]) hx hb dX11_law_41 rfl hl (by decide +kernel) rfl ?_
      clear hl
      intro ls hl
      refine lv_aload_n hx hb dX11_law_42 rfl (lv_at hl 2 rfl) ?_
      refine lv_aload_n hx hb dX11_law_43 rfl (lv_at hl 2 rfl) ?_
      refine va_get (D := G.1) (ci := 11) (v := .ref a_r) (C := RX11) (T := TX11) (N := 17) hx hb hts inG_X11 hown hK hP 0 rfl rfl 8 (by decide +kernel) (hts _ fl_X11_66) (fun _ h9 => h9) rfl dX11_law_44 ?_
      refine W.eq (g2 := F0 m 47 ls [.ref a_r, .ref a_o]) rfl ?_
      refine va_get (D := G.1) (ci := 4) (v := .int z11) (C := RX4) (T := TX4) (N := 8) hx hb hts inG_X4 hown hK hP 4 rfl rfl 7 (by decide +kernel) (hts _ fl_X11_199) (fun _ h9 => h9) rfl dX11_law_47 ?_
      refine va_put (D := G.1) (ci := 11) (v := .int z11) (ty := .int) (C := RX11) (T := TX11) (N := 17) hx hb hts inG_X11 tyX11 tyX11_ok nmX11 hown hK hP hD hS 0 rfl rfl 12 (by decide +kernel) (hts _ fl_X11_81) (fun _ h9 => h9) rfl (by decide +kernel) rfl rfl (Nat.le_of_ble_eq_true rfl) dX11_law_50 ?_
      clear hP hD hS
      intro H locs hP hD hS
      refine g5_rs [(a_o, (oc11 a_h a_im a_ke a_k a_wa a_th a_ha a_wk a_r a_x 0 e_fd z11 a_wd e_wn a_rf e_lr)), (a_rf, (arI G 5 f_rf)), (a_h, (oc1 e_wa e_le e_st e_fo e_lc a_l a_g a_b a_s a_p a_w e_gb a_bb)), (a_l, (arW G 6 f_l)), (a_r, (oc4 a_tk a_rh a_rs a_rc z7 z8 z9 z11)), (a_tk, (oc8 a_kd a_nm a_pl)), (a_kd, (arI G 401 z14)), (a_nm, (arI G 401 z15)), (a_pl, (arI G 401 z16)), (a_rc, (arI G 400 z10)), (a_rh, (arI G 12 z12)), (a_rs, (arI G 13 z13)), (a_x, (arI G 400 f_x))] hP hD ?_
      clear hP hD
      intro hP hD
      refine lv_aload_nN hx hb dX11_law_53 rfl (lv_at hl 0 rfl) ?_
      refine lv_ifnonnullN hx hb dX11_law_54 ?_
      refine lv_aload_n hx hb dX11_law_57 rfl (lv_at hl 2 rfl) ?_
      refine W.eq (g2 := F0 m 58 ls [.ref a_o]) rfl ?_
      refine lv_bipush (v := (-6)) hx hb dX11_law_58 (by decide +kernel) ?_
      obtain ⟨hPc, hDc, hFc⟩ := g5_sub3 (wc := [(a_o, (oc11 a_h a_im a_ke a_k a_wa a_th a_ha a_wk a_r a_x 0 e_fd z11 a_wd e_wn a_rf e_lr)), (a_rf, (arI G 5 f_rf))]) hP hD hS hA [0, 1] (by decide +kernel) rfl
      refine va_calli (va_runV (As := [.int (-6)]) (rest := []) ⟨hx, hb, hml, hown, hts⟩ (x_refuse6 l G a_o a_rf a_h a_im a_ke a_k a_wa a_th a_ha a_wk a_r a_x a_wd H.size 0 e_fd z11 e_wn e_lr f_rf ⟨by decide, by decide⟩ h_e_wn) (cwV 1 hts gV_X11_104 rfl rfl rfl hv_X11_refuse ⟨Nat.le_of_ble_eq_true rfl, Nat.le_of_ble_eq_true rfl⟩) (g5_preV hPc hK hDc hN hT hS hFc (ci := 11) (q0 := 0) rfl rfl) rfl rfl hl.1 rfl (lv_room (Nat.le_of_ble_eq_true rfl)) dX11_law_60 ⟨Nat.le_of_ble_eq_true rfl, Nat.le_of_ble_eq_true rfl⟩) hS (fun q _ h => hFc q h) hFc (fun r u t H locs ht hvm hw hB hz1 hk1 hS => ?_)
      obtain ⟨hP1, hD1⟩ := hB
      have hP1 := g5_ht ht hP1
      obtain ⟨z50, rfl, rfl⟩ := hw
      have hJ9 := va_join (wr := [(a_h, (oc1 e_wa e_le e_st e_fo e_lc a_l a_g a_b a_s a_p a_w e_gb a_bb)), (a_l, (arW G 6 f_l)), (a_r, (oc4 a_tk a_rh a_rs a_rc z7 z8 z9 z11)), (a_tk, (oc8 a_kd a_nm a_pl)), (a_kd, (arI G 401 z14)), (a_nm, (arI G 401 z15)), (a_pl, (arI G 401 z16)), (a_rc, (arI G 400 z10)), (a_rh, (arI G 12 z12)), (a_rs, (arI G 13 z13)), (a_x, (arI G 400 f_x))]) hP hD [0, 1] [2, 3, 4, 5, 6, 7, 8, 9, 10, 11, 12] rfl rfl (by decide +kernel) (by decide +kernel) hk1 hFc hP1 hD1
      clear hP hD hPc hDc hFc ht hvm hz1 hk1 hP1 hD1
      obtain ⟨hP, hD⟩ := hJ9
      refine g5_rs [(a_h, (oc1 e_wa e_le e_st e_fo e_lc a_l a_g a_b a_s a_p a_w e_gb a_bb)), (a_l, (arW G 6 f_l)), (a_r, (oc4 a_tk a_rh a_rs a_rc z7 z8 z9 z11)), (a_tk, (oc8 a_kd a_nm a_pl)), (a_kd, (arI G 401 z14)), (a_nm, (arI G 401 z15)), (a_pl, (arI G 401 z16)), (a_rc, (arI G 400 z10)), (a_rh, (arI G 12 z12)), (a_rs, (arI G 13 z13)), (a_x, (arI G 400 f_x)), (a_o, (oc11 a_h a_im a_ke a_k a_wa a_th a_ha a_wk a_r a_x 0 e_fd z11 a_wd e_wn a_rf (-6))), (a_rf, (arI G 5 z50))] hP hD ?_
      clear hP hD
      intro hP hD
      exact W.iret (v := (-6)) hx hb hr (fun t ht hW => ⟨⟨(-6), [(a_o, (oc11 a_h a_im a_ke a_k a_wa a_th a_ha a_wk a_r a_x 0 e_fd z11 a_wd e_wn a_rf (-6))), (a_rf, (arI G 5 z50)), (a_h, (oc1 e_wa e_le e_st e_fo e_lc a_l a_g a_b a_s a_p a_w e_gb a_bb)), (a_l, (arW G 6 f_l)), (a_r, (oc4 a_tk a_rh a_rs a_rc z7 z8 z9 z11)), (a_tk, (oc8 a_kd a_nm a_pl)), (a_kd, (arI G 401 z14)), (a_nm, (arI G 401 z15)), (a_pl, (arI G 401 z16)), (a_rc, (arI G 400 z10)), (a_rh, (arI G 12 z12)), (a_rs, (arI G 13 z13)), (a_x, (arI G 400 f_x))], rfl, Or.inl (⟨(-6), (-6), z50, z7, z8, z9, z10, z11, z11, z12, z13, z14, z15, z16, i_2, i_3, i_4, i_5, Or.inr ⟨by omega, i_6.1, by first | decide | omega, i_6.2⟩, rfl, rfl⟩), by rw [ht]; exact hP.sub [11, 12, 0, 1, 2, 3, 4, 5, 6, 7, 8, 9, 10] rfl, hD.sub [11, 12, 0, 1, 2, 3, 4, 5, 6, 7, 8, 9, 10] (by decide +kernel) rfl⟩, hS.F ht⟩) hS.2.2 dX11_law_63
    ·
      have hJ9 := va_join (wr := [(a_o, (oc11 a_h a_im a_ke a_k a_wa a_th a_ha a_wk a_r a_x 0 e_fd e_fpl a_wd e_wn a_rf e_lr)), (a_rf, (arI G 5 f_rf)), (a_h, (oc1 e_wa e_le e_st e_fo e_lc a_l a_g a_b a_s a_p a_w e_gb a_bb)), (a_l, (arW G 6 f_l))]) hP hD [4, 5, 6, 7, 8, 9, 10, 11, 12] [0, 1, 2, 3] rfl rfl (by decide +kernel) (by decide +kernel) hk1 hFc hP1 hD1
      clear hP hD hPc hDc hFc ht hvm hz1 hk1 hP1 hD1
      obtain ⟨hP, hD⟩ := hJ9
      refine g5_rs [(a_o, (oc11 a_h a_im a_ke a_k a_wa a_th a_ha a_wk a_r a_x 0 e_fd e_fpl a_wd e_wn a_rf e_lr)), (a_rf, (arI G 5 f_rf)), (a_h, (oc1 e_wa e_le e_st e_fo e_lc a_l a_g a_b a_s a_p a_w e_gb a_bb)), (a_l, (arW G 6 f_l)), (a_r, (oc4 a_tk a_rh a_rs a_rc z29 z30 z31 z33)), (a_tk, (oc8 a_kd a_nm a_pl)), (a_kd, (arI G 401 z36)), (a_nm, (arI G 401 z37)), (a_pl, (arI G 401 z38)), (a_rc, (arI G 400 z32)), (a_rh, (arI G 12 z34)), (a_rs, (arI G 13 z35)), (a_x, (arI G 400 f_x)), (z39, (oc3 z43 z40 z41 z42)), (z40, (arI G z44 z47)), (z41, (arI G z45 z48)), (z42, (arI G z46 z49))] hP hD ?_
      clear hP hD
      intro hP hD
      refine g5_tv (v := .ref z39) rfl ?_
      refine lv_astore_n (lv' := [(2, .ref z39), (1, .int e_tl), (0, .ref a_o)]) hx hb dX11_law_41 rfl hl (by decide +kernel) rfl ?_
      clear hl
      intro ls hl
      refine lv_aload_n hx hb dX11_law_42 rfl (lv_at hl 2 rfl) ?_
      refine lv_aload_n hx hb dX11_law_43 rfl (lv_at hl 2 rfl) ?_
      refine va_get (D := G.1) (ci := 11) (v := .ref a_r) (C := RX11) (T := TX11) (N := 17) hx hb hts inG_X11 hown hK hP 0 rfl rfl 8 (by decide +kernel) (hts _ fl_X11_66) (fun _ h9 => h9) rfl dX11_law_44 ?_
      refine W.eq (g2 := F0 m 47 ls [.ref a_r, .ref a_o]) rfl ?_
      refine va_get (D := G.1) (ci := 4) (v := .int z33) (C := RX4) (T := TX4) (N := 8) hx hb hts inG_X4 hown hK hP 4 rfl rfl 7 (by decide +kernel) (hts _ fl_X11_199) (fun _ h9 => h9) rfl dX11_law_47 ?_
      refine va_put (D := G.1) (ci := 11) (v := .int z33) (ty := .int) (C := RX11) (T := TX11) (N := 17) hx hb hts inG_X11 tyX11 tyX11_ok nmX11 hown hK hP hD hS 0 rfl rfl 12 (by decide +kernel) (hts _ fl_X11_81) (fun _ h9 => h9) rfl (by decide +kernel) rfl rfl (Nat.le_of_ble_eq_true rfl) dX11_law_50 ?_
      clear hP hD hS
      intro H locs hP hD hS
      refine g5_rs [(a_o, (oc11 a_h a_im a_ke a_k a_wa a_th a_ha a_wk a_r a_x 0 e_fd z33 a_wd e_wn a_rf e_lr)), (a_rf, (arI G 5 f_rf)), (a_h, (oc1 e_wa e_le e_st e_fo e_lc a_l a_g a_b a_s a_p a_w e_gb a_bb)), (a_l, (arW G 6 f_l)), (a_r, (oc4 a_tk a_rh a_rs a_rc z29 z30 z31 z33)), (a_tk, (oc8 a_kd a_nm a_pl)), (a_kd, (arI G 401 z36)), (a_nm, (arI G 401 z37)), (a_pl, (arI G 401 z38)), (a_rc, (arI G 400 z32)), (a_rh, (arI G 12 z34)), (a_rs, (arI G 13 z35)), (a_x, (arI G 400 f_x)), (z39, (oc3 z43 z40 z41 z42)), (z40, (arI G z44 z47)), (z41, (arI G z45 z48)), (z42, (arI G z46 z49))] hP hD ?_
      clear hP hD
      intro hP hD
      refine lv_aload_n hx hb dX11_law_53 rfl (lv_at hl 0 rfl) ?_
      refine lv_ifnonnull (tgt := 64) hx hb dX11_law_54 (by decide +kernel) ?_
      refine lv_aload_n hx hb dX11_law_64 rfl (lv_at hl 2 rfl) ?_
      refine W.eq (g2 := F0 m 65 ls [.ref a_o]) rfl ?_
      refine va_get (D := G.1) (ci := 11) (v := .ref a_h) (C := RX11) (T := TX11) (N := 17) hx hb hts inG_X11 hown hK hP 0 rfl rfl 0 (by decide +kernel) (hts _ fl_X11_12) (fun _ h9 => h9) rfl dX11_law_65 ?_
      refine va_get (D := G.1) (ci := 1) (v := .ref a_l) (C := RX1) (T := TX1) (N := 13) hx hb hts inG_X1 hown hK hP 2 rfl rfl 5 (by decide +kernel) (hts _ fl_X11_200) (fun _ h9 => h9) rfl dX11_law_68 ?_
      refine lv_aload_n hx hb dX11_law_71 rfl (lv_at hl 2 rfl) ?_
      refine va_get (D := G.1) (ci := 11) (v := .ref a_h) (C := RX11) (T := TX11) (N := 17) hx hb hts inG_X11 hown hK hP 0 rfl rfl 0 (by decide +kernel) (hts _ fl_X11_12) (fun _ h9 => h9) rfl dX11_law_72 ?_
      refine va_get (D := G.1) (ci := 1) (v := .int e_lc) (C := RX1) (T := TX1) (N := 13) hx hb hts inG_X1 hown hK hP 2 rfl rfl 4 (by decide +kernel) (hts _ fl_X11_192) (fun _ h9 => h9) rfl dX11_law_75 ?_
      refine W.eq (g2 := F0 m 78 ls [.int e_lc, .ref a_l]) rfl ?_
      refine lv_aload_n hx hb dX11_law_78 rfl (lv_at hl 0 rfl) ?_
      refine va_astq hx hb hK hP hD hS 3 4 13 3 rfl rfl rfl rfl (i := e_lc) (vp_in_iff.mpr ⟨by omega, by omega⟩) dX11_law_79 ?_
      clear hP hD hS
      intro H locs hP hD hS
      refine g5_rs [(a_o, (oc11 a_h a_im a_ke a_k a_wa a_th a_ha a_wk a_r a_x 0 e_fd z33 a_wd e_wn a_rf e_lr)), (a_rf, (arI G 5 f_rf)), (a_h, (oc1 e_wa e_le e_st e_fo e_lc a_l a_g a_b a_s a_p a_w e_gb a_bb)), (a_l, (arW G 6 (va_up f_l e_lc.toNatClampNeg (some z39)))), (a_r, (oc4 a_tk a_rh a_rs a_rc z29 z30 z31 z33)), (a_tk, (oc8 a_kd a_nm a_pl)), (a_kd, (arI G 401 z36)), (a_nm, (arI G 401 z37)), (a_pl, (arI G 401 z38)), (a_rc, (arI G 400 z32)), (a_rh, (arI G 12 z34)), (a_rs, (arI G 13 z35)), (a_x, (arI G 400 f_x)), (z39, (oc3 z43 z40 z41 z42)), (z40, (arI G z44 z47)), (z41, (arI G z45 z48)), (z42, (arI G z46 z49))] hP hD ?_
      clear hP hD
      intro hP hD
      refine lv_aload_n hx hb dX11_law_80 rfl (lv_at hl 2 rfl) ?_
      refine va_get (D := G.1) (ci := 11) (v := .ref a_h) (C := RX11) (T := TX11) (N := 17) hx hb hts inG_X11 hown hK hP 0 rfl rfl 0 (by decide +kernel) (hts _ fl_X11_12) (fun _ h9 => h9) rfl dX11_law_81 ?_
      refine lv_dup hx hb dX11_law_84 rfl ?_
      refine W.eq (g2 := F0 m 85 ls [.ref a_h, .ref a_h]) rfl ?_
      refine va_get (D := G.1) (ci := 1) (v := .int e_lc) (C := RX1) (T := TX1) (N := 13) hx hb hts inG_X1 hown hK hP 2 rfl rfl 4 (by decide +kernel) (hts _ fl_X11_192) (fun _ h9 => h9) rfl dX11_law_85 ?_
      refine lv_iconst (v := 1) hx hb dX11_law_88 (by decide +kernel) ?_
      refine lv_iadd hx hb dX11_law_89 ?_
      have t_51 : (e_lc + 1).toInt = e_lc.toInt + 1 := g5_iadd (a := e_lc.toInt) (b := 1) (by rfl) (by decide +kernel) (by omega) (by omega)
      refine va_put (D := G.1) (ci := 1) (v := .int (e_lc + 1)) (ty := .int) (C := RX1) (T := TX1) (N := 13) hx hb hts inG_X1 tyX1 tyX1_ok nmX1 hown hK hP hD hS 2 rfl rfl 4 (by decide +kernel) (hts _ fl_X11_192) (fun _ h9 => h9) rfl (by decide +kernel) rfl rfl (Nat.le_of_ble_eq_true rfl) dX11_law_90 ?_
      clear hP hD hS
      intro H locs hP hD hS
      refine g5_rs [(a_o, (oc11 a_h a_im a_ke a_k a_wa a_th a_ha a_wk a_r a_x 0 e_fd z33 a_wd e_wn a_rf e_lr)), (a_rf, (arI G 5 f_rf)), (a_h, (oc1 e_wa e_le e_st e_fo (e_lc + 1) a_l a_g a_b a_s a_p a_w e_gb a_bb)), (a_l, (arW G 6 (va_up f_l e_lc.toNatClampNeg (some z39)))), (a_r, (oc4 a_tk a_rh a_rs a_rc z29 z30 z31 z33)), (a_tk, (oc8 a_kd a_nm a_pl)), (a_kd, (arI G 401 z36)), (a_nm, (arI G 401 z37)), (a_pl, (arI G 401 z38)), (a_rc, (arI G 400 z32)), (a_rh, (arI G 12 z34)), (a_rs, (arI G 13 z35)), (a_x, (arI G 400 f_x)), (z39, (oc3 z43 z40 z41 z42)), (z40, (arI G z44 z47)), (z41, (arI G z45 z48)), (z42, (arI G z46 z49))] hP hD ?_
      clear hP hD
      intro hP hD
      refine lv_aload_n hx hb dX11_law_93 rfl (lv_at hl 2 rfl) ?_
      refine W.eq (g2 := F0 m 94 ls [.ref a_o]) rfl ?_
      refine lv_aload_n hx hb dX11_law_94 rfl (lv_at hl 2 rfl) ?_
      refine va_get (D := G.1) (ci := 11) (v := .ref a_h) (C := RX11) (T := TX11) (N := 17) hx hb hts inG_X11 hown hK hP 0 rfl rfl 0 (by decide +kernel) (hts _ fl_X11_12) (fun _ h9 => h9) rfl dX11_law_95 ?_
      refine va_get (D := G.1) (ci := 1) (v := .int (e_lc + 1)) (C := RX1) (T := TX1) (N := 13) hx hb hts inG_X1 hown hK hP 2 rfl rfl 4 (by decide +kernel) (hts _ fl_X11_192) (fun _ h9 => h9) rfl dX11_law_98 ?_
      refine lv_iconst (v := 1) hx hb dX11_law_101 (by decide +kernel) ?_
      refine lv_isub hx hb dX11_law_102 ?_
      have t_52 : ((e_lc + 1) - 1).toInt = (e_lc + 1).toInt - 1 := g5_isub (a := (e_lc + 1).toInt) (b := 1) (by rfl) (by decide +kernel) (by omega) (by omega)
      refine W.eq (g2 := F0 m 103 ls [.int ((e_lc + 1) - 1), .ref a_o]) rfl ?_
      obtain ⟨hPc, hDc, hFc⟩ := g5_sub3 (wc := [(a_o, (oc11 a_h a_im a_ke a_k a_wa a_th a_ha a_wk a_r a_x 0 e_fd z33 a_wd e_wn a_rf e_lr))]) hP hD hS hA [0] (by decide +kernel) rfl
      refine va_calli (va_runV (As := [.int ((e_lc + 1) - 1)]) (rest := []) ⟨hx, hb, hml, hown, hts⟩ (x_done l G a_o a_h a_im a_ke a_k a_wa a_th a_ha a_wk a_r a_x a_wd a_rf H.size 0 e_fd z33 e_wn e_lr ((e_lc + 1) - 1) ⟨by decide, by decide⟩ h_e_wn) (cwV 1 hts gV_X11_121 rfl rfl rfl hv_X11_done ⟨Nat.le_of_ble_eq_true rfl, Nat.le_of_ble_eq_true rfl⟩) (g5_preV hPc hK hDc hN hT hS hFc (ci := 11) (q0 := 0) rfl rfl) rfl rfl hl.1 rfl (lv_room (Nat.le_of_ble_eq_true rfl)) dX11_law_103 ⟨Nat.le_of_ble_eq_true rfl, Nat.le_of_ble_eq_true rfl⟩) hS (fun q _ h => hFc q h) hFc (fun r u t H locs ht hvm hw hB hz1 hk1 hS => ?_)
      obtain ⟨hP1, hD1⟩ := hB
      have hP1 := g5_ht ht hP1
      obtain ⟨rfl, rfl⟩ := hw
      have hJ9 := va_join (wr := [(a_rf, (arI G 5 f_rf)), (a_h, (oc1 e_wa e_le e_st e_fo (e_lc + 1) a_l a_g a_b a_s a_p a_w e_gb a_bb)), (a_l, (arW G 6 (va_up f_l e_lc.toNatClampNeg (some z39)))), (a_r, (oc4 a_tk a_rh a_rs a_rc z29 z30 z31 z33)), (a_tk, (oc8 a_kd a_nm a_pl)), (a_kd, (arI G 401 z36)), (a_nm, (arI G 401 z37)), (a_pl, (arI G 401 z38)), (a_rc, (arI G 400 z32)), (a_rh, (arI G 12 z34)), (a_rs, (arI G 13 z35)), (a_x, (arI G 400 f_x)), (z39, (oc3 z43 z40 z41 z42)), (z40, (arI G z44 z47)), (z41, (arI G z45 z48)), (z42, (arI G z46 z49))]) hP hD [0] [1, 2, 3, 4, 5, 6, 7, 8, 9, 10, 11, 12, 13, 14, 15, 16] rfl rfl (by decide +kernel) (by decide +kernel) hk1 hFc hP1 hD1
      clear hP hD hPc hDc hFc ht hvm hz1 hk1 hP1 hD1
      obtain ⟨hP, hD⟩ := hJ9
      refine g5_rs [(a_rf, (arI G 5 f_rf)), (a_h, (oc1 e_wa e_le e_st e_fo (e_lc + 1) a_l a_g a_b a_s a_p a_w e_gb a_bb)), (a_l, (arW G 6 (va_up f_l e_lc.toNatClampNeg (some z39)))), (a_r, (oc4 a_tk a_rh a_rs a_rc z29 z30 z31 z33)), (a_tk, (oc8 a_kd a_nm a_pl)), (a_kd, (arI G 401 z36)), (a_nm, (arI G 401 z37)), (a_pl, (arI G 401 z38)), (a_rc, (arI G 400 z32)), (a_rh, (arI G 12 z34)), (a_rs, (arI G 13 z35)), (a_x, (arI G 400 f_x)), (z39, (oc3 z43 z40 z41 z42)), (z40, (arI G z44 z47)), (z41, (arI G z45 z48)), (z42, (arI G z46 z49)), (a_o, (oc11 a_h a_im a_ke a_k a_wa a_th a_ha a_wk a_r a_x 0 e_fd z33 a_wd e_wn a_rf 0))] hP hD ?_
      clear hP hD
      intro hP hD
      exact W.iret (v := ((e_lc + 1) - 1)) hx hb hr (fun t ht hW => ⟨⟨((e_lc + 1) - 1), [(a_o, (oc11 a_h a_im a_ke a_k a_wa a_th a_ha a_wk a_r a_x 0 e_fd z33 a_wd e_wn a_rf 0)), (a_rf, (arI G 5 f_rf)), (a_h, (oc1 e_wa e_le e_st e_fo (e_lc + 1) a_l a_g a_b a_s a_p a_w e_gb a_bb)), (a_l, (arW G 6 (va_up f_l e_lc.toNatClampNeg (some z39)))), (a_r, (oc4 a_tk a_rh a_rs a_rc z29 z30 z31 z33)), (a_tk, (oc8 a_kd a_nm a_pl)), (a_kd, (arI G 401 z36)), (a_nm, (arI G 401 z37)), (a_pl, (arI G 401 z38)), (a_rc, (arI G 400 z32)), (a_rh, (arI G 12 z34)), (a_rs, (arI G 13 z35)), (a_x, (arI G 400 f_x)), (z39, (oc3 z43 z40 z41 z42)), (z40, (arI G z44 z47)), (z41, (arI G z45 z48)), (z42, (arI G z46 z49))], rfl, Or.inr (⟨((e_lc + 1) - 1), 0, f_rf, z29, z30, z31, z32, z33, z33, z34, z35, z36, z37, z38, (e_lc + 1), z39, z40, z41, z42, z43, z44, z45, z46, z47, z48, z49, i_17, i_18, i_19, i_20, ⟨by omega, by omega, by omega⟩, i_21, i_22, i_23, i_24, i_25, i_26, i_28, by omega, by omega, rfl, rfl⟩), by rw [ht]; exact hP.sub [16, 0, 1, 2, 3, 4, 5, 6, 7, 8, 9, 10, 11, 12, 13, 14, 15] rfl, hD.sub [16, 0, 1, 2, 3, 4, 5, 6, 7, 8, 9, 10, 11, 12, 13, 14, 15] (by decide +kernel) rfl⟩, hS.F ht⟩) hS.2.2 dX11_law_106
  ·
    have i_1 : e_lc.toInt ≥ 6 := g5_ltN (a := e_lc.toInt) (b := 6) rfl (by decide +kernel) c_1
    refine lv_aload_n hx hb dX11_law_22 rfl (lv_at hl 1 rfl) ?_
    refine lv_bipush (v := (-5)) hx hb dX11_law_23 (by decide +kernel) ?_
    obtain ⟨hPc, hDc, hFc⟩ := g5_sub3 (wc := [(a_o, (oc11 a_h a_im a_ke a_k a_wa a_th a_ha a_wk a_r a_x 0 e_fd e_fpl a_wd e_wn a_rf e_lr)), (a_rf, (arI G 5 f_rf))]) hP hD hS hA [0, 1] (by decide +kernel) rfl
    refine va_calli (va_runV (As := [.int (-5)]) (rest := []) ⟨hx, hb, hml, hown, hts⟩ (x_refuse5 l G a_o a_rf a_h a_im a_ke a_k a_wa a_th a_ha a_wk a_r a_x a_wd H.size 0 e_fd e_fpl e_wn e_lr f_rf ⟨by decide, by decide⟩ h_e_wn) (cwV 1 hts gV_X11_104 rfl rfl rfl hv_X11_refuse ⟨Nat.le_of_ble_eq_true rfl, Nat.le_of_ble_eq_true rfl⟩) (g5_preV hPc hK hDc hN hT hS hFc (ci := 11) (q0 := 0) rfl rfl) rfl rfl hl.1 rfl (lv_room (Nat.le_of_ble_eq_true rfl)) dX11_law_25 ⟨Nat.le_of_ble_eq_true rfl, Nat.le_of_ble_eq_true rfl⟩) hS (fun q _ h => hFc q h) hFc (fun r u t H locs ht hvm hw hB hz1 hk1 hS => ?_)
    obtain ⟨hP1, hD1⟩ := hB
    have hP1 := g5_ht ht hP1
    obtain ⟨z53, rfl, rfl⟩ := hw
    have hJ9 := va_join (wr := [(a_h, (oc1 e_wa e_le e_st e_fo e_lc a_l a_g a_b a_s a_p a_w e_gb a_bb)), (a_l, (arW G 6 f_l)), (a_r, (oc4 a_tk a_rh a_rs a_rc e_ln e_pa e_at e_fp)), (a_tk, (oc8 a_kd a_nm a_pl)), (a_kd, (arI G 401 f_kd)), (a_nm, (arI G 401 f_nm)), (a_pl, (arI G 401 f_pl)), (a_rc, (arI G 400 f_rc)), (a_rh, (arI G 12 f_rh)), (a_rs, (arI G 13 f_rs)), (a_x, (arI G 400 f_x))]) hP hD [0, 1] [2, 3, 4, 5, 6, 7, 8, 9, 10, 11, 12] rfl rfl (by decide +kernel) (by decide +kernel) hk1 hFc hP1 hD1
    clear hP hD hPc hDc hFc ht hvm hz1 hk1 hP1 hD1
    obtain ⟨hP, hD⟩ := hJ9
    refine g5_rs [(a_h, (oc1 e_wa e_le e_st e_fo e_lc a_l a_g a_b a_s a_p a_w e_gb a_bb)), (a_l, (arW G 6 f_l)), (a_r, (oc4 a_tk a_rh a_rs a_rc e_ln e_pa e_at e_fp)), (a_tk, (oc8 a_kd a_nm a_pl)), (a_kd, (arI G 401 f_kd)), (a_nm, (arI G 401 f_nm)), (a_pl, (arI G 401 f_pl)), (a_rc, (arI G 400 f_rc)), (a_rh, (arI G 12 f_rh)), (a_rs, (arI G 13 f_rs)), (a_x, (arI G 400 f_x)), (a_o, (oc11 a_h a_im a_ke a_k a_wa a_th a_ha a_wk a_r a_x 0 e_fd e_fpl a_wd e_wn a_rf (-5))), (a_rf, (arI G 5 z53))] hP hD ?_
    clear hP hD
    intro hP hD
    refine W.widen (k := 4) (n := 429) (by decide +kernel) (by decide +kernel) ?_
    exact W.iret (v := (-5)) hx hb hr (fun t ht hW => ⟨⟨(-5), [(a_o, (oc11 a_h a_im a_ke a_k a_wa a_th a_ha a_wk a_r a_x 0 e_fd e_fpl a_wd e_wn a_rf (-5))), (a_rf, (arI G 5 z53)), (a_h, (oc1 e_wa e_le e_st e_fo e_lc a_l a_g a_b a_s a_p a_w e_gb a_bb)), (a_l, (arW G 6 f_l)), (a_r, (oc4 a_tk a_rh a_rs a_rc e_ln e_pa e_at e_fp)), (a_tk, (oc8 a_kd a_nm a_pl)), (a_kd, (arI G 401 f_kd)), (a_nm, (arI G 401 f_nm)), (a_pl, (arI G 401 f_pl)), (a_rc, (arI G 400 f_rc)), (a_rh, (arI G 12 f_rh)), (a_rs, (arI G 13 f_rs)), (a_x, (arI G 400 f_x))], rfl, Or.inl (⟨(-5), (-5), z53, e_ln, e_pa, e_at, f_rc, e_fp, e_fpl, f_rh, f_rs, f_kd, f_nm, f_pl, h_e_ln, h_e_at, h_e_pa, e_tk, Or.inl ⟨by omega, by first | decide | omega, rfl⟩, rfl, rfl⟩), by rw [ht]; exact hP.sub [11, 12, 0, 1, 2, 3, 4, 5, 6, 7, 8, 9, 10] rfl, hD.sub [11, 12, 0, 1, 2, 3, 4, 5, 6, 7, 8, 9, 10] (by decide +kernel) rfl⟩, hS.F ht⟩) hS.2.2 dX11_law_28
set_option maxHeartbeats 4000000 in
set_option maxRecDepth 100000 in
theorem x_forceY (l : Launch) (G : g5_G) (a_o a_rf a_h a_im a_ke a_k a_wa a_th a_ha a_wk a_r a_x a_wd a_l a_g a_b a_s a_p a_w a_bb : Nat) (sz : Nat) (e_tl : Int32) (e_fd : Int32) (e_fpl : Int32) (e_wn : Int32) (e_lr : Int32) (e_le : Int32) (e_st : Int32) (e_fo : Int32) (e_lc : Int32) (p_l : Int32) (e_wa : Int64) (e_gb : Int64) (f_rf : Nat → Int32) (h_e_tl : 0 ≤ e_tl.toInt ∧ e_tl.toInt ≤ 400) (h_e_wn : 0 ≤ e_wn.toInt ∧ e_wn.toInt ≤ 1) (e_fk : -1 ≤ e_fo.toInt ∧ e_fo.toInt < e_lc.toInt) : Met l yX11_force (wsG yX11_force cX11_force 3 (some .int)) ({ frames := 1, cells := 0, slots := 0, locals := 22 }) (va_Pc [.ref a_o, .int p_l] (g5_P G [(a_o, (oc11 a_h a_im a_ke a_k a_wa a_th a_ha a_wk a_r a_x e_tl e_fd e_fpl a_wd e_wn a_rf e_lr)), (a_rf, (arI G 5 f_rf)), (a_h, (oc1 e_wa e_le e_st e_fo e_lc a_l a_g a_b a_s a_p a_w e_gb a_bb))] sz)) (va_Qi (fun (r : Int32) (u : va_W) => (∃ (o_r : Int32) (o_lr : Int32) (o_rf : Nat → Int32) (o_fo : Int32), (-1 ≤ o_fo.toInt ∧ o_fo.toInt < e_lc.toInt) ∧ ((-1 ≤ p_l.toInt ∧ p_l.toInt < e_lc.toInt ∧ o_fo = p_l ∧ o_r = e_fo) ∨ ((p_l.toInt < -1 ∨ e_lc.toInt ≤ p_l.toInt) ∧ o_fo = e_fo ∧ o_r = -2)) ∧ (r = o_r) ∧ (u = [(a_o, (oc11 a_h a_im a_ke a_k a_wa a_th a_ha a_wk a_r a_x e_tl e_fd e_fpl a_wd e_wn a_rf o_lr)), (a_rf, (arI G 5 o_rf)), (a_h, (oc1 e_wa e_le e_st o_fo e_lc a_l a_g a_b a_s a_p a_w e_gb a_bb))]))) (g5_B G (va_A [(a_o, (oc11 a_h a_im a_ke a_k a_wa a_th a_ha a_wk a_r a_x e_tl e_fd e_fpl a_wd e_wn a_rf e_lr)), (a_rf, (arI G 5 f_rf)), (a_h, (oc1 e_wa e_le e_st e_fo e_lc a_l a_g a_b a_s a_p a_w e_gb a_bb))] sz)) (va_A [(a_o, (oc11 a_h a_im a_ke a_k a_wa a_th a_ha a_wk a_r a_x e_tl e_fd e_fpl a_wd e_wn a_rf e_lr)), (a_rf, (arI G 5 f_rf)), (a_h, (oc1 e_wa e_le e_st e_fo e_lc a_l a_g a_b a_s a_p a_w e_gb a_bb))] sz)) 0 0 (va_A [(a_o, (oc11 a_h a_im a_ke a_k a_wa a_th a_ha a_wk a_r a_x e_tl e_fd e_fpl a_wd e_wn a_rf e_lr)), (a_rf, (arI G 5 f_rf)), (a_h, (oc1 e_wa e_le e_st e_fo e_lc a_l a_g a_b a_s a_p a_w e_gb a_bb))] sz) := by
  refine Met.ofW (cc := cX11_force) (maxL := 3) (ret := (some .int)) (by decide +kernel) rfl ?_
  intro p e s m args below meth c s₁ B hml hv
  obtain ⟨rfl, hsz, hP, hK, hD0, hN, hT⟩ := hv
  have hx := B.exec
  have hb := B.bytes
  have hr := B.returns
  have hts : ∀ w ∈ tblG, w.before _ s = true := fun w h => atoms_spec (ws := (wsG yX11_force cX11_force 3 (some .int))) B.pre w (List.mem_cons_of_mem _ h)
  have hown : s.vm.findClass RX11 = some m.cls := findClass_of_methodNamed B.named
  have hlocks := B.notSynchronized
  subst hsz
  have hD := hD0.self (sz := s.heap.size)
  generalize hAe : va_A [(a_o, (oc11 a_h a_im a_ke a_k a_wa a_th a_ha a_wk a_r a_x e_tl e_fd e_fpl a_wd e_wn a_rf e_lr)), (a_rf, (arI G 5 f_rf)), (a_h, (oc1 e_wa e_le e_st e_fo e_lc a_l a_g a_b a_s a_p a_w e_gb a_bb))] s.heap.size = A at hD hT ⊢
  have hA : ∀ q : Nat, s.heap.size ≤ q → A q := fun q h => by rw [← hAe]; exact Or.inr h
  have hS : va_S A s.heap s.heap [] := va_S.rf
  replace hP : va_P G.1 vwCl [(a_o, (oc11 a_h a_im a_ke a_k a_wa a_th a_ha a_wk a_r a_x e_tl e_fd e_fpl a_wd e_wn a_rf e_lr)), (a_rf, (arI G 5 f_rf)), (a_h, (oc1 e_wa e_le e_st e_fo e_lc a_l a_g a_b a_s a_p a_w e_gb a_bb))] s.heap := hP
  have hl := lv_entry ([.ref a_o, .int p_l]) (n := 3) (Nat.le_of_ble_eq_true rfl)
  rw [lg_entry_eq]
  generalize (lg_sl ([.ref a_o, .int p_l]) ++ List.replicate (3 - (lg_sl ([.ref a_o, .int p_l])).length) Slot.unset).toArray = ls at hl ⊢
  replace hl : lv_has ls 3 [(0, .ref a_o), (1, .int p_l)] := hl
  refine lv_iload_n hx hb dX11_force_0 rfl (lv_at hl 1 rfl) ?_
  refine lv_iconst (v := (-1)) hx hb dX11_force_1 (by decide +kernel) ?_
  refine lv_icmp_lt (tgt := 16) hx hb dX11_force_2 (by decide +kernel) (fun c_1 => ?_) (fun c_1 => ?_)
  ·
    have i_1 : p_l.toInt < (-1) := g5_lt (a := p_l.toInt) (b := (-1)) rfl (by decide +kernel) c_1
    refine lv_aload_n hx hb dX11_force_16 rfl (lv_at hl 0 rfl) ?_
    refine lv_bipush (v := (-2)) hx hb dX11_force_17 (by decide +kernel) ?_
    obtain ⟨hPc, hDc, hFc⟩ := g5_sub3 (wc := [(a_o, (oc11 a_h a_im a_ke a_k a_wa a_th a_ha a_wk a_r a_x e_tl e_fd e_fpl a_wd e_wn a_rf e_lr)), (a_rf, (arI G 5 f_rf))]) hP hD hS hA [0, 1] (by decide +kernel) rfl
    refine va_calli (va_runV (As := [.int (-2)]) (rest := []) ⟨hx, hb, hml, hown, hts⟩ (x_refuse2 l G a_o a_rf a_h a_im a_ke a_k a_wa a_th a_ha a_wk a_r a_x a_wd s.heap.size e_tl e_fd e_fpl e_wn e_lr f_rf h_e_tl h_e_wn) (cwV 1 hts gV_X11_104 rfl rfl rfl hv_X11_refuse ⟨Nat.le_of_ble_eq_true rfl, Nat.le_of_ble_eq_true rfl⟩) (g5_preV hPc hK hDc hN hT hS hFc (ci := 11) (q0 := 0) rfl rfl) rfl rfl hl.1 rfl (lv_room (Nat.le_of_ble_eq_true rfl)) dX11_force_19 ⟨Nat.le_of_ble_eq_true rfl, Nat.le_of_ble_eq_true rfl⟩) hS (fun q _ h => hFc q h) hFc (fun r u t H locs ht hvm hw hB hz1 hk1 hS => ?_)
    obtain ⟨hP1, hD1⟩ := hB
    have hP1 := g5_ht ht hP1
    obtain ⟨z2, rfl, rfl⟩ := hw
    have hJ9 := va_join (wr := [(a_h, (oc1 e_wa e_le e_st e_fo e_lc a_l a_g a_b a_s a_p a_w e_gb a_bb))]) hP hD [0, 1] [2] rfl rfl (by decide +kernel) (by decide +kernel) hk1 hFc hP1 hD1
    clear hP hD hPc hDc hFc ht hvm hz1 hk1 hP1 hD1
    obtain ⟨hP, hD⟩ := hJ9
    refine g5_rs [(a_h, (oc1 e_wa e_le e_st e_fo e_lc a_l a_g a_b a_s a_p a_w e_gb a_bb)), (a_o, (oc11 a_h a_im a_ke a_k a_wa a_th a_ha a_wk a_r a_x e_tl e_fd e_fpl a_wd e_wn a_rf (-2))), (a_rf, (arI G 5 z2))] hP hD ?_
    clear hP hD
    intro hP hD
    exact W.iret (v := (-2)) hx hb hr (fun t ht hW => ⟨⟨(-2), [(a_o, (oc11 a_h a_im a_ke a_k a_wa a_th a_ha a_wk a_r a_x e_tl e_fd e_fpl a_wd e_wn a_rf (-2))), (a_rf, (arI G 5 z2)), (a_h, (oc1 e_wa e_le e_st e_fo e_lc a_l a_g a_b a_s a_p a_w e_gb a_bb))], rfl, ⟨(-2), (-2), z2, e_fo, e_fk, Or.inr ⟨by omega, rfl, rfl⟩, rfl, rfl⟩, by rw [ht]; exact hP.sub [1, 2, 0] rfl, hD.sub [1, 2, 0] (by decide +kernel) rfl⟩, hS.F ht⟩) hS.2.2 dX11_force_22
  ·
    have i_1 : p_l.toInt ≥ (-1) := g5_ltN (a := p_l.toInt) (b := (-1)) rfl (by decide +kernel) c_1
    refine lv_iload_n hx hb dX11_force_5 rfl (lv_at hl 1 rfl) ?_
    refine lv_aload_n hx hb dX11_force_6 rfl (lv_at hl 0 rfl) ?_
    refine va_get (D := G.1) (ci := 11) (v := .ref a_h) (C := RX11) (T := TX11) (N := 17) hx hb hts inG_X11 hown hK hP 0 rfl rfl 0 (by decide +kernel) (hts _ fl_X11_12) (fun _ h9 => h9) rfl dX11_force_7 ?_
    refine va_get (D := G.1) (ci := 1) (v := .int e_lc) (C := RX1) (T := TX1) (N := 13) hx hb hts inG_X1 hown hK hP 2 rfl rfl 4 (by decide +kernel) (hts _ fl_X11_192) (fun _ h9 => h9) rfl dX11_force_10 ?_
    refine W.eq (g2 := F0 m 13 ls [.int e_lc, .int p_l]) rfl ?_
    refine lv_icmp_lt (tgt := 23) hx hb dX11_force_13 (by decide +kernel) (fun c_3 => ?_) (fun c_3 => ?_)
    ·
      have i_3 : p_l.toInt < e_lc.toInt := g5_lt (a := p_l.toInt) (b := e_lc.toInt) rfl rfl c_3
      refine lv_aload_n hx hb dX11_force_23 rfl (lv_at hl 0 rfl) ?_
      refine va_get (D := G.1) (ci := 11) (v := .ref a_h) (C := RX11) (T := TX11) (N := 17) hx hb hts inG_X11 hown hK hP 0 rfl rfl 0 (by decide +kernel) (hts _ fl_X11_12) (fun _ h9 => h9) rfl dX11_force_24 ?_
      refine va_get (D := G.1) (ci := 1) (v := .int e_fo) (C := RX1) (T := TX1) (N := 13) hx hb hts inG_X1 hown hK hP 2 rfl rfl 3 (by decide +kernel) (hts _ fl_X11_204) (fun _ h9 => h9) rfl dX11_force_27 ?_
      refine lv_istore_n (lv' := [(2, .int e_fo), (0, .ref a_o), (1, .int p_l)]) hx hb dX11_force_30 rfl hl (by decide +kernel) rfl ?_
      clear hl
      intro ls hl
      refine W.eq (g2 := F0 m 31 ls []) rfl ?_
      refine lv_aload_n hx hb dX11_force_31 rfl (lv_at hl 1 rfl) ?_
      refine va_get (D := G.1) (ci := 11) (v := .ref a_h) (C := RX11) (T := TX11) (N := 17) hx hb hts inG_X11 hown hK hP 0 rfl rfl 0 (by decide +kernel) (hts _ fl_X11_12) (fun _ h9 => h9) rfl dX11_force_32 ?_
      refine lv_iload_n hx hb dX11_force_35 rfl (lv_at hl 2 rfl) ?_
      refine va_put (D := G.1) (ci := 1) (v := .int p_l) (ty := .int) (C := RX1) (T := TX1) (N := 13) hx hb hts inG_X1 tyX1 tyX1_ok nmX1 hown hK hP hD hS 2 rfl rfl 3 (by decide +kernel) (hts _ fl_X11_204) (fun _ h9 => h9) rfl (by decide +kernel) rfl rfl (Nat.le_of_ble_eq_true rfl) dX11_force_36 ?_
      clear hP hD hS
      intro H locs hP hD hS
      refine g5_rs [(a_o, (oc11 a_h a_im a_ke a_k a_wa a_th a_ha a_wk a_r a_x e_tl e_fd e_fpl a_wd e_wn a_rf e_lr)), (a_rf, (arI G 5 f_rf)), (a_h, (oc1 e_wa e_le e_st p_l e_lc a_l a_g a_b a_s a_p a_w e_gb a_bb))] hP hD ?_
      clear hP hD
      intro hP hD
      refine lv_aload_n hx hb dX11_force_39 rfl (lv_at hl 1 rfl) ?_
      refine W.eq (g2 := F0 m 40 ls [.ref a_o]) rfl ?_
      refine lv_iload_n hx hb dX11_force_40 rfl (lv_at hl 0 rfl) ?_
      obtain ⟨hPc, hDc, hFc⟩ := g5_sub3 (wc := [(a_o, (oc11 a_h a_im a_ke a_k a_wa a_th a_ha a_wk a_r a_x e_tl e_fd e_fpl a_wd e_wn a_rf e_lr))]) hP hD hS hA [0] (by decide +kernel) rfl
      refine va_calli (va_runV (As := [.int e_fo]) (rest := []) ⟨hx, hb, hml, hown, hts⟩ (x_done l G a_o a_h a_im a_ke a_k a_wa a_th a_ha a_wk a_r a_x a_wd a_rf H.size e_tl e_fd e_fpl e_wn e_lr e_fo h_e_tl h_e_wn) (cwV 1 hts gV_X11_121 rfl rfl rfl hv_X11_done ⟨Nat.le_of_ble_eq_true rfl, Nat.le_of_ble_eq_true rfl⟩) (g5_preV hPc hK hDc hN hT hS hFc (ci := 11) (q0 := 0) rfl rfl) rfl rfl hl.1 rfl (lv_room (Nat.le_of_ble_eq_true rfl)) dX11_force_41 ⟨Nat.le_of_ble_eq_true rfl, Nat.le_of_ble_eq_true rfl⟩) hS (fun q _ h => hFc q h) hFc (fun r u t H locs ht hvm hw hB hz1 hk1 hS => ?_)
      obtain ⟨hP1, hD1⟩ := hB
      have hP1 := g5_ht ht hP1
      obtain ⟨y4, rfl⟩ := hw
      have hJ9 := va_join (wr := [(a_rf, (arI G 5 f_rf)), (a_h, (oc1 e_wa e_le e_st p_l e_lc a_l a_g a_b a_s a_p a_w e_gb a_bb))]) hP hD [0] [1, 2] rfl rfl (by decide +kernel) (by decide +kernel) hk1 hFc hP1 hD1
      clear hP hD hPc hDc hFc ht hvm hz1 hk1 hP1 hD1
      obtain ⟨hP, hD⟩ := hJ9
      refine g5_rs [(a_rf, (arI G 5 f_rf)), (a_h, (oc1 e_wa e_le e_st p_l e_lc a_l a_g a_b a_s a_p a_w e_gb a_bb)), (a_o, (oc11 a_h a_im a_ke a_k a_wa a_th a_ha a_wk a_r a_x e_tl e_fd e_fpl a_wd e_wn a_rf 0))] hP hD ?_
      clear hP hD
      intro hP hD
      refine g5_ti (v := e_fo) y4 ?_
      exact W.iret (v := e_fo) hx hb hr (fun t ht hW => ⟨⟨e_fo, [(a_o, (oc11 a_h a_im a_ke a_k a_wa a_th a_ha a_wk a_r a_x e_tl e_fd e_fpl a_wd e_wn a_rf 0)), (a_rf, (arI G 5 f_rf)), (a_h, (oc1 e_wa e_le e_st p_l e_lc a_l a_g a_b a_s a_p a_w e_gb a_bb))], rfl, ⟨e_fo, 0, f_rf, p_l, ⟨by omega, by omega⟩, Or.inl ⟨by omega, by omega, rfl, rfl⟩, rfl, rfl⟩, by rw [ht]; exact hP.sub [2, 0, 1] rfl, hD.sub [2, 0, 1] (by decide +kernel) rfl⟩, hS.F ht⟩) hS.2.2 dX11_force_44
    ·
      have i_3 : p_l.toInt ≥ e_lc.toInt := g5_ltN (a := p_l.toInt) (b := e_lc.toInt) rfl rfl c_3
      refine lv_aload_n hx hb dX11_force_16 rfl (lv_at hl 0 rfl) ?_
      refine lv_bipush (v := (-2)) hx hb dX11_force_17 (by decide +kernel) ?_
      obtain ⟨hPc, hDc, hFc⟩ := g5_sub3 (wc := [(a_o, (oc11 a_h a_im a_ke a_k a_wa a_th a_ha a_wk a_r a_x e_tl e_fd e_fpl a_wd e_wn a_rf e_lr)), (a_rf, (arI G 5 f_rf))]) hP hD hS hA [0, 1] (by decide +kernel) rfl
      refine va_calli (va_runV (As := [.int (-2)]) (rest := []) ⟨hx, hb, hml, hown, hts⟩ (x_refuse2 l G a_o a_rf a_h a_im a_ke a_k a_wa a_th a_ha a_wk a_r a_x a_wd s.heap.size e_tl e_fd e_fpl e_wn e_lr f_rf h_e_tl h_e_wn) (cwV 1 hts gV_X11_104 rfl rfl rfl hv_X11_refuse ⟨Nat.le_of_ble_eq_true rfl, Nat.le_of_ble_eq_true rfl⟩) (g5_preV hPc hK hDc hN hT hS hFc (ci := 11) (q0 := 0) rfl rfl) rfl rfl hl.1 rfl (lv_room (Nat.le_of_ble_eq_true rfl)) dX11_force_19 ⟨Nat.le_of_ble_eq_true rfl, Nat.le_of_ble_eq_true rfl⟩) hS (fun q _ h => hFc q h) hFc (fun r u t H locs ht hvm hw hB hz1 hk1 hS => ?_)
      obtain ⟨hP1, hD1⟩ := hB
      have hP1 := g5_ht ht hP1
      obtain ⟨z5, rfl, rfl⟩ := hw
      have hJ9 := va_join (wr := [(a_h, (oc1 e_wa e_le e_st e_fo e_lc a_l a_g a_b a_s a_p a_w e_gb a_bb))]) hP hD [0, 1] [2] rfl rfl (by decide +kernel) (by decide +kernel) hk1 hFc hP1 hD1
      clear hP hD hPc hDc hFc ht hvm hz1 hk1 hP1 hD1
      obtain ⟨hP, hD⟩ := hJ9
      refine g5_rs [(a_h, (oc1 e_wa e_le e_st e_fo e_lc a_l a_g a_b a_s a_p a_w e_gb a_bb)), (a_o, (oc11 a_h a_im a_ke a_k a_wa a_th a_ha a_wk a_r a_x e_tl e_fd e_fpl a_wd e_wn a_rf (-2))), (a_rf, (arI G 5 z5))] hP hD ?_
      clear hP hD
      intro hP hD
      exact W.iret (v := (-2)) hx hb hr (fun t ht hW => ⟨⟨(-2), [(a_o, (oc11 a_h a_im a_ke a_k a_wa a_th a_ha a_wk a_r a_x e_tl e_fd e_fpl a_wd e_wn a_rf (-2))), (a_rf, (arI G 5 z5)), (a_h, (oc1 e_wa e_le e_st e_fo e_lc a_l a_g a_b a_s a_p a_w e_gb a_bb))], rfl, ⟨(-2), (-2), z5, e_fo, e_fk, Or.inr ⟨by omega, rfl, rfl⟩, rfl, rfl⟩, by rw [ht]; exact hP.sub [1, 2, 0] rfl, hD.sub [1, 2, 0] (by decide +kernel) rfl⟩, hS.F ht⟩) hS.2.2 dX11_force_22
set_option maxHeartbeats 4000000 in
set_option maxRecDepth 100000 in
theorem n_forceF (l : Launch) (G : g5_G) (b_o b_rf b_ro b_im b_ke b_tp b_nl b_op b_ar b_pi b_pa b_ws b_hw b_se b_re b_pt b_ip b_ah b_be b_me b_tr b_ld b_wn : Nat) (sz : Nat) (u_th : Int32) (u_sa : Int32) (u_fd : Int32) (u_td : Int32) (u_fr : Int32) (u_to : Int32) (u_so : Int32) (u_fa : Int32) (u_bd : Int32) (u_nc : Int32) (u_co : Int32) (u_le : Int32) (u_pd : Int32) (u_od : Int32) (u_la : Int32) (u_bk : Int32) (u_ce : Int32) (u_ho : Int32) (u_wy : Int32) (u_bt : Int32) (u_ps : Int32) (u_tg : Int32) (u_sn : Int32) (u_ic : Int32) (u_wd : Int32) (u_id : Int32) (p_1 : Int32) (u_wo : Int64) (u_va : Int64) (u_su : Int64) (u_st : Int64) (v_rf : Nat → Int32) (v_ro : Nat → Int32) (h_u_td : 0 ≤ u_td.toInt ∧ u_td.toInt ≤ 400) (h_u_fr : 0 ≤ u_fr.toInt ∧ u_fr.toInt ≤ 400) (h_u_to : 0 ≤ u_to.toInt ∧ u_to.toInt ≤ 400) (h_u_bd : 0 ≤ u_bd.toInt ∧ u_bd.toInt ≤ 1) (h_u_nc : 0 ≤ u_nc.toInt ∧ u_nc.toInt ≤ 12) (h_u_co : 0 ≤ u_co.toInt ∧ u_co.toInt ≤ 400) (h_u_pd : 0 ≤ u_pd.toInt ∧ u_pd.toInt ≤ 400) (h_u_la : 0 ≤ u_la.toInt ∧ u_la.toInt ≤ 4840) (h_u_bk : 0 ≤ u_bk.toInt ∧ u_bk.toInt ≤ 1) (h_u_ce : 0 ≤ u_ce.toInt ∧ u_ce.toInt ≤ 63) (h_u_ho : 0 ≤ u_ho.toInt ∧ u_ho.toInt ≤ 23) (h_u_wy : 0 ≤ u_wy.toInt ∧ u_wy.toInt ≤ 3) (h_u_bt : 0 ≤ u_bt.toInt ∧ u_bt.toInt ≤ 1000000) (h_u_ps : 0 ≤ u_ps.toInt ∧ u_ps.toInt ≤ 200) (h_u_ic : 0 ≤ u_ic.toInt ∧ u_ic.toInt ≤ 1) (h_u_id : 0 ≤ u_id.toInt ∧ u_id.toInt ≤ 1) (r_ro : MI v_ro) : Met l yX12_force (wsG yX12_force cX12_force 2 (some .int)) ({ frames := 2, cells := 0, slots := 0, locals := 44 }) (va_Pc [.ref b_o, .int p_1] (g5_P G [(b_o, (oc12 u_th u_sa b_rf b_ro b_im b_ke u_fd b_tp u_td u_fr u_to u_so u_wo u_fa u_bd u_nc b_nl u_co b_op b_ar u_le b_pi b_pa u_pd u_od b_ws b_hw u_la b_se b_re u_bk u_va u_su u_ce u_ho u_wy u_bt u_ps b_pt u_tg u_sn b_ip u_ic b_ah b_be b_me u_wd b_tr b_ld u_st b_wn u_id)), (b_rf, (arI G 7 v_rf)), (b_ro, (arI G 5740 v_ro))] sz)) (va_Qi (fun (r : Int32) (u : va_W) => (∃ (o_r : Int32) (o_th : Int32) (o_sa : Int32) (o_ic : Int32) (o_rf : Nat → Int32) (o_ro : Nat → Int32), (MI o_ro) ∧ (0 ≤ o_ic.toInt ∧ o_ic.toInt ≤ 1) ∧ (∀ j : Nat, j ≠ 3 → o_ro j = v_ro j) ∧ ((-1 ≤ p_1.toInt ∧ p_1.toInt < (v_ro 2).toInt ∧ o_ro 3 = p_1 ∧ o_r = v_ro 3) ∨ ((p_1.toInt < -1 ∨ (v_ro 2).toInt ≤ p_1.toInt) ∧ o_ro 3 = v_ro 3 ∧ o_r = -2)) ∧ (r = o_r) ∧ (u = [(b_o, (oc12 o_th o_sa b_rf b_ro b_im b_ke u_fd b_tp u_td u_fr u_to u_so u_wo u_fa u_bd u_nc b_nl u_co b_op b_ar u_le b_pi b_pa u_pd u_od b_ws b_hw u_la b_se b_re u_bk u_va u_su u_ce u_ho u_wy u_bt u_ps b_pt u_tg u_sn b_ip o_ic b_ah b_be b_me u_wd b_tr b_ld u_st b_wn u_id)), (b_rf, (arI G 7 o_rf)), (b_ro, (arI G 5740 o_ro))]))) (g5_B G (va_A [(b_o, (oc12 u_th u_sa b_rf b_ro b_im b_ke u_fd b_tp u_td u_fr u_to u_so u_wo u_fa u_bd u_nc b_nl u_co b_op b_ar u_le b_pi b_pa u_pd u_od b_ws b_hw u_la b_se b_re u_bk u_va u_su u_ce u_ho u_wy u_bt u_ps b_pt u_tg u_sn b_ip u_ic b_ah b_be b_me u_wd b_tr b_ld u_st b_wn u_id)), (b_rf, (arI G 7 v_rf)), (b_ro, (arI G 5740 v_ro))] sz)) (va_A [(b_o, (oc12 u_th u_sa b_rf b_ro b_im b_ke u_fd b_tp u_td u_fr u_to u_so u_wo u_fa u_bd u_nc b_nl u_co b_op b_ar u_le b_pi b_pa u_pd u_od b_ws b_hw u_la b_se b_re u_bk u_va u_su u_ce u_ho u_wy u_bt u_ps b_pt u_tg u_sn b_ip u_ic b_ah b_be b_me u_wd b_tr b_ld u_st b_wn u_id)), (b_rf, (arI G 7 v_rf)), (b_ro, (arI G 5740 v_ro))] sz)) 0 0 (va_A [(b_o, (oc12 u_th u_sa b_rf b_ro b_im b_ke u_fd b_tp u_td u_fr u_to u_so u_wo u_fa u_bd u_nc b_nl u_co b_op b_ar u_le b_pi b_pa u_pd u_od b_ws b_hw u_la b_se b_re u_bk u_va u_su u_ce u_ho u_wy u_bt u_ps b_pt u_tg u_sn b_ip u_ic b_ah b_be b_me u_wd b_tr b_ld u_st b_wn u_id)), (b_rf, (arI G 7 v_rf)), (b_ro, (arI G 5740 v_ro))] sz) := by
  refine Met.ofW (cc := cX12_force) (maxL := 2) (ret := (some .int)) (by decide +kernel) rfl ?_
  intro p e s m args below meth c s₁ B hml hv
  obtain ⟨rfl, hsz, hP, hK, hD0, hN, hT⟩ := hv
  have hx := B.exec
  have hb := B.bytes
  have hr := B.returns
  have hts : ∀ w ∈ tblG, w.before _ s = true := fun w h => atoms_spec (ws := (wsG yX12_force cX12_force 2 (some .int))) B.pre w (List.mem_cons_of_mem _ h)
  have hown : s.vm.findClass RX12 = some m.cls := findClass_of_methodNamed B.named
  have hlocks := B.notSynchronized
  subst hsz
  have hD := hD0.self (sz := s.heap.size)
  generalize hAe : va_A [(b_o, (oc12 u_th u_sa b_rf b_ro b_im b_ke u_fd b_tp u_td u_fr u_to u_so u_wo u_fa u_bd u_nc b_nl u_co b_op b_ar u_le b_pi b_pa u_pd u_od b_ws b_hw u_la b_se b_re u_bk u_va u_su u_ce u_ho u_wy u_bt u_ps b_pt u_tg u_sn b_ip u_ic b_ah b_be b_me u_wd b_tr b_ld u_st b_wn u_id)), (b_rf, (arI G 7 v_rf)), (b_ro, (arI G 5740 v_ro))] s.heap.size = A at hD hT ⊢
  have hA : ∀ q : Nat, s.heap.size ≤ q → A q := fun q h => by rw [← hAe]; exact Or.inr h
  have hS : va_S A s.heap s.heap [] := va_S.rf
  replace hP : va_P G.1 vwCl [(b_o, (oc12 u_th u_sa b_rf b_ro b_im b_ke u_fd b_tp u_td u_fr u_to u_so u_wo u_fa u_bd u_nc b_nl u_co b_op b_ar u_le b_pi b_pa u_pd u_od b_ws b_hw u_la b_se b_re u_bk u_va u_su u_ce u_ho u_wy u_bt u_ps b_pt u_tg u_sn b_ip u_ic b_ah b_be b_me u_wd b_tr b_ld u_st b_wn u_id)), (b_rf, (arI G 7 v_rf)), (b_ro, (arI G 5740 v_ro))] s.heap := hP
  have hl := lv_entry ([.ref b_o, .int p_1]) (n := 2) (Nat.le_of_ble_eq_true rfl)
  rw [lg_entry_eq]
  generalize (lg_sl ([.ref b_o, .int p_1]) ++ List.replicate (2 - (lg_sl ([.ref b_o, .int p_1])).length) Slot.unset).toArray = ls at hl ⊢
  replace hl : lv_has ls 2 [(0, .ref b_o), (1, .int p_1)] := hl
  have hm2 := mi_2 r_ro
  refine lv_aload_n hx hb dX12_force_0 rfl (lv_at hl 0 rfl) ?_
  refine lv_iconst (v := 0) hx hb dX12_force_1 (by decide +kernel) ?_
  refine va_put (D := G.1) (ci := 12) (v := .int 0) (ty := .int) (C := RX12) (T := TX12) (N := 52) hx hb hts inG_X12 tyX12 tyX12_ok nmX12 hown hK hP hD hS 0 rfl rfl 0 (by decide +kernel) (hts _ fl_X12_107) (fun _ h9 => h9) rfl (by decide +kernel) rfl rfl (Nat.le_of_ble_eq_true rfl) dX12_force_2 ?_
  clear hP hD hS
  intro H locs hP hD hS
  refine g5_rs [(b_o, (oc12 0 u_sa b_rf b_ro b_im b_ke u_fd b_tp u_td u_fr u_to u_so u_wo u_fa u_bd u_nc b_nl u_co b_op b_ar u_le b_pi b_pa u_pd u_od b_ws b_hw u_la b_se b_re u_bk u_va u_su u_ce u_ho u_wy u_bt u_ps b_pt u_tg u_sn b_ip u_ic b_ah b_be b_me u_wd b_tr b_ld u_st b_wn u_id)), (b_rf, (arI G 7 v_rf)), (b_ro, (arI G 5740 v_ro))] hP hD ?_
  clear hP hD
  intro hP hD
  refine lv_iload_n hx hb dX12_force_5 rfl (lv_at hl 1 rfl) ?_
  refine W.eq (g2 := F0 m 6 ls [.int p_1]) rfl ?_
  refine lv_iconst (v := (-1)) hx hb dX12_force_6 (by decide +kernel) ?_
  refine lv_icmp_eq (tgt := 28) hx hb dX12_force_7 (by decide +kernel) (fun c_1 => ?_) (fun c_1 => ?_)
  ·
    have i_1 : p_1.toInt = (-1) := g5_eq (a := p_1.toInt) (b := (-1)) rfl (by decide +kernel) c_1
    refine lv_aload_n hx hb dX12_force_28 rfl (lv_at hl 0 rfl) ?_
    refine lv_iconst (v := 3) hx hb dX12_force_29 (by decide +kernel) ?_
    refine lv_iload_n hx hb dX12_force_30 rfl (lv_at hl 1 rfl) ?_
    obtain ⟨hPc, hDc, hFc⟩ := g5_sub3 (wc := [(b_o, (oc12 0 u_sa b_rf b_ro b_im b_ke u_fd b_tp u_td u_fr u_to u_so u_wo u_fa u_bd u_nc b_nl u_co b_op b_ar u_le b_pi b_pa u_pd u_od b_ws b_hw u_la b_se b_re u_bk u_va u_su u_ce u_ho u_wy u_bt u_ps b_pt u_tg u_sn b_ip u_ic b_ah b_be b_me u_wd b_tr b_ld u_st b_wn u_id)), (b_ro, (arI G 5740 v_ro))]) hP hD hS hA [0, 2] (by decide +kernel) rfl
    refine va_calli (va_runV (As := [.int 3, .int p_1]) (rest := []) ⟨hx, hb, hml, hown, hts⟩ (n_changeE l G b_o b_ro b_rf b_im b_ke b_tp b_nl b_op b_ar b_pi b_pa b_ws b_hw b_se b_re b_pt b_ip b_ah b_be b_me b_tr b_ld b_wn H.size 0 u_sa u_fd u_td u_fr u_to u_so u_fa u_bd u_nc u_co u_le u_pd u_od u_la u_bk u_ce u_ho u_wy u_bt u_ps u_tg u_sn u_ic u_wd u_id 3 p_1 u_wo u_va u_su u_st v_ro h_u_td h_u_fr h_u_to h_u_bd h_u_nc h_u_co h_u_pd h_u_la h_u_bk h_u_ce h_u_ho h_u_wy h_u_bt h_u_ps h_u_ic h_u_id ⟨by decide, by decide⟩ (r_ro) (mi_upd3 r_ro (by omega) (by have z9 := mi_2 r_ro; omega))) (cwV 2 hts gV_X12_151 rfl rfl rfl hv_X12_change ⟨Nat.le_of_ble_eq_true rfl, Nat.le_of_ble_eq_true rfl⟩) (g5_preV hPc hK hDc hN hT hS hFc (ci := 12) (q0 := 0) rfl rfl) rfl rfl hl.1 rfl (lv_room (Nat.le_of_ble_eq_true rfl)) dX12_force_31 ⟨Nat.le_of_ble_eq_true rfl, Nat.le_of_ble_eq_true rfl⟩) hS (fun q _ h => hFc q h) hFc (fun r u t H locs ht hvm hw hB hz1 hk1 hS => ?_)
    obtain ⟨hP1, hD1⟩ := hB
    have hP1 := g5_ht ht hP1
    obtain ⟨z6, z7, z8, z9, (i_2 : MI z9), (i_3 : 0 ≤ z8.toInt ∧ z8.toInt ≤ 1), (i_4 : z9 = upd v_ro (3 : Int32).toNatClampNeg p_1), (i_5 : z6 = v_ro (3 : Int32).toNatClampNeg), y10, rfl⟩ := hw
    have hJ9 := va_join (wr := [(b_rf, (arI G 7 v_rf))]) hP hD [0, 2] [1] rfl rfl (by decide +kernel) (by decide +kernel) hk1 hFc hP1 hD1
    clear hP hD hPc hDc hFc ht hvm hz1 hk1 hP1 hD1
    obtain ⟨hP, hD⟩ := hJ9
    refine g5_rs [(b_rf, (arI G 7 v_rf)), (b_o, (oc12 0 z7 b_rf b_ro b_im b_ke u_fd b_tp u_td u_fr u_to u_so u_wo u_fa u_bd u_nc b_nl u_co b_op b_ar u_le b_pi b_pa u_pd u_od b_ws b_hw u_la b_se b_re u_bk u_va u_su u_ce u_ho u_wy u_bt u_ps b_pt u_tg u_sn b_ip z8 b_ah b_be b_me u_wd b_tr b_ld u_st b_wn u_id)), (b_ro, (arI G 5740 z9))] hP hD ?_
    clear hP hD
    intro hP hD
    refine g5_ti (v := z6) y10 ?_
    refine W.eq (g2 := F0 m 34 ls [.int z6]) rfl ?_
    refine lv_goto (tgt := 43) hx hb dX12_force_34 (by decide +kernel) ?_
    exact W.iret (v := z6) hx hb hr (fun t ht hW => ⟨⟨z6, [(b_o, (oc12 0 z7 b_rf b_ro b_im b_ke u_fd b_tp u_td u_fr u_to u_so u_wo u_fa u_bd u_nc b_nl u_co b_op b_ar u_le b_pi b_pa u_pd u_od b_ws b_hw u_la b_se b_re u_bk u_va u_su u_ce u_ho u_wy u_bt u_ps b_pt u_tg u_sn b_ip z8 b_ah b_be b_me u_wd b_tr b_ld u_st b_wn u_id)), (b_rf, (arI G 7 v_rf)), (b_ro, (arI G 5740 z9))], rfl, ⟨z6, 0, z7, z8, v_rf, z9, i_2, i_3, fun j hj => by rw [i_4]; exact upd_ne (by have zz : (3 : Int32).toNatClampNeg = 3 := (by decide +kernel); omega), Or.inl ⟨by omega, by omega, (congrFun i_4 3).trans (by unfold upd; rw [if_pos (by have zz : (3 : Int32).toNatClampNeg = 3 := (by decide +kernel); omega)]), by rw [i_5]; congr 1⟩, rfl, rfl⟩, by rw [ht]; exact hP.sub [1, 0, 2] rfl, hD.sub [1, 0, 2] (by decide +kernel) rfl⟩, hS.F ht⟩) hS.2.2 dX12_force_43
  ·
    have n_1 : gNe (p_1.toInt) ((-1)) := g5_eqN (a := p_1.toInt) (b := (-1)) rfl (by decide +kernel) c_1
    refine lv_iload_n hx hb dX12_force_10 rfl (lv_at hl 1 rfl) ?_
    refine lv_i2l (v := p_1.toInt64) hx hb dX12_force_11 rfl ?_
    refine lv_lconst (v := 0) hx hb dX12_force_12 (by decide +kernel) ?_
    refine lv_aload_n hx hb dX12_force_13 rfl (lv_at hl 0 rfl) ?_
    refine W.eq (g2 := F0 m 14 ls [.ref b_o, .long 0, .long p_1.toInt64]) rfl ?_
    refine va_get (D := G.1) (ci := 12) (v := .ref b_ro) (C := RX12) (T := TX12) (N := 52) hx hb hts inG_X12 hown hK hP 0 rfl rfl 3 (by decide +kernel) (hts _ fl_X12_13) (fun _ h9 => h9) rfl dX12_force_14 ?_
    refine lv_iconst (v := 2) hx hb dX12_force_17 (by decide +kernel) ?_
    refine va_iald hx hb hK hP 2 0 rfl rfl (i := 2) (by unfold vp_in; decide) dX12_force_18 ?_
    refine g5_ti (v := (v_ro 2)) rfl ?_
    have hr_11 : 0 ≤ (v_ro 2).toInt ∧ (v_ro 2).toInt ≤ 6 := mi_2 r_ro
    refine lv_i2l (v := (v_ro 2).toInt64) hx hb dX12_force_19 rfl ?_
    refine lv_lconst (v := 1) hx hb dX12_force_20 (by decide +kernel) ?_
    refine W.eq (g2 := F0 m 21 ls [.long 1, .long (v_ro 2).toInt64, .long 0, .long p_1.toInt64]) rfl ?_
    refine lv_lsub hx hb dX12_force_21 ?_
    obtain ⟨hPc, hDc, hFc⟩ := g5_sub3 (wc := []) hP hD hS hA [] (by decide +kernel) rfl
    refine va_calli (va_runS (As := [.long p_1.toInt64, .long 0, .long (((v_ro 2).toInt64) - 1)]) (rest := []) ⟨hx, hb, hml, hown, hts⟩ (n_in_n l G H.size p_1 (v_ro 2) ⟨by omega, by omega⟩) (va_cwS 3 hts gS_X12_121 rfl rfl rfl hs_X12_in ⟨Nat.le_of_ble_eq_true rfl, Nat.le_of_ble_eq_true rfl⟩) (g5_preS hPc hK hDc hN hT hS hFc) rfl rfl hl.1 rfl (lv_room (Nat.le_of_ble_eq_true rfl)) dX12_force_22 ⟨Nat.le_of_ble_eq_true rfl, Nat.le_of_ble_eq_true rfl⟩) hS (fun q _ h => hFc q h) hFc (fun r u t H locs ht hvm hw hB hz1 hk1 hS => ?_)
    obtain ⟨hP1, hD1⟩ := hB
    have hP1 := g5_ht ht hP1
    rcases hw with ⟨(i_12 : p_1.toInt < 0 ∨ (v_ro 2).toInt ≤ p_1.toInt), rfl, rfl⟩ | ⟨(i_13 : 0 ≤ p_1.toInt ∧ p_1.toInt < (v_ro 2).toInt), rfl, rfl⟩
    ·
      have hJ9 := g5_same hP hk1
      clear hP hPc hDc hFc ht hvm hz1 hk1 hP1 hD1
      have hP := hJ9
      clear hJ9
      refine lv_if_eq (tgt := 37) hx hb dX12_force_25 (by decide +kernel) (fun c_14 => ?_) (fun c_14 => ?_)
      ·
        refine lv_aload_n hx hb dX12_force_37 rfl (lv_at hl 0 rfl) ?_
        refine lv_bipush (v := (-2)) hx hb dX12_force_38 (by decide +kernel) ?_
        obtain ⟨hPc, hDc, hFc⟩ := g5_sub3 (wc := [(b_o, (oc12 0 u_sa b_rf b_ro b_im b_ke u_fd b_tp u_td u_fr u_to u_so u_wo u_fa u_bd u_nc b_nl u_co b_op b_ar u_le b_pi b_pa u_pd u_od b_ws b_hw u_la b_se b_re u_bk u_va u_su u_ce u_ho u_wy u_bt u_ps b_pt u_tg u_sn b_ip u_ic b_ah b_be b_me u_wd b_tr b_ld u_st b_wn u_id)), (b_rf, (arI G 7 v_rf))]) hP hD hS hA [0, 1] (by decide +kernel) rfl
        refine va_calli (va_runV (As := [.int (-2)]) (rest := []) ⟨hx, hb, hml, hown, hts⟩ (n_tell2 l G b_o b_rf b_ro b_im b_ke b_tp b_nl b_op b_ar b_pi b_pa b_ws b_hw b_se b_re b_pt b_ip b_ah b_be b_me b_tr b_ld b_wn H.size 0 u_sa u_fd u_td u_fr u_to u_so u_fa u_bd u_nc u_co u_le u_pd u_od u_la u_bk u_ce u_ho u_wy u_bt u_ps u_tg u_sn u_ic u_wd u_id u_wo u_va u_su u_st v_rf h_u_td h_u_fr h_u_to h_u_bd h_u_nc h_u_co h_u_pd h_u_la h_u_bk h_u_ce h_u_ho h_u_wy h_u_bt h_u_ps h_u_ic h_u_id) (cwV 1 hts gV_X12_125 rfl rfl rfl hv_X12_tell ⟨Nat.le_of_ble_eq_true rfl, Nat.le_of_ble_eq_true rfl⟩) (g5_preV hPc hK hDc hN hT hS hFc (ci := 12) (q0 := 0) rfl rfl) rfl rfl hl.1 rfl (lv_room (Nat.le_of_ble_eq_true rfl)) dX12_force_40 ⟨Nat.le_of_ble_eq_true rfl, Nat.le_of_ble_eq_true rfl⟩) hS (fun q _ h => hFc q h) hFc (fun r u t H locs ht hvm hw hB hz1 hk1 hS => ?_)
        obtain ⟨hP1, hD1⟩ := hB
        have hP1 := g5_ht ht hP1
        obtain ⟨z16, z17, z18, (i_15 : 0 ≤ z17.toInt ∧ z17.toInt ≤ 1), rfl, rfl⟩ := hw
        have hJ9 := va_join (wr := [(b_ro, (arI G 5740 v_ro))]) hP hD [0, 1] [2] rfl rfl (by decide +kernel) (by decide +kernel) hk1 hFc hP1 hD1
        clear hP hD hPc hDc hFc ht hvm hz1 hk1 hP1 hD1
        obtain ⟨hP, hD⟩ := hJ9
        refine g5_rs [(b_ro, (arI G 5740 v_ro)), (b_o, (oc12 0 z16 b_rf b_ro b_im b_ke u_fd b_tp u_td u_fr u_to u_so u_wo u_fa u_bd u_nc b_nl u_co b_op b_ar u_le b_pi b_pa u_pd u_od b_ws b_hw u_la b_se b_re u_bk u_va u_su u_ce u_ho u_wy u_bt u_ps b_pt u_tg u_sn b_ip z17 b_ah b_be b_me u_wd b_tr b_ld u_st b_wn u_id)), (b_rf, (arI G 7 z18))] hP hD ?_
        clear hP hD
        intro hP hD
        exact W.iret (v := (-2)) hx hb hr (fun t ht hW => ⟨⟨(-2), [(b_o, (oc12 0 z16 b_rf b_ro b_im b_ke u_fd b_tp u_td u_fr u_to u_so u_wo u_fa u_bd u_nc b_nl u_co b_op b_ar u_le b_pi b_pa u_pd u_od b_ws b_hw u_la b_se b_re u_bk u_va u_su u_ce u_ho u_wy u_bt u_ps b_pt u_tg u_sn b_ip z17 b_ah b_be b_me u_wd b_tr b_ld u_st b_wn u_id)), (b_rf, (arI G 7 z18)), (b_ro, (arI G 5740 v_ro))], rfl, ⟨(-2), 0, z16, z17, z18, v_ro, r_ro, i_15, fun _ _ => rfl, Or.inr ⟨by first | omega | (unfold gNe at *; omega), rfl, rfl⟩, rfl, rfl⟩, by rw [ht]; exact hP.sub [1, 2, 0] rfl, hD.sub [1, 2, 0] (by decide +kernel) rfl⟩, hS.F ht⟩) hS.2.2 dX12_force_43
      ·
        exact absurd c_14 (by decide +kernel)
    ·
      have hJ9 := g5_same hP hk1
      clear hP hPc hDc hFc ht hvm hz1 hk1 hP1 hD1
      have hP := hJ9
      clear hJ9
      refine lv_if_eq (tgt := 37) hx hb dX12_force_25 (by decide +kernel) (fun c_19 => ?_) (fun c_19 => ?_)
      ·
        exact absurd c_19 (by decide +kernel)
      ·
        refine lv_aload_n hx hb dX12_force_28 rfl (lv_at hl 0 rfl) ?_
        refine lv_iconst (v := 3) hx hb dX12_force_29 (by decide +kernel) ?_
        refine lv_iload_n hx hb dX12_force_30 rfl (lv_at hl 1 rfl) ?_
        obtain ⟨hPc, hDc, hFc⟩ := g5_sub3 (wc := [(b_o, (oc12 0 u_sa b_rf b_ro b_im b_ke u_fd b_tp u_td u_fr u_to u_so u_wo u_fa u_bd u_nc b_nl u_co b_op b_ar u_le b_pi b_pa u_pd u_od b_ws b_hw u_la b_se b_re u_bk u_va u_su u_ce u_ho u_wy u_bt u_ps b_pt u_tg u_sn b_ip u_ic b_ah b_be b_me u_wd b_tr b_ld u_st b_wn u_id)), (b_ro, (arI G 5740 v_ro))]) hP hD hS hA [0, 2] (by decide +kernel) rfl
        refine va_calli (va_runV (As := [.int 3, .int p_1]) (rest := []) ⟨hx, hb, hml, hown, hts⟩ (n_changeE l G b_o b_ro b_rf b_im b_ke b_tp b_nl b_op b_ar b_pi b_pa b_ws b_hw b_se b_re b_pt b_ip b_ah b_be b_me b_tr b_ld b_wn H.size 0 u_sa u_fd u_td u_fr u_to u_so u_fa u_bd u_nc u_co u_le u_pd u_od u_la u_bk u_ce u_ho u_wy u_bt u_ps u_tg u_sn u_ic u_wd u_id 3 p_1 u_wo u_va u_su u_st v_ro h_u_td h_u_fr h_u_to h_u_bd h_u_nc h_u_co h_u_pd h_u_la h_u_bk h_u_ce h_u_ho h_u_wy h_u_bt h_u_ps h_u_ic h_u_id ⟨by decide, by decide⟩ (r_ro) (mi_upd3 r_ro (by omega) (by have z9 := mi_2 r_ro; omega))) (cwV 2 hts gV_X12_151 rfl rfl rfl hv_X12_change ⟨Nat.le_of_ble_eq_true rfl, Nat.le_of_ble_eq_true rfl⟩) (g5_preV hPc hK hDc hN hT hS hFc (ci := 12) (q0 := 0) rfl rfl) rfl rfl hl.1 rfl (lv_room (Nat.le_of_ble_eq_true rfl)) dX12_force_31 ⟨Nat.le_of_ble_eq_true rfl, Nat.le_of_ble_eq_true rfl⟩) hS (fun q _ h => hFc q h) hFc (fun r u t H locs ht hvm hw hB hz1 hk1 hS => ?_)
        obtain ⟨hP1, hD1⟩ := hB
        have hP1 := g5_ht ht hP1
        obtain ⟨z24, z25, z26, z27, (i_20 : MI z27), (i_21 : 0 ≤ z26.toInt ∧ z26.toInt ≤ 1), (i_22 : z27 = upd v_ro (3 : Int32).toNatClampNeg p_1), (i_23 : z24 = v_ro (3 : Int32).toNatClampNeg), y28, rfl⟩ := hw
        have hJ9 := va_join (wr := [(b_rf, (arI G 7 v_rf))]) hP hD [0, 2] [1] rfl rfl (by decide +kernel) (by decide +kernel) hk1 hFc hP1 hD1
        clear hP hD hPc hDc hFc ht hvm hz1 hk1 hP1 hD1
        obtain ⟨hP, hD⟩ := hJ9
        refine g5_rs [(b_rf, (arI G 7 v_rf)), (b_o, (oc12 0 z25 b_rf b_ro b_im b_ke u_fd b_tp u_td u_fr u_to u_so u_wo u_fa u_bd u_nc b_nl u_co b_op b_ar u_le b_pi b_pa u_pd u_od b_ws b_hw u_la b_se b_re u_bk u_va u_su u_ce u_ho u_wy u_bt u_ps b_pt u_tg u_sn b_ip z26 b_ah b_be b_me u_wd b_tr b_ld u_st b_wn u_id)), (b_ro, (arI G 5740 z27))] hP hD ?_
        clear hP hD
        intro hP hD
        refine g5_ti (v := z24) y28 ?_
        refine W.eq (g2 := F0 m 34 ls [.int z24]) rfl ?_
        refine lv_goto (tgt := 43) hx hb dX12_force_34 (by decide +kernel) ?_
        exact W.iret (v := z24) hx hb hr (fun t ht hW => ⟨⟨z24, [(b_o, (oc12 0 z25 b_rf b_ro b_im b_ke u_fd b_tp u_td u_fr u_to u_so u_wo u_fa u_bd u_nc b_nl u_co b_op b_ar u_le b_pi b_pa u_pd u_od b_ws b_hw u_la b_se b_re u_bk u_va u_su u_ce u_ho u_wy u_bt u_ps b_pt u_tg u_sn b_ip z26 b_ah b_be b_me u_wd b_tr b_ld u_st b_wn u_id)), (b_rf, (arI G 7 v_rf)), (b_ro, (arI G 5740 z27))], rfl, ⟨z24, 0, z25, z26, v_rf, z27, i_20, i_21, fun j hj => by rw [i_22]; exact upd_ne (by have zz : (3 : Int32).toNatClampNeg = 3 := (by decide +kernel); omega), Or.inl ⟨by omega, by omega, (congrFun i_22 3).trans (by unfold upd; rw [if_pos (by have zz : (3 : Int32).toNatClampNeg = 3 := (by decide +kernel); omega)]), by rw [i_23]; congr 1⟩, rfl, rfl⟩, by rw [ht]; exact hP.sub [1, 0, 2] rfl, hD.sub [1, 0, 2] (by decide +kernel) rfl⟩, hS.F ht⟩) hS.2.2 dX12_force_43
set_option maxHeartbeats 4000000 in
set_option maxRecDepth 100000 in
theorem n_backF (l : Launch) (G : g5_G) (b_o b_rf b_ro b_im b_ke b_tp b_nl b_op b_ar b_pi b_pa b_ws b_hw b_se b_re b_pt b_ip b_ah b_be b_me b_tr b_ld b_wn : Nat) (sz : Nat) (u_th : Int32) (u_sa : Int32) (u_fd : Int32) (u_td : Int32) (u_fr : Int32) (u_to : Int32) (u_so : Int32) (u_fa : Int32) (u_bd : Int32) (u_nc : Int32) (u_co : Int32) (u_le : Int32) (u_pd : Int32) (u_od : Int32) (u_la : Int32) (u_bk : Int32) (u_ce : Int32) (u_ho : Int32) (u_wy : Int32) (u_bt : Int32) (u_ps : Int32) (u_tg : Int32) (u_sn : Int32) (u_ic : Int32) (u_wd : Int32) (u_id : Int32) (p_1 : Int32) (u_wo : Int64) (u_va : Int64) (u_su : Int64) (u_st : Int64) (v_rf : Nat → Int32) (v_ro : Nat → Int32) (v_im : Nat → Int32) (v_ke : Nat → Int32) (h_u_td : 0 ≤ u_td.toInt ∧ u_td.toInt ≤ 400) (h_u_fr : 0 ≤ u_fr.toInt ∧ u_fr.toInt ≤ 400) (h_u_to : 0 ≤ u_to.toInt ∧ u_to.toInt ≤ 400) (h_u_bd : 0 ≤ u_bd.toInt ∧ u_bd.toInt ≤ 1) (h_u_nc : 0 ≤ u_nc.toInt ∧ u_nc.toInt ≤ 12) (h_u_co : 0 ≤ u_co.toInt ∧ u_co.toInt ≤ 400) (h_u_pd : 0 ≤ u_pd.toInt ∧ u_pd.toInt ≤ 400) (h_u_la : 0 ≤ u_la.toInt ∧ u_la.toInt ≤ 4840) (h_u_bk : 0 ≤ u_bk.toInt ∧ u_bk.toInt ≤ 1) (h_u_ce : 0 ≤ u_ce.toInt ∧ u_ce.toInt ≤ 63) (h_u_ho : 0 ≤ u_ho.toInt ∧ u_ho.toInt ≤ 23) (h_u_wy : 0 ≤ u_wy.toInt ∧ u_wy.toInt ≤ 3) (h_u_bt : 0 ≤ u_bt.toInt ∧ u_bt.toInt ≤ 1000000) (h_u_ps : 0 ≤ u_ps.toInt ∧ u_ps.toInt ≤ 200) (h_u_ic : 0 ≤ u_ic.toInt ∧ u_ic.toInt ≤ 1) (h_u_id : 0 ≤ u_id.toInt ∧ u_id.toInt ≤ 1) (r_ro : MI v_ro) (r_im : IMI v_im v_ke) : Met l yX12_back (wsG yX12_back cX12_back 3 (some .int)) ({ frames := 1, cells := 0, slots := 0, locals := 25 }) (va_Pc [.ref b_o, .int p_1] (g5_P G [(b_o, (oc12 u_th u_sa b_rf b_ro b_im b_ke u_fd b_tp u_td u_fr u_to u_so u_wo u_fa u_bd u_nc b_nl u_co b_op b_ar u_le b_pi b_pa u_pd u_od b_ws b_hw u_la b_se b_re u_bk u_va u_su u_ce u_ho u_wy u_bt u_ps b_pt u_tg u_sn b_ip u_ic b_ah b_be b_me u_wd b_tr b_ld u_st b_wn u_id)), (b_rf, (arI G 7 v_rf)), (b_ro, (arI G 5740 v_ro)), (b_im, (arI G 11480 v_im)), (b_ke, (arZ G 2 v_ke))] sz)) (va_Qi (fun (r : Int32) (u : va_W) => (∃ (o_r : Int32) (o_th : Int32) (o_sa : Int32) (o_ic : Int32) (o_rf : Nat → Int32) (o_ro : Nat → Int32), (0 ≤ o_ic.toInt ∧ o_ic.toInt ≤ 1) ∧ (MI o_ro) ∧ (o_r = aback v_ke p_1) ∧ (∀ j : Nat, j < 5740 → o_ro j = sback v_ro v_im v_ke p_1 j) ∧ (r = o_r) ∧ (u = [(b_o, (oc12 o_th o_sa b_rf b_ro b_im b_ke u_fd b_tp u_td u_fr u_to u_so u_wo u_fa u_bd u_nc b_nl u_co b_op b_ar u_le b_pi b_pa u_pd u_od b_ws b_hw u_la b_se b_re u_bk u_va u_su u_ce u_ho u_wy u_bt u_ps b_pt u_tg u_sn b_ip o_ic b_ah b_be b_me u_wd b_tr b_ld u_st b_wn u_id)), (b_rf, (arI G 7 o_rf)), (b_ro, (arI G 5740 o_ro)), (b_im, (arI G 11480 v_im)), (b_ke, (arZ G 2 v_ke))]))) (g5_B G (va_A [(b_o, (oc12 u_th u_sa b_rf b_ro b_im b_ke u_fd b_tp u_td u_fr u_to u_so u_wo u_fa u_bd u_nc b_nl u_co b_op b_ar u_le b_pi b_pa u_pd u_od b_ws b_hw u_la b_se b_re u_bk u_va u_su u_ce u_ho u_wy u_bt u_ps b_pt u_tg u_sn b_ip u_ic b_ah b_be b_me u_wd b_tr b_ld u_st b_wn u_id)), (b_rf, (arI G 7 v_rf)), (b_ro, (arI G 5740 v_ro)), (b_im, (arI G 11480 v_im)), (b_ke, (arZ G 2 v_ke))] sz)) (va_A [(b_o, (oc12 u_th u_sa b_rf b_ro b_im b_ke u_fd b_tp u_td u_fr u_to u_so u_wo u_fa u_bd u_nc b_nl u_co b_op b_ar u_le b_pi b_pa u_pd u_od b_ws b_hw u_la b_se b_re u_bk u_va u_su u_ce u_ho u_wy u_bt u_ps b_pt u_tg u_sn b_ip u_ic b_ah b_be b_me u_wd b_tr b_ld u_st b_wn u_id)), (b_rf, (arI G 7 v_rf)), (b_ro, (arI G 5740 v_ro)), (b_im, (arI G 11480 v_im)), (b_ke, (arZ G 2 v_ke))] sz)) 0 0 (va_A [(b_o, (oc12 u_th u_sa b_rf b_ro b_im b_ke u_fd b_tp u_td u_fr u_to u_so u_wo u_fa u_bd u_nc b_nl u_co b_op b_ar u_le b_pi b_pa u_pd u_od b_ws b_hw u_la b_se b_re u_bk u_va u_su u_ce u_ho u_wy u_bt u_ps b_pt u_tg u_sn b_ip u_ic b_ah b_be b_me u_wd b_tr b_ld u_st b_wn u_id)), (b_rf, (arI G 7 v_rf)), (b_ro, (arI G 5740 v_ro)), (b_im, (arI G 11480 v_im)), (b_ke, (arZ G 2 v_ke))] sz) := by
  refine Met.ofW (cc := cX12_back) (maxL := 3) (ret := (some .int)) (by decide +kernel) rfl ?_
  intro p e s m args below meth c s₁ B hml hv
  obtain ⟨rfl, hsz, hP, hK, hD0, hN, hT⟩ := hv
  have hx := B.exec
  have hb := B.bytes
  have hr := B.returns
  have hts : ∀ w ∈ tblG, w.before _ s = true := fun w h => atoms_spec (ws := (wsG yX12_back cX12_back 3 (some .int))) B.pre w (List.mem_cons_of_mem _ h)
  have hown : s.vm.findClass RX12 = some m.cls := findClass_of_methodNamed B.named
  have hlocks := B.notSynchronized
  subst hsz
  have hD := hD0.self (sz := s.heap.size)
  generalize hAe : va_A [(b_o, (oc12 u_th u_sa b_rf b_ro b_im b_ke u_fd b_tp u_td u_fr u_to u_so u_wo u_fa u_bd u_nc b_nl u_co b_op b_ar u_le b_pi b_pa u_pd u_od b_ws b_hw u_la b_se b_re u_bk u_va u_su u_ce u_ho u_wy u_bt u_ps b_pt u_tg u_sn b_ip u_ic b_ah b_be b_me u_wd b_tr b_ld u_st b_wn u_id)), (b_rf, (arI G 7 v_rf)), (b_ro, (arI G 5740 v_ro)), (b_im, (arI G 11480 v_im)), (b_ke, (arZ G 2 v_ke))] s.heap.size = A at hD hT ⊢
  have hA : ∀ q : Nat, s.heap.size ≤ q → A q := fun q h => by rw [← hAe]; exact Or.inr h
  have hS : va_S A s.heap s.heap [] := va_S.rf
  replace hP : va_P G.1 vwCl [(b_o, (oc12 u_th u_sa b_rf b_ro b_im b_ke u_fd b_tp u_td u_fr u_to u_so u_wo u_fa u_bd u_nc b_nl u_co b_op b_ar u_le b_pi b_pa u_pd u_od b_ws b_hw u_la b_se b_re u_bk u_va u_su u_ce u_ho u_wy u_bt u_ps b_pt u_tg u_sn b_ip u_ic b_ah b_be b_me u_wd b_tr b_ld u_st b_wn u_id)), (b_rf, (arI G 7 v_rf)), (b_ro, (arI G 5740 v_ro)), (b_im, (arI G 11480 v_im)), (b_ke, (arZ G 2 v_ke))] s.heap := hP
  have hl := lv_entry ([.ref b_o, .int p_1]) (n := 3) (Nat.le_of_ble_eq_true rfl)
  rw [lg_entry_eq]
  generalize (lg_sl ([.ref b_o, .int p_1]) ++ List.replicate (3 - (lg_sl ([.ref b_o, .int p_1])).length) Slot.unset).toArray = ls at hl ⊢
  replace hl : lv_has ls 3 [(0, .ref b_o), (1, .int p_1)] := hl
  refine lv_aload_n hx hb dX12_back_0 rfl (lv_at hl 0 rfl) ?_
  refine lv_iconst (v := 0) hx hb dX12_back_1 (by decide +kernel) ?_
  refine va_put (D := G.1) (ci := 12) (v := .int 0) (ty := .int) (C := RX12) (T := TX12) (N := 52) hx hb hts inG_X12 tyX12 tyX12_ok nmX12 hown hK hP hD hS 0 rfl rfl 0 (by decide +kernel) (hts _ fl_X12_107) (fun _ h9 => h9) rfl (by decide +kernel) rfl rfl (Nat.le_of_ble_eq_true rfl) dX12_back_2 ?_
  clear hP hD hS
  intro H locs hP hD hS
  refine g5_rs [(b_o, (oc12 0 u_sa b_rf b_ro b_im b_ke u_fd b_tp u_td u_fr u_to u_so u_wo u_fa u_bd u_nc b_nl u_co b_op b_ar u_le b_pi b_pa u_pd u_od b_ws b_hw u_la b_se b_re u_bk u_va u_su u_ce u_ho u_wy u_bt u_ps b_pt u_tg u_sn b_ip u_ic b_ah b_be b_me u_wd b_tr b_ld u_st b_wn u_id)), (b_rf, (arI G 7 v_rf)), (b_ro, (arI G 5740 v_ro)), (b_im, (arI G 11480 v_im)), (b_ke, (arZ G 2 v_ke))] hP hD ?_
  clear hP hD
  intro hP hD
  refine lv_iload_n hx hb dX12_back_5 rfl (lv_at hl 1 rfl) ?_
  refine W.eq (g2 := F0 m 6 ls [.int p_1]) rfl ?_
  refine lv_i2l (v := p_1.toInt64) hx hb dX12_back_6 rfl ?_
  refine lv_lconst (v := 0) hx hb dX12_back_7 (by decide +kernel) ?_
  refine lv_lconst (v := 1) hx hb dX12_back_8 (by decide +kernel) ?_
  obtain ⟨hPc, hDc, hFc⟩ := g5_sub3 (wc := []) hP hD hS hA [] (by decide +kernel) rfl
  refine va_calli (va_runS (As := [.long p_1.toInt64, .long 0, .long 1]) (rest := []) ⟨hx, hb, hml, hown, hts⟩ (n_in_0_1 l G H.size p_1) (va_cwS 3 hts gS_X12_121 rfl rfl rfl hs_X12_in ⟨Nat.le_of_ble_eq_true rfl, Nat.le_of_ble_eq_true rfl⟩) (g5_preS hPc hK hDc hN hT hS hFc) rfl rfl hl.1 rfl (lv_room (Nat.le_of_ble_eq_true rfl)) dX12_back_9 ⟨Nat.le_of_ble_eq_true rfl, Nat.le_of_ble_eq_true rfl⟩) hS (fun q _ h => hFc q h) hFc (fun r u t H locs ht hvm hw hB hz1 hk1 hS => ?_)
  obtain ⟨hP1, hD1⟩ := hB
  have hP1 := g5_ht ht hP1
  rcases hw with ⟨(i_1 : p_1.toInt < 0 ∨ 1 < p_1.toInt), rfl, rfl⟩ | ⟨(i_2 : 0 ≤ p_1.toInt ∧ p_1.toInt ≤ 1), rfl, rfl⟩
  ·
    have hJ9 := g5_same hP hk1
    clear hP hPc hDc hFc ht hvm hz1 hk1 hP1 hD1
    have hP := hJ9
    clear hJ9
    refine lv_if_ne (tgt := 21) hx hb dX12_back_12 (by decide +kernel) (fun c_3 => ?_) (fun c_3 => ?_)
    ·
      exact absurd c_3 (by decide +kernel)
    ·
      refine lv_aload_n hx hb dX12_back_15 rfl (lv_at hl 0 rfl) ?_
      refine lv_iconst (v := (-1)) hx hb dX12_back_16 (by decide +kernel) ?_
      obtain ⟨hPc, hDc, hFc⟩ := g5_sub3 (wc := [(b_o, (oc12 0 u_sa b_rf b_ro b_im b_ke u_fd b_tp u_td u_fr u_to u_so u_wo u_fa u_bd u_nc b_nl u_co b_op b_ar u_le b_pi b_pa u_pd u_od b_ws b_hw u_la b_se b_re u_bk u_va u_su u_ce u_ho u_wy u_bt u_ps b_pt u_tg u_sn b_ip u_ic b_ah b_be b_me u_wd b_tr b_ld u_st b_wn u_id)), (b_rf, (arI G 7 v_rf))]) hP hD hS hA [0, 1] (by decide +kernel) rfl
      refine va_calli (va_runV (As := [.int (-1)]) (rest := []) ⟨hx, hb, hml, hown, hts⟩ (n_tell1 l G b_o b_rf b_ro b_im b_ke b_tp b_nl b_op b_ar b_pi b_pa b_ws b_hw b_se b_re b_pt b_ip b_ah b_be b_me b_tr b_ld b_wn H.size 0 u_sa u_fd u_td u_fr u_to u_so u_fa u_bd u_nc u_co u_le u_pd u_od u_la u_bk u_ce u_ho u_wy u_bt u_ps u_tg u_sn u_ic u_wd u_id u_wo u_va u_su u_st v_rf h_u_td h_u_fr h_u_to h_u_bd h_u_nc h_u_co h_u_pd h_u_la h_u_bk h_u_ce h_u_ho h_u_wy h_u_bt h_u_ps h_u_ic h_u_id) (cwV 1 hts gV_X12_125 rfl rfl rfl hv_X12_tell ⟨Nat.le_of_ble_eq_true rfl, Nat.le_of_ble_eq_true rfl⟩) (g5_preV hPc hK hDc hN hT hS hFc (ci := 12) (q0 := 0) rfl rfl) rfl rfl hl.1 rfl (lv_room (Nat.le_of_ble_eq_true rfl)) dX12_back_17 ⟨Nat.le_of_ble_eq_true rfl, Nat.le_of_ble_eq_true rfl⟩) hS (fun q _ h => hFc q h) hFc (fun r u t H locs ht hvm hw hB hz1 hk1 hS => ?_)
      obtain ⟨hP1, hD1⟩ := hB
      have hP1 := g5_ht ht hP1
      obtain ⟨z5, z6, z7, (i_4 : 0 ≤ z6.toInt ∧ z6.toInt ≤ 1), rfl, rfl⟩ := hw
      have hJ9 := va_join (wr := [(b_ro, (arI G 5740 v_ro)), (b_im, (arI G 11480 v_im)), (b_ke, (arZ G 2 v_ke))]) hP hD [0, 1] [2, 3, 4] rfl rfl (by decide +kernel) (by decide +kernel) hk1 hFc hP1 hD1
      clear hP hD hPc hDc hFc ht hvm hz1 hk1 hP1 hD1
      obtain ⟨hP, hD⟩ := hJ9
      refine g5_rs [(b_ro, (arI G 5740 v_ro)), (b_im, (arI G 11480 v_im)), (b_ke, (arZ G 2 v_ke)), (b_o, (oc12 0 z5 b_rf b_ro b_im b_ke u_fd b_tp u_td u_fr u_to u_so u_wo u_fa u_bd u_nc b_nl u_co b_op b_ar u_le b_pi b_pa u_pd u_od b_ws b_hw u_la b_se b_re u_bk u_va u_su u_ce u_ho u_wy u_bt u_ps b_pt u_tg u_sn b_ip z6 b_ah b_be b_me u_wd b_tr b_ld u_st b_wn u_id)), (b_rf, (arI G 7 z7))] hP hD ?_
      clear hP hD
      intro hP hD
      exact W.iret (v := (-1)) hx hb hr (fun t ht hW => ⟨⟨(-1), [(b_o, (oc12 0 z5 b_rf b_ro b_im b_ke u_fd b_tp u_td u_fr u_to u_so u_wo u_fa u_bd u_nc b_nl u_co b_op b_ar u_le b_pi b_pa u_pd u_od b_ws b_hw u_la b_se b_re u_bk u_va u_su u_ce u_ho u_wy u_bt u_ps b_pt u_tg u_sn b_ip z6 b_ah b_be b_me u_wd b_tr b_ld u_st b_wn u_id)), (b_rf, (arI G 7 z7)), (b_ro, (arI G 5740 v_ro)), (b_im, (arI G 11480 v_im)), (b_ke, (arZ G 2 v_ke))], rfl, ⟨(-1), 0, z5, z6, z7, v_ro, i_4, r_ro, (back_1 (f := v_ro) (im := v_im) (ke := v_ke) (p := p_1) (okM_n (by omega))).1.symm, fun j _ => by rw [(back_1 (f := v_ro) (im := v_im) (ke := v_ke) (p := p_1) (okM_n (by omega))).2], rfl, rfl⟩, by rw [ht]; exact hP.sub [3, 4, 0, 1, 2] rfl, hD.sub [3, 4, 0, 1, 2] (by decide +kernel) rfl⟩, hS.F ht⟩) hS.2.2 dX12_back_20
  ·
    have hJ9 := g5_same hP hk1
    clear hP hPc hDc hFc ht hvm hz1 hk1 hP1 hD1
    have hP := hJ9
    clear hJ9
    refine lv_if_ne (tgt := 21) hx hb dX12_back_12 (by decide +kernel) (fun c_8 => ?_) (fun c_8 => ?_)
    ·
      refine lv_aload_n hx hb dX12_back_21 rfl (lv_at hl 0 rfl) ?_
      refine va_get (D := G.1) (ci := 12) (v := .ref b_ke) (C := RX12) (T := TX12) (N := 52) hx hb hts inG_X12 hown hK hP 0 rfl rfl 5 (by decide +kernel) (hts _ fl_X12_19) (fun _ h9 => h9) rfl dX12_back_22 ?_
      refine lv_iload_n hx hb dX12_back_25 rfl (lv_at hl 1 rfl) ?_
      refine va_zald hx hb hK hP 4 2 rfl rfl (i := p_1) (vp_in_iff.mpr ⟨by omega, by omega⟩) dX12_back_26 ?_
      refine W.eq (g2 := F0 m 27 ls [.int (v_ke p_1.toNatClampNeg)]) rfl ?_
      refine lv_if_ne (tgt := 37) hx hb dX12_back_27 (by decide +kernel) (fun c_9 => ?_) (fun c_9 => ?_)
      ·
        have n_9 : gNe ((v_ke p_1.toNatClampNeg).toInt) (0) := g5_ne (a := (v_ke p_1.toNatClampNeg).toInt) (b := 0) rfl (by decide +kernel) c_9
        refine lv_iconst (v := 0) hx hb dX12_back_37 (by decide +kernel) ?_
        refine lv_istore_n (lv' := [(2, .int 0), (0, .ref b_o), (1, .int p_1)]) hx hb dX12_back_38 rfl hl (by decide +kernel) rfl ?_
        clear hl
        intro ls hl
        refine g5_loop (α := (Int32) × (Nat → Int32)) (fun (q : (Int32) × (Nat → Int32)) (ls : Array Slot) (H : Heap) (locs : List Loc) => match q with | (k39_2, k39_ro) => lv_has ls 3 [(2, .int k39_2), (0, .ref b_o), (1, .int p_1)] ∧ va_P G.1 vwCl [(b_o, (oc12 0 u_sa b_rf b_ro b_im b_ke u_fd b_tp u_td u_fr u_to u_so u_wo u_fa u_bd u_nc b_nl u_co b_op b_ar u_le b_pi b_pa u_pd u_od b_ws b_hw u_la b_se b_re u_bk u_va u_su u_ce u_ho u_wy u_bt u_ps b_pt u_tg u_sn b_ip u_ic b_ah b_be b_me u_wd b_tr b_ld u_st b_wn u_id)), (b_rf, (arI G 7 v_rf)), (b_ro, (arI G 5740 k39_ro)), (b_im, (arI G 11480 v_im)), (b_ke, (arZ G 2 v_ke))] H ∧ va_D A [(b_o, (oc12 0 u_sa b_rf b_ro b_im b_ke u_fd b_tp u_td u_fr u_to u_so u_wo u_fa u_bd u_nc b_nl u_co b_op b_ar u_le b_pi b_pa u_pd u_od b_ws b_hw u_la b_se b_re u_bk u_va u_su u_ce u_ho u_wy u_bt u_ps b_pt u_tg u_sn b_ip u_ic b_ah b_be b_me u_wd b_tr b_ld u_st b_wn u_id)), (b_rf, (arI G 7 v_rf)), (b_ro, (arI G 5740 k39_ro)), (b_im, (arI G 11480 v_im)), (b_ke, (arZ G 2 v_ke))] ∧ va_S A s.heap H locs ∧ (0 ≤ k39_2.toInt ∧ k39_2.toInt ≤ 5740) ∧ (∀ j : Nat, (j : Int) < k39_2.toInt → k39_ro j = v_im (5740 * p_1.toInt.toNat + j))) (fun (q : (Int32) × (Nat → Int32)) => match q with | (k39_2, k39_ro) => Int.toNat (5740 - k39_2.toInt)) (0, v_ro) ⟨lv_sub hl [0, 1, 2] rfl, hP, hD, hS, ⟨by decide, by decide⟩, fun j h => absurd h (by have z : (0 : Int32).toInt = 0 := (by decide +kernel); omega)⟩ ?_
        rintro ⟨k39_2, k39_ro⟩ ls H locs ⟨hl, hP, hD, hS, (i_10 : 0 ≤ k39_2.toInt ∧ k39_2.toInt ≤ 5740), (i_11 : ∀ j : Nat, (j : Int) < k39_2.toInt → k39_ro j = v_im (5740 * p_1.toInt.toNat + j))⟩ ih_39_12
        replace hl : lv_has ls 3 [(2, .int k39_2), (0, .ref b_o), (1, .int p_1)] := hl
        refine g5_rs [(b_o, (oc12 0 u_sa b_rf b_ro b_im b_ke u_fd b_tp u_td u_fr u_to u_so u_wo u_fa u_bd u_nc b_nl u_co b_op b_ar u_le b_pi b_pa u_pd u_od b_ws b_hw u_la b_se b_re u_bk u_va u_su u_ce u_ho u_wy u_bt u_ps b_pt u_tg u_sn b_ip u_ic b_ah b_be b_me u_wd b_tr b_ld u_st b_wn u_id)), (b_rf, (arI G 7 v_rf)), (b_ro, (arI G 5740 k39_ro)), (b_im, (arI G 11480 v_im)), (b_ke, (arZ G 2 v_ke))] hP hD ?_
        clear hP hD
        intro hP hD
        refine lv_iload_n hx hb dX12_back_39 rfl (lv_at hl 0 rfl) ?_
        refine lv_sipush (v := 5740) hx hb dX12_back_40 (by decide +kernel) ?_
        refine lv_icmp_ge (tgt := 70) hx hb dX12_back_43 (by decide +kernel) (fun c_13 => ?_) (fun c_13 => ?_)
        ·
          have i_13 : k39_2.toInt ≥ 5740 := g5_ge (a := k39_2.toInt) (b := 5740) rfl (by decide +kernel) c_13
          refine lv_aload_n hx hb dX12_back_70 rfl (lv_at hl 1 rfl) ?_
          refine lv_iconst (v := 0) hx hb dX12_back_71 (by decide +kernel) ?_
          obtain ⟨hPc, hDc, hFc⟩ := g5_sub3 (wc := [(b_o, (oc12 0 u_sa b_rf b_ro b_im b_ke u_fd b_tp u_td u_fr u_to u_so u_wo u_fa u_bd u_nc b_nl u_co b_op b_ar u_le b_pi b_pa u_pd u_od b_ws b_hw u_la b_se b_re u_bk u_va u_su u_ce u_ho u_wy u_bt u_ps b_pt u_tg u_sn b_ip u_ic b_ah b_be b_me u_wd b_tr b_ld u_st b_wn u_id)), (b_rf, (arI G 7 v_rf))]) hP hD hS hA [0, 1] (by decide +kernel) rfl
          refine va_calli (va_runV (As := [.int 0]) (rest := []) ⟨hx, hb, hml, hown, hts⟩ (n_tell l G b_o b_rf b_ro b_im b_ke b_tp b_nl b_op b_ar b_pi b_pa b_ws b_hw b_se b_re b_pt b_ip b_ah b_be b_me b_tr b_ld b_wn H.size 0 u_sa u_fd u_td u_fr u_to u_so u_fa u_bd u_nc u_co u_le u_pd u_od u_la u_bk u_ce u_ho u_wy u_bt u_ps u_tg u_sn u_ic u_wd u_id 0 u_wo u_va u_su u_st v_rf h_u_td h_u_fr h_u_to h_u_bd h_u_nc h_u_co h_u_pd h_u_la h_u_bk h_u_ce h_u_ho h_u_wy h_u_bt h_u_ps h_u_ic h_u_id ⟨by decide, by decide⟩) (cwV 1 hts gV_X12_125 rfl rfl rfl hv_X12_tell ⟨Nat.le_of_ble_eq_true rfl, Nat.le_of_ble_eq_true rfl⟩) (g5_preV hPc hK hDc hN hT hS hFc (ci := 12) (q0 := 0) rfl rfl) rfl rfl hl.1 rfl (lv_room (Nat.le_of_ble_eq_true rfl)) dX12_back_72 ⟨Nat.le_of_ble_eq_true rfl, Nat.le_of_ble_eq_true rfl⟩) hS (fun q _ h => hFc q h) hFc (fun r u t H locs ht hvm hw hB hz1 hk1 hS => ?_)
          obtain ⟨hP1, hD1⟩ := hB
          have hP1 := g5_ht ht hP1
          obtain ⟨z15, z16, z17, (i_14 : 0 ≤ z16.toInt ∧ z16.toInt ≤ 1), rfl, rfl⟩ := hw
          have hJ9 := va_join (wr := [(b_ro, (arI G 5740 k39_ro)), (b_im, (arI G 11480 v_im)), (b_ke, (arZ G 2 v_ke))]) hP hD [0, 1] [2, 3, 4] rfl rfl (by decide +kernel) (by decide +kernel) hk1 hFc hP1 hD1
          clear hP hD hPc hDc hFc ht hvm hz1 hk1 hP1 hD1
          obtain ⟨hP, hD⟩ := hJ9
          refine g5_rs [(b_ro, (arI G 5740 k39_ro)), (b_im, (arI G 11480 v_im)), (b_ke, (arZ G 2 v_ke)), (b_o, (oc12 0 z15 b_rf b_ro b_im b_ke u_fd b_tp u_td u_fr u_to u_so u_wo u_fa u_bd u_nc b_nl u_co b_op b_ar u_le b_pi b_pa u_pd u_od b_ws b_hw u_la b_se b_re u_bk u_va u_su u_ce u_ho u_wy u_bt u_ps b_pt u_tg u_sn b_ip z16 b_ah b_be b_me u_wd b_tr b_ld u_st b_wn u_id)), (b_rf, (arI G 7 z17))] hP hD ?_
          clear hP hD
          intro hP hD
          exact W.iret (v := 0) hx hb hr (fun t ht hW => ⟨⟨0, [(b_o, (oc12 0 z15 b_rf b_ro b_im b_ke u_fd b_tp u_td u_fr u_to u_so u_wo u_fa u_bd u_nc b_nl u_co b_op b_ar u_le b_pi b_pa u_pd u_od b_ws b_hw u_la b_se b_re u_bk u_va u_su u_ce u_ho u_wy u_bt u_ps b_pt u_tg u_sn b_ip z16 b_ah b_be b_me u_wd b_tr b_ld u_st b_wn u_id)), (b_rf, (arI G 7 z17)), (b_ro, (arI G 5740 k39_ro)), (b_im, (arI G 11480 v_im)), (b_ke, (arZ G 2 v_ke))], rfl, ⟨0, 0, z15, z16, z17, k39_ro, i_14, im_back r_im (by omega) n_9 i_11 (by omega), (back_0 (f := v_ro) (im := v_im) (ke := v_ke) (p := p_1) ⟨by omega, by omega⟩ (by have zz := g5_clamp p_1; rw [← zz]; exact n_9)).1.symm, fun j hj => by rw [(back_0 (f := v_ro) (im := v_im) (ke := v_ke) (p := p_1) ⟨by omega, by omega⟩ (by have zz := g5_clamp p_1; rw [← zz]; exact n_9)).2]; exact i_11 j (by omega), rfl, rfl⟩, by rw [ht]; exact hP.sub [3, 4, 0, 1, 2] rfl, hD.sub [3, 4, 0, 1, 2] (by decide +kernel) rfl⟩, hS.F ht⟩) hS.2.2 dX12_back_75
        ·
          have i_13 : k39_2.toInt < 5740 := g5_geN (a := k39_2.toInt) (b := 5740) rfl (by decide +kernel) c_13
          refine lv_aload_n hx hb dX12_back_46 rfl (lv_at hl 1 rfl) ?_
          refine va_get (D := G.1) (ci := 12) (v := .ref b_ro) (C := RX12) (T := TX12) (N := 52) hx hb hts inG_X12 hown hK hP 0 rfl rfl 3 (by decide +kernel) (hts _ fl_X12_13) (fun _ h9 => h9) rfl dX12_back_47 ?_
          refine lv_iload_n hx hb dX12_back_50 rfl (lv_at hl 0 rfl) ?_
          refine lv_aload_n hx hb dX12_back_51 rfl (lv_at hl 1 rfl) ?_
          refine W.eq (g2 := F0 m 52 ls [.ref b_o, .int k39_2, .ref b_ro]) rfl ?_
          refine va_get (D := G.1) (ci := 12) (v := .ref b_im) (C := RX12) (T := TX12) (N := 52) hx hb hts inG_X12 hown hK hP 0 rfl rfl 4 (by decide +kernel) (hts _ fl_X12_16) (fun _ h9 => h9) rfl dX12_back_52 ?_
          refine lv_sipush (v := 5740) hx hb dX12_back_55 (by decide +kernel) ?_
          refine lv_iload_n hx hb dX12_back_58 rfl (lv_at hl 2 rfl) ?_
          refine lv_imul hx hb dX12_back_59 ?_
          have t_18 : (5740 * p_1).toInt = 5740 * p_1.toInt := g5_imul (a := 5740) (b := p_1.toInt) (by decide +kernel) (by rfl) (by omega) (by omega)
          refine lv_iload_n hx hb dX12_back_60 rfl (lv_at hl 0 rfl) ?_
          refine W.eq (g2 := F0 m 61 ls [.int k39_2, .int (5740 * p_1), .ref b_im, .int k39_2, .ref b_ro]) rfl ?_
          refine lv_iadd hx hb dX12_back_61 ?_
          have t_19 : ((5740 * p_1) + k39_2).toInt = (5740 * p_1).toInt + k39_2.toInt := g5_iadd (a := (5740 * p_1).toInt) (b := k39_2.toInt) (by rfl) (by rfl) (by omega) (by omega)
          refine va_iald hx hb hK hP 3 0 rfl rfl (i := ((5740 * p_1) + k39_2)) (vp_in_iff.mpr ⟨by omega, by omega⟩) dX12_back_62 ?_
          refine va_iast hx hb hK hP hD hS 2 0 rfl rfl (i := k39_2) (x := (v_im ((5740 * p_1) + k39_2).toNatClampNeg)) (vp_in_iff.mpr ⟨by omega, by omega⟩) dX12_back_63 ?_
          clear hP hD hS
          intro H locs hP hD hS
          refine g5_rs [(b_o, (oc12 0 u_sa b_rf b_ro b_im b_ke u_fd b_tp u_td u_fr u_to u_so u_wo u_fa u_bd u_nc b_nl u_co b_op b_ar u_le b_pi b_pa u_pd u_od b_ws b_hw u_la b_se b_re u_bk u_va u_su u_ce u_ho u_wy u_bt u_ps b_pt u_tg u_sn b_ip u_ic b_ah b_be b_me u_wd b_tr b_ld u_st b_wn u_id)), (b_rf, (arI G 7 v_rf)), (b_ro, (arI G 5740 (upd k39_ro k39_2.toNatClampNeg (v_im ((5740 * p_1) + k39_2).toNatClampNeg)))), (b_im, (arI G 11480 v_im)), (b_ke, (arZ G 2 v_ke))] hP hD ?_
          clear hP hD
          intro hP hD
          refine lv_iinc (v := (k39_2 + 1)) (lv' := [(2, .int (k39_2 + 1)), (0, .ref b_o), (1, .int p_1)]) hx hb dX12_back_64 hl (k := 0) rfl rfl (by decide +kernel) rfl ?_
          clear hl
          intro ls hl
          have t_20 : (k39_2 + 1).toInt = k39_2.toInt + 1 := g5_iadd (a := k39_2.toInt) (b := 1) rfl (by decide +kernel) (by omega) (by omega)
          refine lv_goto (tgt := 39) hx hb dX12_back_67 (by decide +kernel) ?_
          exact ih_39_12 ((k39_2 + 1), (upd k39_ro k39_2.toNatClampNeg (v_im ((5740 * p_1) + k39_2).toNatClampNeg))) ls H locs (show Int.toNat (5740 - (k39_2 + 1).toInt) < Int.toNat (5740 - k39_2.toInt) from g_up (show k39_2.toInt < (k39_2 + 1).toInt by omega) (show k39_2.toInt < 5740 by omega)) ⟨lv_sub hl [0, 1, 2] rfl, hP, hD, hS, ⟨by omega, by omega⟩, ba_step i_11 (by omega) (by omega) (by omega) (by omega)⟩
      ·
        have i_9 : (v_ke p_1.toNatClampNeg).toInt = 0 := g5_neN (a := (v_ke p_1.toNatClampNeg).toInt) (b := 0) rfl (by decide +kernel) c_9
        refine lv_aload_n hx hb dX12_back_30 rfl (lv_at hl 0 rfl) ?_
        refine lv_bipush (v := (-2)) hx hb dX12_back_31 (by decide +kernel) ?_
        obtain ⟨hPc, hDc, hFc⟩ := g5_sub3 (wc := [(b_o, (oc12 0 u_sa b_rf b_ro b_im b_ke u_fd b_tp u_td u_fr u_to u_so u_wo u_fa u_bd u_nc b_nl u_co b_op b_ar u_le b_pi b_pa u_pd u_od b_ws b_hw u_la b_se b_re u_bk u_va u_su u_ce u_ho u_wy u_bt u_ps b_pt u_tg u_sn b_ip u_ic b_ah b_be b_me u_wd b_tr b_ld u_st b_wn u_id)), (b_rf, (arI G 7 v_rf))]) hP hD hS hA [0, 1] (by decide +kernel) rfl
        refine va_calli (va_runV (As := [.int (-2)]) (rest := []) ⟨hx, hb, hml, hown, hts⟩ (n_tell2 l G b_o b_rf b_ro b_im b_ke b_tp b_nl b_op b_ar b_pi b_pa b_ws b_hw b_se b_re b_pt b_ip b_ah b_be b_me b_tr b_ld b_wn H.size 0 u_sa u_fd u_td u_fr u_to u_so u_fa u_bd u_nc u_co u_le u_pd u_od u_la u_bk u_ce u_ho u_wy u_bt u_ps u_tg u_sn u_ic u_wd u_id u_wo u_va u_su u_st v_rf h_u_td h_u_fr h_u_to h_u_bd h_u_nc h_u_co h_u_pd h_u_la h_u_bk h_u_ce h_u_ho h_u_wy h_u_bt h_u_ps h_u_ic h_u_id) (cwV 1 hts gV_X12_125 rfl rfl rfl hv_X12_tell ⟨Nat.le_of_ble_eq_true rfl, Nat.le_of_ble_eq_true rfl⟩) (g5_preV hPc hK hDc hN hT hS hFc (ci := 12) (q0 := 0) rfl rfl) rfl rfl hl.1 rfl (lv_room (Nat.le_of_ble_eq_true rfl)) dX12_back_33 ⟨Nat.le_of_ble_eq_true rfl, Nat.le_of_ble_eq_true rfl⟩) hS (fun q _ h => hFc q h) hFc (fun r u t H locs ht hvm hw hB hz1 hk1 hS => ?_)
        obtain ⟨hP1, hD1⟩ := hB
        have hP1 := g5_ht ht hP1
        obtain ⟨z22, z23, z24, (i_21 : 0 ≤ z23.toInt ∧ z23.toInt ≤ 1), rfl, rfl⟩ := hw
        have hJ9 := va_join (wr := [(b_ro, (arI G 5740 v_ro)), (b_im, (arI G 11480 v_im)), (b_ke, (arZ G 2 v_ke))]) hP hD [0, 1] [2, 3, 4] rfl rfl (by decide +kernel) (by decide +kernel) hk1 hFc hP1 hD1
        clear hP hD hPc hDc hFc ht hvm hz1 hk1 hP1 hD1
        obtain ⟨hP, hD⟩ := hJ9
        refine g5_rs [(b_ro, (arI G 5740 v_ro)), (b_im, (arI G 11480 v_im)), (b_ke, (arZ G 2 v_ke)), (b_o, (oc12 0 z22 b_rf b_ro b_im b_ke u_fd b_tp u_td u_fr u_to u_so u_wo u_fa u_bd u_nc b_nl u_co b_op b_ar u_le b_pi b_pa u_pd u_od b_ws b_hw u_la b_se b_re u_bk u_va u_su u_ce u_ho u_wy u_bt u_ps b_pt u_tg u_sn b_ip z23 b_ah b_be b_me u_wd b_tr b_ld u_st b_wn u_id)), (b_rf, (arI G 7 z24))] hP hD ?_
        clear hP hD
        intro hP hD
        exact W.iret (v := (-2)) hx hb hr (fun t ht hW => ⟨⟨(-2), [(b_o, (oc12 0 z22 b_rf b_ro b_im b_ke u_fd b_tp u_td u_fr u_to u_so u_wo u_fa u_bd u_nc b_nl u_co b_op b_ar u_le b_pi b_pa u_pd u_od b_ws b_hw u_la b_se b_re u_bk u_va u_su u_ce u_ho u_wy u_bt u_ps b_pt u_tg u_sn b_ip z23 b_ah b_be b_me u_wd b_tr b_ld u_st b_wn u_id)), (b_rf, (arI G 7 z24)), (b_ro, (arI G 5740 v_ro)), (b_im, (arI G 11480 v_im)), (b_ke, (arZ G 2 v_ke))], rfl, ⟨(-2), 0, z22, z23, z24, v_ro, i_21, r_ro, (back_2 (f := v_ro) (im := v_im) (ke := v_ke) (p := p_1) ⟨by omega, by omega⟩ (by have zz := g5_clamp p_1; rw [← zz]; exact (by omega))).1.symm, fun j _ => by rw [(back_2 (f := v_ro) (im := v_im) (ke := v_ke) (p := p_1) ⟨by omega, by omega⟩ (by have zz := g5_clamp p_1; rw [← zz]; exact (by omega))).2], rfl, rfl⟩, by rw [ht]; exact hP.sub [3, 4, 0, 1, 2] rfl, hD.sub [3, 4, 0, 1, 2] (by decide +kernel) rfl⟩, hS.F ht⟩) hS.2.2 dX12_back_36
    ·
      exact absurd c_8 (by decide +kernel)
set_option maxHeartbeats 4000000 in
set_option maxRecDepth 100000 in
theorem n_faultE (l : Launch) (G : g5_G) (b_o b_rf b_ro b_im b_ke b_tp b_nl b_op b_ar b_pi b_pa b_ws b_hw b_se b_re b_pt b_ip b_ah b_be b_me b_tr b_ld b_wn : Nat) (sz : Nat) (u_th : Int32) (u_sa : Int32) (u_fd : Int32) (u_td : Int32) (u_fr : Int32) (u_to : Int32) (u_so : Int32) (u_fa : Int32) (u_bd : Int32) (u_nc : Int32) (u_co : Int32) (u_le : Int32) (u_pd : Int32) (u_od : Int32) (u_la : Int32) (u_bk : Int32) (u_ce : Int32) (u_ho : Int32) (u_wy : Int32) (u_bt : Int32) (u_ps : Int32) (u_tg : Int32) (u_sn : Int32) (u_ic : Int32) (u_wd : Int32) (u_id : Int32) (u_wo : Int64) (u_va : Int64) (u_su : Int64) (u_st : Int64) (h_u_td : 0 ≤ u_td.toInt ∧ u_td.toInt ≤ 400) (h_u_fr : 0 ≤ u_fr.toInt ∧ u_fr.toInt ≤ 400) (h_u_to : 0 ≤ u_to.toInt ∧ u_to.toInt ≤ 400) (h_u_bd : 0 ≤ u_bd.toInt ∧ u_bd.toInt ≤ 1) (h_u_nc : 0 ≤ u_nc.toInt ∧ u_nc.toInt ≤ 12) (h_u_co : 0 ≤ u_co.toInt ∧ u_co.toInt ≤ 400) (h_u_pd : 0 ≤ u_pd.toInt ∧ u_pd.toInt ≤ 400) (h_u_la : 0 ≤ u_la.toInt ∧ u_la.toInt ≤ 4840) (h_u_bk : 0 ≤ u_bk.toInt ∧ u_bk.toInt ≤ 1) (h_u_ce : 0 ≤ u_ce.toInt ∧ u_ce.toInt ≤ 63) (h_u_ho : 0 ≤ u_ho.toInt ∧ u_ho.toInt ≤ 23) (h_u_wy : 0 ≤ u_wy.toInt ∧ u_wy.toInt ≤ 3) (h_u_bt : 0 ≤ u_bt.toInt ∧ u_bt.toInt ≤ 1000000) (h_u_ps : 0 ≤ u_ps.toInt ∧ u_ps.toInt ≤ 200) (h_u_ic : 0 ≤ u_ic.toInt ∧ u_ic.toInt ≤ 1) (h_u_id : 0 ≤ u_id.toInt ∧ u_id.toInt ≤ 1) : Met l yX12_fault (wsG yX12_fault cX12_fault 1 (some .int)) ({ frames := 0, cells := 0, slots := 0, locals := 0 }) (va_Pc [.ref b_o] (g5_P G [(b_o, (oc12 u_th u_sa b_rf b_ro b_im b_ke u_fd b_tp u_td u_fr u_to u_so u_wo u_fa u_bd u_nc b_nl u_co b_op b_ar u_le b_pi b_pa u_pd u_od b_ws b_hw u_la b_se b_re u_bk u_va u_su u_ce u_ho u_wy u_bt u_ps b_pt u_tg u_sn b_ip u_ic b_ah b_be b_me u_wd b_tr b_ld u_st b_wn u_id))] sz)) (va_Qi (fun (r : Int32) (u : va_W) => (∃ (o_th : Int32), (r = u_fa) ∧ (u = [(b_o, (oc12 o_th u_sa b_rf b_ro b_im b_ke u_fd b_tp u_td u_fr u_to u_so u_wo u_fa u_bd u_nc b_nl u_co b_op b_ar u_le b_pi b_pa u_pd u_od b_ws b_hw u_la b_se b_re u_bk u_va u_su u_ce u_ho u_wy u_bt u_ps b_pt u_tg u_sn b_ip u_ic b_ah b_be b_me u_wd b_tr b_ld u_st b_wn u_id))]))) (g5_B G (va_A [(b_o, (oc12 u_th u_sa b_rf b_ro b_im b_ke u_fd b_tp u_td u_fr u_to u_so u_wo u_fa u_bd u_nc b_nl u_co b_op b_ar u_le b_pi b_pa u_pd u_od b_ws b_hw u_la b_se b_re u_bk u_va u_su u_ce u_ho u_wy u_bt u_ps b_pt u_tg u_sn b_ip u_ic b_ah b_be b_me u_wd b_tr b_ld u_st b_wn u_id))] sz)) (va_A [(b_o, (oc12 u_th u_sa b_rf b_ro b_im b_ke u_fd b_tp u_td u_fr u_to u_so u_wo u_fa u_bd u_nc b_nl u_co b_op b_ar u_le b_pi b_pa u_pd u_od b_ws b_hw u_la b_se b_re u_bk u_va u_su u_ce u_ho u_wy u_bt u_ps b_pt u_tg u_sn b_ip u_ic b_ah b_be b_me u_wd b_tr b_ld u_st b_wn u_id))] sz)) 0 0 (va_A [(b_o, (oc12 u_th u_sa b_rf b_ro b_im b_ke u_fd b_tp u_td u_fr u_to u_so u_wo u_fa u_bd u_nc b_nl u_co b_op b_ar u_le b_pi b_pa u_pd u_od b_ws b_hw u_la b_se b_re u_bk u_va u_su u_ce u_ho u_wy u_bt u_ps b_pt u_tg u_sn b_ip u_ic b_ah b_be b_me u_wd b_tr b_ld u_st b_wn u_id))] sz) := by
  refine Met.ofW (cc := cX12_fault) (maxL := 1) (ret := (some .int)) (by decide +kernel) rfl ?_
  intro p e s m args below meth c s₁ B hml hv
  obtain ⟨rfl, hsz, hP, hK, hD0, hN, hT⟩ := hv
  have hx := B.exec
  have hb := B.bytes
  have hr := B.returns
  have hts : ∀ w ∈ tblG, w.before _ s = true := fun w h => atoms_spec (ws := (wsG yX12_fault cX12_fault 1 (some .int))) B.pre w (List.mem_cons_of_mem _ h)
  have hown : s.vm.findClass RX12 = some m.cls := findClass_of_methodNamed B.named
  have hlocks := B.notSynchronized
  subst hsz
  have hD := hD0.self (sz := s.heap.size)
  generalize hAe : va_A [(b_o, (oc12 u_th u_sa b_rf b_ro b_im b_ke u_fd b_tp u_td u_fr u_to u_so u_wo u_fa u_bd u_nc b_nl u_co b_op b_ar u_le b_pi b_pa u_pd u_od b_ws b_hw u_la b_se b_re u_bk u_va u_su u_ce u_ho u_wy u_bt u_ps b_pt u_tg u_sn b_ip u_ic b_ah b_be b_me u_wd b_tr b_ld u_st b_wn u_id))] s.heap.size = A at hD hT ⊢
  have hA : ∀ q : Nat, s.heap.size ≤ q → A q := fun q h => by rw [← hAe]; exact Or.inr h
  have hS : va_S A s.heap s.heap [] := va_S.rf
  replace hP : va_P G.1 vwCl [(b_o, (oc12 u_th u_sa b_rf b_ro b_im b_ke u_fd b_tp u_td u_fr u_to u_so u_wo u_fa u_bd u_nc b_nl u_co b_op b_ar u_le b_pi b_pa u_pd u_od b_ws b_hw u_la b_se b_re u_bk u_va u_su u_ce u_ho u_wy u_bt u_ps b_pt u_tg u_sn b_ip u_ic b_ah b_be b_me u_wd b_tr b_ld u_st b_wn u_id))] s.heap := hP
  have hl := lv_entry ([.ref b_o]) (n := 1) (Nat.le_of_ble_eq_true rfl)
  rw [lg_entry_eq]
  generalize (lg_sl ([.ref b_o]) ++ List.replicate (1 - (lg_sl ([.ref b_o])).length) Slot.unset).toArray = ls at hl ⊢
  replace hl : lv_has ls 1 [(0, .ref b_o)] := hl
  refine lv_aload_n hx hb dX12_fault_0 rfl (lv_at hl 0 rfl) ?_
  refine lv_iconst (v := 0) hx hb dX12_fault_1 (by decide +kernel) ?_
  refine va_put (D := G.1) (ci := 12) (v := .int 0) (ty := .int) (C := RX12) (T := TX12) (N := 52) hx hb hts inG_X12 tyX12 tyX12_ok nmX12 hown hK hP hD hS 0 rfl rfl 0 (by decide +kernel) (hts _ fl_X12_107) (fun _ h9 => h9) rfl (by decide +kernel) rfl rfl (Nat.le_of_ble_eq_true rfl) dX12_fault_2 ?_
  clear hP hD hS
  intro H locs hP hD hS
  refine g5_rs [(b_o, (oc12 0 u_sa b_rf b_ro b_im b_ke u_fd b_tp u_td u_fr u_to u_so u_wo u_fa u_bd u_nc b_nl u_co b_op b_ar u_le b_pi b_pa u_pd u_od b_ws b_hw u_la b_se b_re u_bk u_va u_su u_ce u_ho u_wy u_bt u_ps b_pt u_tg u_sn b_ip u_ic b_ah b_be b_me u_wd b_tr b_ld u_st b_wn u_id))] hP hD ?_
  clear hP hD
  intro hP hD
  refine lv_aload_n hx hb dX12_fault_5 rfl (lv_at hl 0 rfl) ?_
  refine W.eq (g2 := F0 m 6 ls [.ref b_o]) rfl ?_
  refine va_get (D := G.1) (ci := 12) (v := .int u_fa) (C := RX12) (T := TX12) (N := 52) hx hb hts inG_X12 hown hK hP 0 rfl rfl 13 (by decide +kernel) (hts _ fl_X12_26) (fun _ h9 => h9) rfl dX12_fault_6 ?_
  exact W.iret (v := u_fa) hx hb hr (fun t ht hW => ⟨⟨u_fa, [(b_o, (oc12 0 u_sa b_rf b_ro b_im b_ke u_fd b_tp u_td u_fr u_to u_so u_wo u_fa u_bd u_nc b_nl u_co b_op b_ar u_le b_pi b_pa u_pd u_od b_ws b_hw u_la b_se b_re u_bk u_va u_su u_ce u_ho u_wy u_bt u_ps b_pt u_tg u_sn b_ip u_ic b_ah b_be b_me u_wd b_tr b_ld u_st b_wn u_id))], rfl, ⟨0, rfl, rfl⟩, by rw [ht]; exact hP.sub [0] rfl, hD.sub [0] (by decide +kernel) rfl⟩, hS.F ht⟩) hS.2.2 dX12_fault_9
set_option maxHeartbeats 4000000 in
set_option maxRecDepth 100000 in
theorem j_combineX (l : Launch) (G : g5_G) (a_j a_sk a_as : Nat) (sz : Nat) (p_o : Int32) (p_p : Int32) (f_sk : Nat → Int64) (h_p_p : (-2) ≤ p_p.toInt ∧ p_p.toInt ≤ 48) : Met l yX2_combine (wsG yX2_combine cX2_combine 9 (some .boolean)) ({ frames := 0, cells := 0, slots := 0, locals := 0 }) (va_Pc [.ref a_j, .int p_o, .int p_p] (g5_P G [(a_j, (oc2 a_as a_sk)), (a_sk, (arJ G 50 f_sk))] sz)) (va_Qi (fun (r : Int32) (u : va_W) => (∃ (o_k : Nat → Int64), (0 ≤ p_p.toInt ∧ ∃ v : Int64, bo (bop p_o.toInt) (f_sk p_p.toNatClampNeg) (f_sk (p_p + 1).toNatClampNeg) = some v ∧ o_k = vp_updL f_sk p_p.toNatClampNeg v) ∧ (r = 1) ∧ (u = [(a_j, (oc2 a_as a_sk)), (a_sk, (arJ G 50 o_k))])) ∨ (∃ (o_k : Nat → Int64), (p_p.toInt < 0 ∨ bo (bop p_o.toInt) (f_sk p_p.toNatClampNeg) (f_sk (p_p + 1).toNatClampNeg) = none) ∧ (r = 0) ∧ (u = [(a_j, (oc2 a_as a_sk)), (a_sk, (arJ G 50 o_k))]))) (g5_B G (va_A [(a_j, (oc2 a_as a_sk)), (a_sk, (arJ G 50 f_sk))] sz)) (va_A [(a_j, (oc2 a_as a_sk)), (a_sk, (arJ G 50 f_sk))] sz)) 0 0 (va_A [(a_j, (oc2 a_as a_sk)), (a_sk, (arJ G 50 f_sk))] sz) := by
  refine Met.ofW (cc := cX2_combine) (maxL := 9) (ret := (some .boolean)) (by decide +kernel) rfl ?_
  intro p e s m args below meth c s₁ B hml hv
  obtain ⟨rfl, hsz, hP, hK, hD0, hN, hT⟩ := hv
  have hx := B.exec
  have hb := B.bytes
  have hr := B.returns
  have hts : ∀ w ∈ tblG, w.before _ s = true := fun w h => atoms_spec (ws := (wsG yX2_combine cX2_combine 9 (some .boolean))) B.pre w (List.mem_cons_of_mem _ h)
  have hown : s.vm.findClass RX2 = some m.cls := findClass_of_methodNamed B.named
  have hlocks := B.notSynchronized
  subst hsz
  have hD := hD0.self (sz := s.heap.size)
  generalize hAe : va_A [(a_j, (oc2 a_as a_sk)), (a_sk, (arJ G 50 f_sk))] s.heap.size = A at hD hT ⊢
  have hA : ∀ q : Nat, s.heap.size ≤ q → A q := fun q h => by rw [← hAe]; exact Or.inr h
  have hS : va_S A s.heap s.heap [] := va_S.rf
  replace hP : va_P G.1 vwCl [(a_j, (oc2 a_as a_sk)), (a_sk, (arJ G 50 f_sk))] s.heap := hP
  have hl := lv_entry ([.ref a_j, .int p_o, .int p_p]) (n := 9) (Nat.le_of_ble_eq_true rfl)
  rw [lg_entry_eq]
  generalize (lg_sl ([.ref a_j, .int p_o, .int p_p]) ++ List.replicate (9 - (lg_sl ([.ref a_j, .int p_o, .int p_p])).length) Slot.unset).toArray = ls at hl ⊢
  replace hl : lv_has ls 9 [(0, .ref a_j), (1, .int p_o), (2, .int p_p)] := hl
  refine lv_iload_n hx hb dX2_combine_0 rfl (lv_at hl 2 rfl) ?_
  refine lv_if_lt (tgt := 33) hx hb dX2_combine_1 (by decide +kernel) (fun c_1 => ?_) (fun c_1 => ?_)
  ·
    have i_1 : p_p.toInt < 0 := g5_lt (a := p_p.toInt) (b := 0) rfl (by decide +kernel) c_1
    refine lv_iconst (v := 0) hx hb dX2_combine_33 (by decide +kernel) ?_
    exact W.zret (v := 0) hx hb hr rfl (fun t ht hW => ⟨⟨0, [(a_j, (oc2 a_as a_sk)), (a_sk, (arJ G 50 f_sk))], rfl, Or.inr (⟨f_sk, Or.inl (by omega), rfl, rfl⟩), by rw [ht]; exact hP.sub [0, 1] rfl, hD.sub [0, 1] (by decide +kernel) rfl⟩, hS.F ht⟩) hS.2.2 dX2_combine_34
  ·
    have i_1 : p_p.toInt ≥ 0 := g5_ltN (a := p_p.toInt) (b := 0) rfl (by decide +kernel) c_1
    refine lv_iload_n hx hb dX2_combine_4 rfl (lv_at hl 2 rfl) ?_
    refine lv_iconst (v := 1) hx hb dX2_combine_5 (by decide +kernel) ?_
    refine lv_iadd hx hb dX2_combine_6 ?_
    have t_2 : (p_p + 1).toInt = p_p.toInt + 1 := g5_iadd (a := p_p.toInt) (b := 1) (by rfl) (by decide +kernel) (by omega) (by omega)
    refine lv_aload_n hx hb dX2_combine_7 rfl (lv_at hl 0 rfl) ?_
    refine W.eq (g2 := F0 m 8 ls [.ref a_j, .int (p_p + 1)]) rfl ?_
    refine va_get (D := G.1) (ci := 2) (v := .ref a_sk) (C := RX2) (T := TX2) (N := 2) hx hb hts inG_X2 hown hK hP 0 rfl rfl 1 (by decide +kernel) (hts _ fl_X2_15) (fun _ h9 => h9) rfl dX2_combine_8 ?_
    refine va_alen hx hb hK hP 1 1 rfl rfl (v := 50) (by show Int32.ofNat 50 = 50; decide) dX2_combine_11 ?_
    refine lv_icmp_ge (tgt := 33) hx hb dX2_combine_12 (by decide +kernel) (fun c_3 => ?_) (fun c_3 => ?_)
    ·
      have i_3 : (p_p.toInt + 1) ≥ 50 := by have z := g5_ge (a := (p_p + 1).toInt) (b := 50) (by rfl) (by decide +kernel) c_3; omega
      omega
    ·
      have i_3 : (p_p.toInt + 1) < 50 := by have z := g5_geN (a := (p_p + 1).toInt) (b := 50) (by rfl) (by decide +kernel) c_3; omega
      refine lv_iload_n hx hb dX2_combine_15 rfl (lv_at hl 1 rfl) ?_
      refine lv_iconst (v := 5) hx hb dX2_combine_16 (by decide +kernel) ?_
      refine lv_icmp_ne (tgt := 35) hx hb dX2_combine_17 (by decide +kernel) (fun c_4 => ?_) (fun c_4 => ?_)
      ·
        have n_4 : gNe (p_o.toInt) (5) := g5_ne (a := p_o.toInt) (b := 5) rfl (by decide +kernel) c_4
        refine lv_aload_n hx hb dX2_combine_35 rfl (lv_at hl 0 rfl) ?_
        refine va_get (D := G.1) (ci := 2) (v := .ref a_sk) (C := RX2) (T := TX2) (N := 2) hx hb hts inG_X2 hown hK hP 0 rfl rfl 1 (by decide +kernel) (hts _ fl_X2_15) (fun _ h9 => h9) rfl dX2_combine_36 ?_
        refine lv_iload_n hx hb dX2_combine_39 rfl (lv_at hl 2 rfl) ?_
        refine va_lald hx hb hK hP 1 1 rfl rfl (i := p_p) (vp_in_iff.mpr ⟨by omega, by omega⟩) dX2_combine_40 ?_
        refine W.eq (g2 := F0 m 41 ls [.long (f_sk p_p.toNatClampNeg)]) rfl ?_
        refine lv_lstore_n (lv' := [(3, .long (f_sk p_p.toNatClampNeg)), (0, .ref a_j), (1, .int p_o), (2, .int p_p)]) hx hb dX2_combine_41 rfl hl (by decide +kernel) rfl ?_
        clear hl
        intro ls hl
        refine lv_aload_n hx hb dX2_combine_42 rfl (lv_at hl 1 rfl) ?_
        refine va_get (D := G.1) (ci := 2) (v := .ref a_sk) (C := RX2) (T := TX2) (N := 2) hx hb hts inG_X2 hown hK hP 0 rfl rfl 1 (by decide +kernel) (hts _ fl_X2_15) (fun _ h9 => h9) rfl dX2_combine_43 ?_
        refine lv_iload_n hx hb dX2_combine_46 rfl (lv_at hl 3 rfl) ?_
        refine lv_iconst (v := 1) hx hb dX2_combine_47 (by decide +kernel) ?_
        refine W.eq (g2 := F0 m 48 ls [.int 1, .int p_p, .ref a_sk]) rfl ?_
        refine lv_iadd hx hb dX2_combine_48 ?_
        have t_5 : (p_p + 1).toInt = p_p.toInt + 1 := g5_iadd (a := p_p.toInt) (b := 1) (by rfl) (by decide +kernel) (by omega) (by omega)
        refine va_lald hx hb hK hP 1 1 rfl rfl (i := (p_p + 1)) (vp_in_iff.mpr ⟨by omega, by omega⟩) dX2_combine_49 ?_
        refine lv_lstore (lv' := [(5, .long (f_sk (p_p + 1).toNatClampNeg)), (3, .long (f_sk p_p.toNatClampNeg)), (0, .ref a_j), (1, .int p_o), (2, .int p_p)]) hx hb dX2_combine_50 hl (by decide +kernel) rfl ?_
        clear hl
        intro ls hl
        refine lv_iload_n hx hb dX2_combine_52 rfl (lv_at hl 3 rfl) ?_
        rcases (show p_o.toInt = 2 ∨ p_o.toInt = 3 ∨ p_o.toInt = 4 ∨ p_o.toInt = 5 ∨ p_o.toInt < 2 ∨ p_o.toInt > 5 by omega) with s_6 | s_6 | s_6 | s_6 | s_6 | s_6
        ·
          have i_6 : p_o.toInt = 2 := by omega
          refine lv_tableIn (tgt := 84) hx hb dX2_combine_53 (by omega) (by omega) (by rw [s_6]; rfl) (by decide +kernel) ?_
          refine lv_lload_n hx hb dX2_combine_84 rfl (lv_at hl 1 rfl) ?_
          refine lv_lload hx hb dX2_combine_85 (lv_at hl 0 rfl) ?_
          refine lv_ladd hx hb dX2_combine_87 ?_
          refine lv_lstore (lv' := [(7, .long ((f_sk p_p.toNatClampNeg) + (f_sk (p_p + 1).toNatClampNeg))), (5, .long (f_sk (p_p + 1).toNatClampNeg)), (3, .long (f_sk p_p.toNatClampNeg)), (0, .ref a_j), (1, .int p_o), (2, .int p_p)]) hx hb dX2_combine_88 hl (by decide +kernel) rfl ?_
          clear hl
          intro ls hl
          refine W.eq (g2 := F0 m 90 ls []) rfl ?_
          refine lv_goto (tgt := 166) hx hb dX2_combine_90 (by decide +kernel) ?_
          refine lv_aload_n hx hb dX2_combine_166 rfl (lv_at hl 3 rfl) ?_
          refine va_get (D := G.1) (ci := 2) (v := .ref a_sk) (C := RX2) (T := TX2) (N := 2) hx hb hts inG_X2 hown hK hP 0 rfl rfl 1 (by decide +kernel) (hts _ fl_X2_15) (fun _ h9 => h9) rfl dX2_combine_167 ?_
          refine lv_iload_n hx hb dX2_combine_170 rfl (lv_at hl 5 rfl) ?_
          refine lv_lload hx hb dX2_combine_171 (lv_at hl 0 rfl) ?_
          refine W.eq (g2 := F0 m 173 ls [.long ((f_sk p_p.toNatClampNeg) + (f_sk (p_p + 1).toNatClampNeg)), .int p_p, .ref a_sk]) rfl ?_
          refine va_last hx hb hK hP hD hS 1 1 rfl rfl (i := p_p) (x := ((f_sk p_p.toNatClampNeg) + (f_sk (p_p + 1).toNatClampNeg))) (vp_in_iff.mpr ⟨by omega, by omega⟩) dX2_combine_173 ?_
          clear hP hD hS
          intro H locs hP hD hS
          refine g5_rs [(a_j, (oc2 a_as a_sk)), (a_sk, (arJ G 50 (vp_updL f_sk p_p.toNatClampNeg ((f_sk p_p.toNatClampNeg) + (f_sk (p_p + 1).toNatClampNeg)))))] hP hD ?_
          clear hP hD
          intro hP hD
          refine lv_lload hx hb dX2_combine_174 (lv_at hl 0 rfl) ?_
          refine lv_ldc2 (v := (-1000000000)) hx hb hown (hts _ kl_X2_54) dX2_combine_176 ?_
          refine W.lcmp hx hb dX2_combine_179 ?_
          refine lv_if_lt (tgt := 196) hx hb dX2_combine_180 (by decide +kernel) (fun c_7 => ?_) (fun c_7 => ?_)
          ·
            have i_7 : (lg_cmp ((f_sk p_p.toNatClampNeg) + (f_sk (p_p + 1).toNatClampNeg)) (-1000000000)).toInt < 0 := g5_lt (a := (lg_cmp ((f_sk p_p.toNatClampNeg) + (f_sk (p_p + 1).toNatClampNeg)) (-1000000000)).toInt) (b := 0) rfl (by decide +kernel) c_7
            refine lv_iconst (v := 0) hx hb dX2_combine_196 (by decide +kernel) ?_
            exact W.zret (v := 0) hx hb hr rfl (fun t ht hW => ⟨⟨0, [(a_j, (oc2 a_as a_sk)), (a_sk, (arJ G 50 (vp_updL f_sk p_p.toNatClampNeg ((f_sk p_p.toNatClampNeg) + (f_sk (p_p + 1).toNatClampNeg)))))], rfl, Or.inr (⟨(vp_updL f_sk p_p.toNatClampNeg ((f_sk p_p.toNatClampNeg) + (f_sk (p_p + 1).toNatClampNeg))), Or.inr (cb_0 (bv_2 (by omega)) (by omega)), rfl, rfl⟩), by rw [ht]; exact hP.sub [0, 1] rfl, hD.sub [0, 1] (by decide +kernel) rfl⟩, hS.F ht⟩) hS.2.2 dX2_combine_197
          ·
            have i_7 : (lg_cmp ((f_sk p_p.toNatClampNeg) + (f_sk (p_p + 1).toNatClampNeg)) (-1000000000)).toInt ≥ 0 := g5_ltN (a := (lg_cmp ((f_sk p_p.toNatClampNeg) + (f_sk (p_p + 1).toNatClampNeg)) (-1000000000)).toInt) (b := 0) rfl (by decide +kernel) c_7
            refine lv_lload hx hb dX2_combine_183 (lv_at hl 0 rfl) ?_
            refine lv_ldc2 (v := 1000000000) hx hb hown (hts _ kl_X2_56) dX2_combine_185 ?_
            refine W.lcmp hx hb dX2_combine_188 ?_
            refine lv_if_gt (tgt := 196) hx hb dX2_combine_189 (by decide +kernel) (fun c_8 => ?_) (fun c_8 => ?_)
            ·
              have i_8 : (lg_cmp ((f_sk p_p.toNatClampNeg) + (f_sk (p_p + 1).toNatClampNeg)) 1000000000).toInt > 0 := g5_gt (a := (lg_cmp ((f_sk p_p.toNatClampNeg) + (f_sk (p_p + 1).toNatClampNeg)) 1000000000).toInt) (b := 0) rfl (by decide +kernel) c_8
              refine lv_iconst (v := 0) hx hb dX2_combine_196 (by decide +kernel) ?_
              exact W.zret (v := 0) hx hb hr rfl (fun t ht hW => ⟨⟨0, [(a_j, (oc2 a_as a_sk)), (a_sk, (arJ G 50 (vp_updL f_sk p_p.toNatClampNeg ((f_sk p_p.toNatClampNeg) + (f_sk (p_p + 1).toNatClampNeg)))))], rfl, Or.inr (⟨(vp_updL f_sk p_p.toNatClampNeg ((f_sk p_p.toNatClampNeg) + (f_sk (p_p + 1).toNatClampNeg))), Or.inr (cb_0 (bv_2 (by omega)) (by omega)), rfl, rfl⟩), by rw [ht]; exact hP.sub [0, 1] rfl, hD.sub [0, 1] (by decide +kernel) rfl⟩, hS.F ht⟩) hS.2.2 dX2_combine_197
            ·
              have i_8 : (lg_cmp ((f_sk p_p.toNatClampNeg) + (f_sk (p_p + 1).toNatClampNeg)) 1000000000).toInt ≤ 0 := g5_gtN (a := (lg_cmp ((f_sk p_p.toNatClampNeg) + (f_sk (p_p + 1).toNatClampNeg)) 1000000000).toInt) (b := 0) rfl (by decide +kernel) c_8
              refine lv_iconst (v := 1) hx hb dX2_combine_192 (by decide +kernel) ?_
              refine lv_goto (tgt := 197) hx hb dX2_combine_193 (by decide +kernel) ?_
              exact W.zret (v := 1) hx hb hr rfl (fun t ht hW => ⟨⟨1, [(a_j, (oc2 a_as a_sk)), (a_sk, (arJ G 50 (vp_updL f_sk p_p.toNatClampNeg ((f_sk p_p.toNatClampNeg) + (f_sk (p_p + 1).toNatClampNeg)))))], rfl, Or.inl (⟨(vp_updL f_sk p_p.toNatClampNeg ((f_sk p_p.toNatClampNeg) + (f_sk (p_p + 1).toNatClampNeg))), ⟨by omega, _, cb_1 (bv_2 (by omega)) (bop_n5 (by first | omega | (unfold gNe at *; omega))) (by first | omega | decide) (by first | omega | decide), rfl⟩, rfl, rfl⟩), by rw [ht]; exact hP.sub [0, 1] rfl, hD.sub [0, 1] (by decide +kernel) rfl⟩, hS.F ht⟩) hS.2.2 dX2_combine_197
        ·
          have i_6 : p_o.toInt = 3 := by omega
          refine lv_tableIn (tgt := 93) hx hb dX2_combine_53 (by omega) (by omega) (by rw [s_6]; rfl) (by decide +kernel) ?_
          refine lv_lload_n hx hb dX2_combine_93 rfl (lv_at hl 1 rfl) ?_
          refine lv_lload hx hb dX2_combine_94 (lv_at hl 0 rfl) ?_
          refine lv_lsub hx hb dX2_combine_96 ?_
          refine lv_lstore (lv' := [(7, .long ((f_sk p_p.toNatClampNeg) - (f_sk (p_p + 1).toNatClampNeg))), (5, .long (f_sk (p_p + 1).toNatClampNeg)), (3, .long (f_sk p_p.toNatClampNeg)), (0, .ref a_j), (1, .int p_o), (2, .int p_p)]) hx hb dX2_combine_97 hl (by decide +kernel) rfl ?_
          clear hl
          intro ls hl
          refine W.eq (g2 := F0 m 99 ls []) rfl ?_
          refine lv_goto (tgt := 166) hx hb dX2_combine_99 (by decide +kernel) ?_
          refine lv_aload_n hx hb dX2_combine_166 rfl (lv_at hl 3 rfl) ?_
          refine va_get (D := G.1) (ci := 2) (v := .ref a_sk) (C := RX2) (T := TX2) (N := 2) hx hb hts inG_X2 hown hK hP 0 rfl rfl 1 (by decide +kernel) (hts _ fl_X2_15) (fun _ h9 => h9) rfl dX2_combine_167 ?_
          refine lv_iload_n hx hb dX2_combine_170 rfl (lv_at hl 5 rfl) ?_
          refine lv_lload hx hb dX2_combine_171 (lv_at hl 0 rfl) ?_
          refine W.eq (g2 := F0 m 173 ls [.long ((f_sk p_p.toNatClampNeg) - (f_sk (p_p + 1).toNatClampNeg)), .int p_p, .ref a_sk]) rfl ?_
          refine va_last hx hb hK hP hD hS 1 1 rfl rfl (i := p_p) (x := ((f_sk p_p.toNatClampNeg) - (f_sk (p_p + 1).toNatClampNeg))) (vp_in_iff.mpr ⟨by omega, by omega⟩) dX2_combine_173 ?_
          clear hP hD hS
          intro H locs hP hD hS
          refine g5_rs [(a_j, (oc2 a_as a_sk)), (a_sk, (arJ G 50 (vp_updL f_sk p_p.toNatClampNeg ((f_sk p_p.toNatClampNeg) - (f_sk (p_p + 1).toNatClampNeg)))))] hP hD ?_
          clear hP hD
          intro hP hD
          refine lv_lload hx hb dX2_combine_174 (lv_at hl 0 rfl) ?_
          refine lv_ldc2 (v := (-1000000000)) hx hb hown (hts _ kl_X2_54) dX2_combine_176 ?_
          refine W.lcmp hx hb dX2_combine_179 ?_
          refine lv_if_lt (tgt := 196) hx hb dX2_combine_180 (by decide +kernel) (fun c_9 => ?_) (fun c_9 => ?_)
          ·
            have i_9 : (lg_cmp ((f_sk p_p.toNatClampNeg) - (f_sk (p_p + 1).toNatClampNeg)) (-1000000000)).toInt < 0 := g5_lt (a := (lg_cmp ((f_sk p_p.toNatClampNeg) - (f_sk (p_p + 1).toNatClampNeg)) (-1000000000)).toInt) (b := 0) rfl (by decide +kernel) c_9
            refine lv_iconst (v := 0) hx hb dX2_combine_196 (by decide +kernel) ?_
            exact W.zret (v := 0) hx hb hr rfl (fun t ht hW => ⟨⟨0, [(a_j, (oc2 a_as a_sk)), (a_sk, (arJ G 50 (vp_updL f_sk p_p.toNatClampNeg ((f_sk p_p.toNatClampNeg) - (f_sk (p_p + 1).toNatClampNeg)))))], rfl, Or.inr (⟨(vp_updL f_sk p_p.toNatClampNeg ((f_sk p_p.toNatClampNeg) - (f_sk (p_p + 1).toNatClampNeg))), Or.inr (cb_0 (bv_3 (by omega)) (by omega)), rfl, rfl⟩), by rw [ht]; exact hP.sub [0, 1] rfl, hD.sub [0, 1] (by decide +kernel) rfl⟩, hS.F ht⟩) hS.2.2 dX2_combine_197
          ·
            have i_9 : (lg_cmp ((f_sk p_p.toNatClampNeg) - (f_sk (p_p + 1).toNatClampNeg)) (-1000000000)).toInt ≥ 0 := g5_ltN (a := (lg_cmp ((f_sk p_p.toNatClampNeg) - (f_sk (p_p + 1).toNatClampNeg)) (-1000000000)).toInt) (b := 0) rfl (by decide +kernel) c_9
            refine lv_lload hx hb dX2_combine_183 (lv_at hl 0 rfl) ?_
            refine lv_ldc2 (v := 1000000000) hx hb hown (hts _ kl_X2_56) dX2_combine_185 ?_
            refine W.lcmp hx hb dX2_combine_188 ?_
            refine lv_if_gt (tgt := 196) hx hb dX2_combine_189 (by decide +kernel) (fun c_10 => ?_) (fun c_10 => ?_)
            ·
              have i_10 : (lg_cmp ((f_sk p_p.toNatClampNeg) - (f_sk (p_p + 1).toNatClampNeg)) 1000000000).toInt > 0 := g5_gt (a := (lg_cmp ((f_sk p_p.toNatClampNeg) - (f_sk (p_p + 1).toNatClampNeg)) 1000000000).toInt) (b := 0) rfl (by decide +kernel) c_10
              refine lv_iconst (v := 0) hx hb dX2_combine_196 (by decide +kernel) ?_
              exact W.zret (v := 0) hx hb hr rfl (fun t ht hW => ⟨⟨0, [(a_j, (oc2 a_as a_sk)), (a_sk, (arJ G 50 (vp_updL f_sk p_p.toNatClampNeg ((f_sk p_p.toNatClampNeg) - (f_sk (p_p + 1).toNatClampNeg)))))], rfl, Or.inr (⟨(vp_updL f_sk p_p.toNatClampNeg ((f_sk p_p.toNatClampNeg) - (f_sk (p_p + 1).toNatClampNeg))), Or.inr (cb_0 (bv_3 (by omega)) (by omega)), rfl, rfl⟩), by rw [ht]; exact hP.sub [0, 1] rfl, hD.sub [0, 1] (by decide +kernel) rfl⟩, hS.F ht⟩) hS.2.2 dX2_combine_197
            ·
              have i_10 : (lg_cmp ((f_sk p_p.toNatClampNeg) - (f_sk (p_p + 1).toNatClampNeg)) 1000000000).toInt ≤ 0 := g5_gtN (a := (lg_cmp ((f_sk p_p.toNatClampNeg) - (f_sk (p_p + 1).toNatClampNeg)) 1000000000).toInt) (b := 0) rfl (by decide +kernel) c_10
              refine lv_iconst (v := 1) hx hb dX2_combine_192 (by decide +kernel) ?_
              refine lv_goto (tgt := 197) hx hb dX2_combine_193 (by decide +kernel) ?_
              exact W.zret (v := 1) hx hb hr rfl (fun t ht hW => ⟨⟨1, [(a_j, (oc2 a_as a_sk)), (a_sk, (arJ G 50 (vp_updL f_sk p_p.toNatClampNeg ((f_sk p_p.toNatClampNeg) - (f_sk (p_p + 1).toNatClampNeg)))))], rfl, Or.inl (⟨(vp_updL f_sk p_p.toNatClampNeg ((f_sk p_p.toNatClampNeg) - (f_sk (p_p + 1).toNatClampNeg))), ⟨by omega, _, cb_1 (bv_3 (by omega)) (bop_n5 (by first | omega | (unfold gNe at *; omega))) (by first | omega | decide) (by first | omega | decide), rfl⟩, rfl, rfl⟩), by rw [ht]; exact hP.sub [0, 1] rfl, hD.sub [0, 1] (by decide +kernel) rfl⟩, hS.F ht⟩) hS.2.2 dX2_combine_197
        ·
          have i_6 : p_o.toInt = 4 := by omega
          refine lv_tableIn (tgt := 102) hx hb dX2_combine_53 (by omega) (by omega) (by rw [s_6]; rfl) (by decide +kernel) ?_
          refine lv_lload_n hx hb dX2_combine_102 rfl (lv_at hl 1 rfl) ?_
          refine lv_lload hx hb dX2_combine_103 (lv_at hl 0 rfl) ?_
          refine lv_lmul hx hb dX2_combine_105 ?_
          refine lv_lstore (lv' := [(7, .long ((f_sk p_p.toNatClampNeg) * (f_sk (p_p + 1).toNatClampNeg))), (5, .long (f_sk (p_p + 1).toNatClampNeg)), (3, .long (f_sk p_p.toNatClampNeg)), (0, .ref a_j), (1, .int p_o), (2, .int p_p)]) hx hb dX2_combine_106 hl (by decide +kernel) rfl ?_
          clear hl
          intro ls hl
          refine W.eq (g2 := F0 m 108 ls []) rfl ?_
          refine lv_goto (tgt := 166) hx hb dX2_combine_108 (by decide +kernel) ?_
          refine lv_aload_n hx hb dX2_combine_166 rfl (lv_at hl 3 rfl) ?_
          refine va_get (D := G.1) (ci := 2) (v := .ref a_sk) (C := RX2) (T := TX2) (N := 2) hx hb hts inG_X2 hown hK hP 0 rfl rfl 1 (by decide +kernel) (hts _ fl_X2_15) (fun _ h9 => h9) rfl dX2_combine_167 ?_
          refine lv_iload_n hx hb dX2_combine_170 rfl (lv_at hl 5 rfl) ?_
          refine lv_lload hx hb dX2_combine_171 (lv_at hl 0 rfl) ?_
          refine W.eq (g2 := F0 m 173 ls [.long ((f_sk p_p.toNatClampNeg) * (f_sk (p_p + 1).toNatClampNeg)), .int p_p, .ref a_sk]) rfl ?_
          refine va_last hx hb hK hP hD hS 1 1 rfl rfl (i := p_p) (x := ((f_sk p_p.toNatClampNeg) * (f_sk (p_p + 1).toNatClampNeg))) (vp_in_iff.mpr ⟨by omega, by omega⟩) dX2_combine_173 ?_
          clear hP hD hS
          intro H locs hP hD hS
          refine g5_rs [(a_j, (oc2 a_as a_sk)), (a_sk, (arJ G 50 (vp_updL f_sk p_p.toNatClampNeg ((f_sk p_p.toNatClampNeg) * (f_sk (p_p + 1).toNatClampNeg)))))] hP hD ?_
          clear hP hD
          intro hP hD
          refine lv_lload hx hb dX2_combine_174 (lv_at hl 0 rfl) ?_
          refine lv_ldc2 (v := (-1000000000)) hx hb hown (hts _ kl_X2_54) dX2_combine_176 ?_
          refine W.lcmp hx hb dX2_combine_179 ?_
          refine lv_if_lt (tgt := 196) hx hb dX2_combine_180 (by decide +kernel) (fun c_11 => ?_) (fun c_11 => ?_)
          ·
            have i_11 : (lg_cmp ((f_sk p_p.toNatClampNeg) * (f_sk (p_p + 1).toNatClampNeg)) (-1000000000)).toInt < 0 := g5_lt (a := (lg_cmp ((f_sk p_p.toNatClampNeg) * (f_sk (p_p + 1).toNatClampNeg)) (-1000000000)).toInt) (b := 0) rfl (by decide +kernel) c_11
            refine lv_iconst (v := 0) hx hb dX2_combine_196 (by decide +kernel) ?_
            exact W.zret (v := 0) hx hb hr rfl (fun t ht hW => ⟨⟨0, [(a_j, (oc2 a_as a_sk)), (a_sk, (arJ G 50 (vp_updL f_sk p_p.toNatClampNeg ((f_sk p_p.toNatClampNeg) * (f_sk (p_p + 1).toNatClampNeg)))))], rfl, Or.inr (⟨(vp_updL f_sk p_p.toNatClampNeg ((f_sk p_p.toNatClampNeg) * (f_sk (p_p + 1).toNatClampNeg))), Or.inr (cb_0 (bv_4 (by omega)) (by omega)), rfl, rfl⟩), by rw [ht]; exact hP.sub [0, 1] rfl, hD.sub [0, 1] (by decide +kernel) rfl⟩, hS.F ht⟩) hS.2.2 dX2_combine_197
          ·
            have i_11 : (lg_cmp ((f_sk p_p.toNatClampNeg) * (f_sk (p_p + 1).toNatClampNeg)) (-1000000000)).toInt ≥ 0 := g5_ltN (a := (lg_cmp ((f_sk p_p.toNatClampNeg) * (f_sk (p_p + 1).toNatClampNeg)) (-1000000000)).toInt) (b := 0) rfl (by decide +kernel) c_11
            refine lv_lload hx hb dX2_combine_183 (lv_at hl 0 rfl) ?_
            refine lv_ldc2 (v := 1000000000) hx hb hown (hts _ kl_X2_56) dX2_combine_185 ?_
            refine W.lcmp hx hb dX2_combine_188 ?_
            refine lv_if_gt (tgt := 196) hx hb dX2_combine_189 (by decide +kernel) (fun c_12 => ?_) (fun c_12 => ?_)
            ·
              have i_12 : (lg_cmp ((f_sk p_p.toNatClampNeg) * (f_sk (p_p + 1).toNatClampNeg)) 1000000000).toInt > 0 := g5_gt (a := (lg_cmp ((f_sk p_p.toNatClampNeg) * (f_sk (p_p + 1).toNatClampNeg)) 1000000000).toInt) (b := 0) rfl (by decide +kernel) c_12
              refine lv_iconst (v := 0) hx hb dX2_combine_196 (by decide +kernel) ?_
              exact W.zret (v := 0) hx hb hr rfl (fun t ht hW => ⟨⟨0, [(a_j, (oc2 a_as a_sk)), (a_sk, (arJ G 50 (vp_updL f_sk p_p.toNatClampNeg ((f_sk p_p.toNatClampNeg) * (f_sk (p_p + 1).toNatClampNeg)))))], rfl, Or.inr (⟨(vp_updL f_sk p_p.toNatClampNeg ((f_sk p_p.toNatClampNeg) * (f_sk (p_p + 1).toNatClampNeg))), Or.inr (cb_0 (bv_4 (by omega)) (by omega)), rfl, rfl⟩), by rw [ht]; exact hP.sub [0, 1] rfl, hD.sub [0, 1] (by decide +kernel) rfl⟩, hS.F ht⟩) hS.2.2 dX2_combine_197
            ·
              have i_12 : (lg_cmp ((f_sk p_p.toNatClampNeg) * (f_sk (p_p + 1).toNatClampNeg)) 1000000000).toInt ≤ 0 := g5_gtN (a := (lg_cmp ((f_sk p_p.toNatClampNeg) * (f_sk (p_p + 1).toNatClampNeg)) 1000000000).toInt) (b := 0) rfl (by decide +kernel) c_12
              refine lv_iconst (v := 1) hx hb dX2_combine_192 (by decide +kernel) ?_
              refine lv_goto (tgt := 197) hx hb dX2_combine_193 (by decide +kernel) ?_
              exact W.zret (v := 1) hx hb hr rfl (fun t ht hW => ⟨⟨1, [(a_j, (oc2 a_as a_sk)), (a_sk, (arJ G 50 (vp_updL f_sk p_p.toNatClampNeg ((f_sk p_p.toNatClampNeg) * (f_sk (p_p + 1).toNatClampNeg)))))], rfl, Or.inl (⟨(vp_updL f_sk p_p.toNatClampNeg ((f_sk p_p.toNatClampNeg) * (f_sk (p_p + 1).toNatClampNeg))), ⟨by omega, _, cb_1 (bv_4 (by omega)) (bop_n5 (by first | omega | (unfold gNe at *; omega))) (by first | omega | decide) (by first | omega | decide), rfl⟩, rfl, rfl⟩), by rw [ht]; exact hP.sub [0, 1] rfl, hD.sub [0, 1] (by decide +kernel) rfl⟩, hS.F ht⟩) hS.2.2 dX2_combine_197
        ·
          have i_6 : p_o.toInt = 5 := by omega
          refine lv_tableIn (tgt := 111) hx hb dX2_combine_53 (by omega) (by omega) (by rw [s_6]; rfl) (by decide +kernel) ?_
          exact absurd i_6 n_4
        ·
          have i_6 : p_o.toInt < 2 := by omega
          refine lv_tableOut (tgt := 120) hx hb dX2_combine_53 (by omega) (by decide +kernel) ?_
          refine lv_iload_n hx hb dX2_combine_120 rfl (lv_at hl 3 rfl) ?_
          refine lv_bipush (v := 6) hx hb dX2_combine_121 (by decide +kernel) ?_
          refine lv_icmp_ne (tgt := 136) hx hb dX2_combine_123 (by decide +kernel) (fun c_13 => ?_) (fun c_13 => ?_)
          ·
            have n_13 : gNe (p_o.toInt) (6) := g5_ne (a := p_o.toInt) (b := 6) rfl (by decide +kernel) c_13
            refine lv_iload_n hx hb dX2_combine_136 rfl (lv_at hl 3 rfl) ?_
            refine lv_bipush (v := 7) hx hb dX2_combine_137 (by decide +kernel) ?_
            refine lv_icmp_ne (tgt := 152) hx hb dX2_combine_139 (by decide +kernel) (fun c_14 => ?_) (fun c_14 => ?_)
            ·
              have n_14 : gNe (p_o.toInt) (7) := g5_ne (a := p_o.toInt) (b := 7) rfl (by decide +kernel) c_14
              refine lv_lload_n hx hb dX2_combine_152 rfl (lv_at hl 1 rfl) ?_
              refine lv_lload hx hb dX2_combine_153 (lv_at hl 0 rfl) ?_
              refine W.lcmp hx hb dX2_combine_155 ?_
              refine lv_if_ne (tgt := 163) hx hb dX2_combine_156 (by decide +kernel) (fun c_15 => ?_) (fun c_15 => ?_)
              ·
                have n_15 : gNe ((lg_cmp (f_sk p_p.toNatClampNeg) (f_sk (p_p + 1).toNatClampNeg)).toInt) (0) := g5_ne (a := (lg_cmp (f_sk p_p.toNatClampNeg) (f_sk (p_p + 1).toNatClampNeg)).toInt) (b := 0) rfl (by decide +kernel) c_15
                refine lv_lconst (v := 0) hx hb dX2_combine_163 (by decide +kernel) ?_
                refine lv_lstore (lv' := [(7, .long 0), (5, .long (f_sk (p_p + 1).toNatClampNeg)), (3, .long (f_sk p_p.toNatClampNeg)), (0, .ref a_j), (1, .int p_o), (2, .int p_p)]) hx hb dX2_combine_164 hl (by decide +kernel) rfl ?_
                clear hl
                intro ls hl
                refine lv_aload_n hx hb dX2_combine_166 rfl (lv_at hl 3 rfl) ?_
                refine va_get (D := G.1) (ci := 2) (v := .ref a_sk) (C := RX2) (T := TX2) (N := 2) hx hb hts inG_X2 hown hK hP 0 rfl rfl 1 (by decide +kernel) (hts _ fl_X2_15) (fun _ h9 => h9) rfl dX2_combine_167 ?_
                refine W.eq (g2 := F0 m 170 ls [.ref a_sk]) rfl ?_
                refine lv_iload_n hx hb dX2_combine_170 rfl (lv_at hl 5 rfl) ?_
                refine lv_lload hx hb dX2_combine_171 (lv_at hl 0 rfl) ?_
                refine va_last hx hb hK hP hD hS 1 1 rfl rfl (i := p_p) (x := 0) (vp_in_iff.mpr ⟨by omega, by omega⟩) dX2_combine_173 ?_
                clear hP hD hS
                intro H locs hP hD hS
                refine g5_rs [(a_j, (oc2 a_as a_sk)), (a_sk, (arJ G 50 (vp_updL f_sk p_p.toNatClampNeg 0)))] hP hD ?_
                clear hP hD
                intro hP hD
                refine lv_lload hx hb dX2_combine_174 (lv_at hl 0 rfl) ?_
                refine lv_ldc2 (v := (-1000000000)) hx hb hown (hts _ kl_X2_54) dX2_combine_176 ?_
                refine W.eq (g2 := F0 m 179 ls [.long (-1000000000), .long 0]) rfl ?_
                refine W.lcmp hx hb dX2_combine_179 ?_
                refine g5_ti (v := 1) (by decide +kernel) ?_
                refine lv_if_lt (tgt := 196) hx hb dX2_combine_180 (by decide +kernel) (fun c_16 => ?_) (fun c_16 => ?_)
                ·
                  exact absurd c_16 (by decide +kernel)
                ·
                  refine lv_lload hx hb dX2_combine_183 (lv_at hl 0 rfl) ?_
                  refine lv_ldc2 (v := 1000000000) hx hb hown (hts _ kl_X2_56) dX2_combine_185 ?_
                  refine W.lcmp hx hb dX2_combine_188 ?_
                  refine g5_ti (v := (-1)) (by decide +kernel) ?_
                  refine lv_if_gt (tgt := 196) hx hb dX2_combine_189 (by decide +kernel) (fun c_17 => ?_) (fun c_17 => ?_)
                  ·
                    exact absurd c_17 (by decide +kernel)
                  ·
                    refine lv_iconst (v := 1) hx hb dX2_combine_192 (by decide +kernel) ?_
                    refine lv_goto (tgt := 197) hx hb dX2_combine_193 (by decide +kernel) ?_
                    exact W.zret (v := 1) hx hb hr rfl (fun t ht hW => ⟨⟨1, [(a_j, (oc2 a_as a_sk)), (a_sk, (arJ G 50 (vp_updL f_sk p_p.toNatClampNeg 0)))], rfl, Or.inl (⟨(vp_updL f_sk p_p.toNatClampNeg 0), ⟨by omega, _, cb_1 (bv_eq0 (Int.le_of_eq (bop_8 (by first | omega | (unfold gNe at *; omega))).symm) (by first | omega | (unfold gNe at *; omega))) (bop_n5 (by first | omega | (unfold gNe at *; omega))) (by first | omega | decide) (by first | omega | decide), rfl⟩, rfl, rfl⟩), by rw [ht]; exact hP.sub [0, 1] rfl, hD.sub [0, 1] (by decide +kernel) rfl⟩, hS.F ht⟩) hS.2.2 dX2_combine_197
              ·
                have i_15 : (lg_cmp (f_sk p_p.toNatClampNeg) (f_sk (p_p + 1).toNatClampNeg)).toInt = 0 := g5_neN (a := (lg_cmp (f_sk p_p.toNatClampNeg) (f_sk (p_p + 1).toNatClampNeg)).toInt) (b := 0) rfl (by decide +kernel) c_15
                refine lv_lconst (v := 1) hx hb dX2_combine_159 (by decide +kernel) ?_
                refine lv_goto (tgt := 164) hx hb dX2_combine_160 (by decide +kernel) ?_
                refine lv_lstore (lv' := [(7, .long 1), (5, .long (f_sk (p_p + 1).toNatClampNeg)), (3, .long (f_sk p_p.toNatClampNeg)), (0, .ref a_j), (1, .int p_o), (2, .int p_p)]) hx hb dX2_combine_164 hl (by decide +kernel) rfl ?_
                clear hl
                intro ls hl
                refine lv_aload_n hx hb dX2_combine_166 rfl (lv_at hl 3 rfl) ?_
                refine W.eq (g2 := F0 m 167 ls [.ref a_j]) rfl ?_
                refine va_get (D := G.1) (ci := 2) (v := .ref a_sk) (C := RX2) (T := TX2) (N := 2) hx hb hts inG_X2 hown hK hP 0 rfl rfl 1 (by decide +kernel) (hts _ fl_X2_15) (fun _ h9 => h9) rfl dX2_combine_167 ?_
                refine lv_iload_n hx hb dX2_combine_170 rfl (lv_at hl 5 rfl) ?_
                refine lv_lload hx hb dX2_combine_171 (lv_at hl 0 rfl) ?_
                refine va_last hx hb hK hP hD hS 1 1 rfl rfl (i := p_p) (x := 1) (vp_in_iff.mpr ⟨by omega, by omega⟩) dX2_combine_173 ?_
                clear hP hD hS
                intro H locs hP hD hS
                refine g5_rs [(a_j, (oc2 a_as a_sk)), (a_sk, (arJ G 50 (vp_updL f_sk p_p.toNatClampNeg 1)))] hP hD ?_
                clear hP hD
                intro hP hD
                refine lv_lload hx hb dX2_combine_174 (lv_at hl 0 rfl) ?_
                refine W.eq (g2 := F0 m 176 ls [.long 1]) rfl ?_
                refine lv_ldc2 (v := (-1000000000)) hx hb hown (hts _ kl_X2_54) dX2_combine_176 ?_
                refine W.lcmp hx hb dX2_combine_179 ?_
                refine g5_ti (v := 1) (by decide +kernel) ?_
                refine lv_if_lt (tgt := 196) hx hb dX2_combine_180 (by decide +kernel) (fun c_18 => ?_) (fun c_18 => ?_)
                ·
                  exact absurd c_18 (by decide +kernel)
                ·
                  refine lv_lload hx hb dX2_combine_183 (lv_at hl 0 rfl) ?_
                  refine lv_ldc2 (v := 1000000000) hx hb hown (hts _ kl_X2_56) dX2_combine_185 ?_
                  refine W.lcmp hx hb dX2_combine_188 ?_
                  refine g5_ti (v := (-1)) (by decide +kernel) ?_
                  refine lv_if_gt (tgt := 196) hx hb dX2_combine_189 (by decide +kernel) (fun c_19 => ?_) (fun c_19 => ?_)
                  ·
                    exact absurd c_19 (by decide +kernel)
                  ·
                    refine lv_iconst (v := 1) hx hb dX2_combine_192 (by decide +kernel) ?_
                    refine lv_goto (tgt := 197) hx hb dX2_combine_193 (by decide +kernel) ?_
                    exact W.zret (v := 1) hx hb hr rfl (fun t ht hW => ⟨⟨1, [(a_j, (oc2 a_as a_sk)), (a_sk, (arJ G 50 (vp_updL f_sk p_p.toNatClampNeg 1)))], rfl, Or.inl (⟨(vp_updL f_sk p_p.toNatClampNeg 1), ⟨by omega, _, cb_1 (bv_eq1 (Int.le_of_eq (bop_8 (by first | omega | (unfold gNe at *; omega))).symm) (by omega)) (bop_n5 (by first | omega | (unfold gNe at *; omega))) (by first | omega | decide) (by first | omega | decide), rfl⟩, rfl, rfl⟩), by rw [ht]; exact hP.sub [0, 1] rfl, hD.sub [0, 1] (by decide +kernel) rfl⟩, hS.F ht⟩) hS.2.2 dX2_combine_197
            ·
              have i_14 : p_o.toInt = 7 := g5_neN (a := p_o.toInt) (b := 7) rfl (by decide +kernel) c_14
              omega
          ·
            have i_13 : p_o.toInt = 6 := g5_neN (a := p_o.toInt) (b := 6) rfl (by decide +kernel) c_13
            omega
        ·
          have i_6 : p_o.toInt > 5 := by omega
          refine lv_tableOut (tgt := 120) hx hb dX2_combine_53 (by omega) (by decide +kernel) ?_
          refine lv_iload_n hx hb dX2_combine_120 rfl (lv_at hl 3 rfl) ?_
          refine lv_bipush (v := 6) hx hb dX2_combine_121 (by decide +kernel) ?_
          refine lv_icmp_ne (tgt := 136) hx hb dX2_combine_123 (by decide +kernel) (fun c_20 => ?_) (fun c_20 => ?_)
          ·
            have n_20 : gNe (p_o.toInt) (6) := g5_ne (a := p_o.toInt) (b := 6) rfl (by decide +kernel) c_20
            have i_20 : p_o.toInt ≥ 7 := by have z := g5_ne (a := p_o.toInt) (b := 6) (by rfl) (by decide +kernel) c_20; omega
            refine lv_iload_n hx hb dX2_combine_136 rfl (lv_at hl 3 rfl) ?_
            refine lv_bipush (v := 7) hx hb dX2_combine_137 (by decide +kernel) ?_
            refine lv_icmp_ne (tgt := 152) hx hb dX2_combine_139 (by decide +kernel) (fun c_21 => ?_) (fun c_21 => ?_)
            ·
              have n_21 : gNe (p_o.toInt) (7) := g5_ne (a := p_o.toInt) (b := 7) rfl (by decide +kernel) c_21
              have i_21 : p_o.toInt ≥ 8 := by have z := g5_ne (a := p_o.toInt) (b := 7) (by rfl) (by decide +kernel) c_21; omega
              refine lv_lload_n hx hb dX2_combine_152 rfl (lv_at hl 1 rfl) ?_
              refine lv_lload hx hb dX2_combine_153 (lv_at hl 0 rfl) ?_
              refine W.lcmp hx hb dX2_combine_155 ?_
              refine lv_if_ne (tgt := 163) hx hb dX2_combine_156 (by decide +kernel) (fun c_22 => ?_) (fun c_22 => ?_)
              ·
                have n_22 : gNe ((lg_cmp (f_sk p_p.toNatClampNeg) (f_sk (p_p + 1).toNatClampNeg)).toInt) (0) := g5_ne (a := (lg_cmp (f_sk p_p.toNatClampNeg) (f_sk (p_p + 1).toNatClampNeg)).toInt) (b := 0) rfl (by decide +kernel) c_22
                refine lv_lconst (v := 0) hx hb dX2_combine_163 (by decide +kernel) ?_
                refine lv_lstore (lv' := [(7, .long 0), (5, .long (f_sk (p_p + 1).toNatClampNeg)), (3, .long (f_sk p_p.toNatClampNeg)), (0, .ref a_j), (1, .int p_o), (2, .int p_p)]) hx hb dX2_combine_164 hl (by decide +kernel) rfl ?_
                clear hl
                intro ls hl
                refine lv_aload_n hx hb dX2_combine_166 rfl (lv_at hl 3 rfl) ?_
                refine va_get (D := G.1) (ci := 2) (v := .ref a_sk) (C := RX2) (T := TX2) (N := 2) hx hb hts inG_X2 hown hK hP 0 rfl rfl 1 (by decide +kernel) (hts _ fl_X2_15) (fun _ h9 => h9) rfl dX2_combine_167 ?_
                refine W.eq (g2 := F0 m 170 ls [.ref a_sk]) rfl ?_
                refine lv_iload_n hx hb dX2_combine_170 rfl (lv_at hl 5 rfl) ?_
                refine lv_lload hx hb dX2_combine_171 (lv_at hl 0 rfl) ?_
                refine va_last hx hb hK hP hD hS 1 1 rfl rfl (i := p_p) (x := 0) (vp_in_iff.mpr ⟨by omega, by omega⟩) dX2_combine_173 ?_
                clear hP hD hS
                intro H locs hP hD hS
                refine g5_rs [(a_j, (oc2 a_as a_sk)), (a_sk, (arJ G 50 (vp_updL f_sk p_p.toNatClampNeg 0)))] hP hD ?_
                clear hP hD
                intro hP hD
                refine lv_lload hx hb dX2_combine_174 (lv_at hl 0 rfl) ?_
                refine lv_ldc2 (v := (-1000000000)) hx hb hown (hts _ kl_X2_54) dX2_combine_176 ?_
                refine W.eq (g2 := F0 m 179 ls [.long (-1000000000), .long 0]) rfl ?_
                refine W.lcmp hx hb dX2_combine_179 ?_
                refine g5_ti (v := 1) (by decide +kernel) ?_
                refine lv_if_lt (tgt := 196) hx hb dX2_combine_180 (by decide +kernel) (fun c_23 => ?_) (fun c_23 => ?_)
                ·
                  exact absurd c_23 (by decide +kernel)
                ·
                  refine lv_lload hx hb dX2_combine_183 (lv_at hl 0 rfl) ?_
                  refine lv_ldc2 (v := 1000000000) hx hb hown (hts _ kl_X2_56) dX2_combine_185 ?_
                  refine W.lcmp hx hb dX2_combine_188 ?_
                  refine g5_ti (v := (-1)) (by decide +kernel) ?_
                  refine lv_if_gt (tgt := 196) hx hb dX2_combine_189 (by decide +kernel) (fun c_24 => ?_) (fun c_24 => ?_)
                  ·
                    exact absurd c_24 (by decide +kernel)
                  ·
                    refine lv_iconst (v := 1) hx hb dX2_combine_192 (by decide +kernel) ?_
                    refine lv_goto (tgt := 197) hx hb dX2_combine_193 (by decide +kernel) ?_
                    exact W.zret (v := 1) hx hb hr rfl (fun t ht hW => ⟨⟨1, [(a_j, (oc2 a_as a_sk)), (a_sk, (arJ G 50 (vp_updL f_sk p_p.toNatClampNeg 0)))], rfl, Or.inl (⟨(vp_updL f_sk p_p.toNatClampNeg 0), ⟨by omega, _, cb_1 (bv_eq0 (Int.le_of_eq (bop_8 (by first | omega | (unfold gNe at *; omega))).symm) (by first | omega | (unfold gNe at *; omega))) (bop_n5 (by first | omega | (unfold gNe at *; omega))) (by first | omega | decide) (by first | omega | decide), rfl⟩, rfl, rfl⟩), by rw [ht]; exact hP.sub [0, 1] rfl, hD.sub [0, 1] (by decide +kernel) rfl⟩, hS.F ht⟩) hS.2.2 dX2_combine_197
              ·
                have i_22 : (lg_cmp (f_sk p_p.toNatClampNeg) (f_sk (p_p + 1).toNatClampNeg)).toInt = 0 := g5_neN (a := (lg_cmp (f_sk p_p.toNatClampNeg) (f_sk (p_p + 1).toNatClampNeg)).toInt) (b := 0) rfl (by decide +kernel) c_22
                refine lv_lconst (v := 1) hx hb dX2_combine_159 (by decide +kernel) ?_
                refine lv_goto (tgt := 164) hx hb dX2_combine_160 (by decide +kernel) ?_
                refine lv_lstore (lv' := [(7, .long 1), (5, .long (f_sk (p_p + 1).toNatClampNeg)), (3, .long (f_sk p_p.toNatClampNeg)), (0, .ref a_j), (1, .int p_o), (2, .int p_p)]) hx hb dX2_combine_164 hl (by decide +kernel) rfl ?_
                clear hl
                intro ls hl
                refine lv_aload_n hx hb dX2_combine_166 rfl (lv_at hl 3 rfl) ?_
                refine W.eq (g2 := F0 m 167 ls [.ref a_j]) rfl ?_
                refine va_get (D := G.1) (ci := 2) (v := .ref a_sk) (C := RX2) (T := TX2) (N := 2) hx hb hts inG_X2 hown hK hP 0 rfl rfl 1 (by decide +kernel) (hts _ fl_X2_15) (fun _ h9 => h9) rfl dX2_combine_167 ?_
                refine lv_iload_n hx hb dX2_combine_170 rfl (lv_at hl 5 rfl) ?_
                refine lv_lload hx hb dX2_combine_171 (lv_at hl 0 rfl) ?_
                refine va_last hx hb hK hP hD hS 1 1 rfl rfl (i := p_p) (x := 1) (vp_in_iff.mpr ⟨by omega, by omega⟩) dX2_combine_173 ?_
                clear hP hD hS
                intro H locs hP hD hS
                refine g5_rs [(a_j, (oc2 a_as a_sk)), (a_sk, (arJ G 50 (vp_updL f_sk p_p.toNatClampNeg 1)))] hP hD ?_
                clear hP hD
                intro hP hD
                refine lv_lload hx hb dX2_combine_174 (lv_at hl 0 rfl) ?_
                refine W.eq (g2 := F0 m 176 ls [.long 1]) rfl ?_
                refine lv_ldc2 (v := (-1000000000)) hx hb hown (hts _ kl_X2_54) dX2_combine_176 ?_
                refine W.lcmp hx hb dX2_combine_179 ?_
                refine g5_ti (v := 1) (by decide +kernel) ?_
                refine lv_if_lt (tgt := 196) hx hb dX2_combine_180 (by decide +kernel) (fun c_25 => ?_) (fun c_25 => ?_)
                ·
                  exact absurd c_25 (by decide +kernel)
                ·
                  refine lv_lload hx hb dX2_combine_183 (lv_at hl 0 rfl) ?_
                  refine lv_ldc2 (v := 1000000000) hx hb hown (hts _ kl_X2_56) dX2_combine_185 ?_
                  refine W.lcmp hx hb dX2_combine_188 ?_
                  refine g5_ti (v := (-1)) (by decide +kernel) ?_
                  refine lv_if_gt (tgt := 196) hx hb dX2_combine_189 (by decide +kernel) (fun c_26 => ?_) (fun c_26 => ?_)
                  ·
                    exact absurd c_26 (by decide +kernel)
                  ·
                    refine lv_iconst (v := 1) hx hb dX2_combine_192 (by decide +kernel) ?_
                    refine lv_goto (tgt := 197) hx hb dX2_combine_193 (by decide +kernel) ?_
                    exact W.zret (v := 1) hx hb hr rfl (fun t ht hW => ⟨⟨1, [(a_j, (oc2 a_as a_sk)), (a_sk, (arJ G 50 (vp_updL f_sk p_p.toNatClampNeg 1)))], rfl, Or.inl (⟨(vp_updL f_sk p_p.toNatClampNeg 1), ⟨by omega, _, cb_1 (bv_eq1 (Int.le_of_eq (bop_8 (by first | omega | (unfold gNe at *; omega))).symm) (by omega)) (bop_n5 (by first | omega | (unfold gNe at *; omega))) (by first | omega | decide) (by first | omega | decide), rfl⟩, rfl, rfl⟩), by rw [ht]; exact hP.sub [0, 1] rfl, hD.sub [0, 1] (by decide +kernel) rfl⟩, hS.F ht⟩) hS.2.2 dX2_combine_197
            ·
              have i_21 : p_o.toInt = 7 := g5_neN (a := p_o.toInt) (b := 7) rfl (by decide +kernel) c_21
              refine lv_lload_n hx hb dX2_combine_142 rfl (lv_at hl 1 rfl) ?_
              refine lv_lload hx hb dX2_combine_143 (lv_at hl 0 rfl) ?_
              refine W.lcmp hx hb dX2_combine_145 ?_
              refine lv_if_le (tgt := 163) hx hb dX2_combine_146 (by decide +kernel) (fun c_27 => ?_) (fun c_27 => ?_)
              ·
                have i_27 : (lg_cmp (f_sk p_p.toNatClampNeg) (f_sk (p_p + 1).toNatClampNeg)).toInt ≤ 0 := g5_le (a := (lg_cmp (f_sk p_p.toNatClampNeg) (f_sk (p_p + 1).toNatClampNeg)).toInt) (b := 0) rfl (by decide +kernel) c_27
                refine lv_lconst (v := 0) hx hb dX2_combine_163 (by decide +kernel) ?_
                refine lv_lstore (lv' := [(7, .long 0), (5, .long (f_sk (p_p + 1).toNatClampNeg)), (3, .long (f_sk p_p.toNatClampNeg)), (0, .ref a_j), (1, .int p_o), (2, .int p_p)]) hx hb dX2_combine_164 hl (by decide +kernel) rfl ?_
                clear hl
                intro ls hl
                refine lv_aload_n hx hb dX2_combine_166 rfl (lv_at hl 3 rfl) ?_
                refine va_get (D := G.1) (ci := 2) (v := .ref a_sk) (C := RX2) (T := TX2) (N := 2) hx hb hts inG_X2 hown hK hP 0 rfl rfl 1 (by decide +kernel) (hts _ fl_X2_15) (fun _ h9 => h9) rfl dX2_combine_167 ?_
                refine W.eq (g2 := F0 m 170 ls [.ref a_sk]) rfl ?_
                refine lv_iload_n hx hb dX2_combine_170 rfl (lv_at hl 5 rfl) ?_
                refine lv_lload hx hb dX2_combine_171 (lv_at hl 0 rfl) ?_
                refine va_last hx hb hK hP hD hS 1 1 rfl rfl (i := p_p) (x := 0) (vp_in_iff.mpr ⟨by omega, by omega⟩) dX2_combine_173 ?_
                clear hP hD hS
                intro H locs hP hD hS
                refine g5_rs [(a_j, (oc2 a_as a_sk)), (a_sk, (arJ G 50 (vp_updL f_sk p_p.toNatClampNeg 0)))] hP hD ?_
                clear hP hD
                intro hP hD
                refine lv_lload hx hb dX2_combine_174 (lv_at hl 0 rfl) ?_
                refine lv_ldc2 (v := (-1000000000)) hx hb hown (hts _ kl_X2_54) dX2_combine_176 ?_
                refine W.eq (g2 := F0 m 179 ls [.long (-1000000000), .long 0]) rfl ?_
                refine W.lcmp hx hb dX2_combine_179 ?_
                refine g5_ti (v := 1) (by decide +kernel) ?_
                refine lv_if_lt (tgt := 196) hx hb dX2_combine_180 (by decide +kernel) (fun c_28 => ?_) (fun c_28 => ?_)
                ·
                  exact absurd c_28 (by decide +kernel)
                ·
                  refine lv_lload hx hb dX2_combine_183 (lv_at hl 0 rfl) ?_
                  refine lv_ldc2 (v := 1000000000) hx hb hown (hts _ kl_X2_56) dX2_combine_185 ?_
                  refine W.lcmp hx hb dX2_combine_188 ?_
                  refine g5_ti (v := (-1)) (by decide +kernel) ?_
                  refine lv_if_gt (tgt := 196) hx hb dX2_combine_189 (by decide +kernel) (fun c_29 => ?_) (fun c_29 => ?_)
                  ·
                    exact absurd c_29 (by decide +kernel)
                  ·
                    refine lv_iconst (v := 1) hx hb dX2_combine_192 (by decide +kernel) ?_
                    refine lv_goto (tgt := 197) hx hb dX2_combine_193 (by decide +kernel) ?_
                    exact W.zret (v := 1) hx hb hr rfl (fun t ht hW => ⟨⟨1, [(a_j, (oc2 a_as a_sk)), (a_sk, (arJ G 50 (vp_updL f_sk p_p.toNatClampNeg 0)))], rfl, Or.inl (⟨(vp_updL f_sk p_p.toNatClampNeg 0), ⟨by omega, _, cb_1 (bv_gt0 (bop_7 (by omega)) (by omega)) (bop_n5 (by first | omega | (unfold gNe at *; omega))) (by first | omega | decide) (by first | omega | decide), rfl⟩, rfl, rfl⟩), by rw [ht]; exact hP.sub [0, 1] rfl, hD.sub [0, 1] (by decide +kernel) rfl⟩, hS.F ht⟩) hS.2.2 dX2_combine_197
              ·
                have i_27 : (lg_cmp (f_sk p_p.toNatClampNeg) (f_sk (p_p + 1).toNatClampNeg)).toInt > 0 := g5_leN (a := (lg_cmp (f_sk p_p.toNatClampNeg) (f_sk (p_p + 1).toNatClampNeg)).toInt) (b := 0) rfl (by decide +kernel) c_27
                refine lv_goto (tgt := 159) hx hb dX2_combine_149 (by decide +kernel) ?_
                refine lv_lconst (v := 1) hx hb dX2_combine_159 (by decide +kernel) ?_
                refine lv_goto (tgt := 164) hx hb dX2_combine_160 (by decide +kernel) ?_
                refine lv_lstore (lv' := [(7, .long 1), (5, .long (f_sk (p_p + 1).toNatClampNeg)), (3, .long (f_sk p_p.toNatClampNeg)), (0, .ref a_j), (1, .int p_o), (2, .int p_p)]) hx hb dX2_combine_164 hl (by decide +kernel) rfl ?_
                clear hl
                intro ls hl
                refine W.eq (g2 := F0 m 166 ls []) rfl ?_
                refine lv_aload_n hx hb dX2_combine_166 rfl (lv_at hl 3 rfl) ?_
                refine va_get (D := G.1) (ci := 2) (v := .ref a_sk) (C := RX2) (T := TX2) (N := 2) hx hb hts inG_X2 hown hK hP 0 rfl rfl 1 (by decide +kernel) (hts _ fl_X2_15) (fun _ h9 => h9) rfl dX2_combine_167 ?_
                refine lv_iload_n hx hb dX2_combine_170 rfl (lv_at hl 5 rfl) ?_
                refine lv_lload hx hb dX2_combine_171 (lv_at hl 0 rfl) ?_
                refine va_last hx hb hK hP hD hS 1 1 rfl rfl (i := p_p) (x := 1) (vp_in_iff.mpr ⟨by omega, by omega⟩) dX2_combine_173 ?_
                clear hP hD hS
                intro H locs hP hD hS
                refine g5_rs [(a_j, (oc2 a_as a_sk)), (a_sk, (arJ G 50 (vp_updL f_sk p_p.toNatClampNeg 1)))] hP hD ?_
                clear hP hD
                intro hP hD
                refine W.eq (g2 := F0 m 174 ls []) rfl ?_
                refine lv_lload hx hb dX2_combine_174 (lv_at hl 0 rfl) ?_
                refine lv_ldc2 (v := (-1000000000)) hx hb hown (hts _ kl_X2_54) dX2_combine_176 ?_
                refine W.lcmp hx hb dX2_combine_179 ?_
                refine g5_ti (v := 1) (by decide +kernel) ?_
                refine lv_if_lt (tgt := 196) hx hb dX2_combine_180 (by decide +kernel) (fun c_30 => ?_) (fun c_30 => ?_)
                ·
                  exact absurd c_30 (by decide +kernel)
                ·
                  refine lv_lload hx hb dX2_combine_183 (lv_at hl 0 rfl) ?_
                  refine lv_ldc2 (v := 1000000000) hx hb hown (hts _ kl_X2_56) dX2_combine_185 ?_
                  refine W.lcmp hx hb dX2_combine_188 ?_
                  refine g5_ti (v := (-1)) (by decide +kernel) ?_
                  refine lv_if_gt (tgt := 196) hx hb dX2_combine_189 (by decide +kernel) (fun c_31 => ?_) (fun c_31 => ?_)
                  ·
                    exact absurd c_31 (by decide +kernel)
                  ·
                    refine lv_iconst (v := 1) hx hb dX2_combine_192 (by decide +kernel) ?_
                    refine lv_goto (tgt := 197) hx hb dX2_combine_193 (by decide +kernel) ?_
                    exact W.zret (v := 1) hx hb hr rfl (fun t ht hW => ⟨⟨1, [(a_j, (oc2 a_as a_sk)), (a_sk, (arJ G 50 (vp_updL f_sk p_p.toNatClampNeg 1)))], rfl, Or.inl (⟨(vp_updL f_sk p_p.toNatClampNeg 1), ⟨by omega, _, cb_1 (bv_gt1 (bop_7 (by omega)) (by omega)) (bop_n5 (by first | omega | (unfold gNe at *; omega))) (by first | omega | decide) (by first | omega | decide), rfl⟩, rfl, rfl⟩), by rw [ht]; exact hP.sub [0, 1] rfl, hD.sub [0, 1] (by decide +kernel) rfl⟩, hS.F ht⟩) hS.2.2 dX2_combine_197
          ·
            have i_20 : p_o.toInt = 6 := g5_neN (a := p_o.toInt) (b := 6) rfl (by decide +kernel) c_20
            refine lv_lload_n hx hb dX2_combine_126 rfl (lv_at hl 1 rfl) ?_
            refine lv_lload hx hb dX2_combine_127 (lv_at hl 0 rfl) ?_
            refine W.lcmp hx hb dX2_combine_129 ?_
            refine lv_if_ge (tgt := 163) hx hb dX2_combine_130 (by decide +kernel) (fun c_32 => ?_) (fun c_32 => ?_)
            ·
              have i_32 : (lg_cmp (f_sk p_p.toNatClampNeg) (f_sk (p_p + 1).toNatClampNeg)).toInt ≥ 0 := g5_ge (a := (lg_cmp (f_sk p_p.toNatClampNeg) (f_sk (p_p + 1).toNatClampNeg)).toInt) (b := 0) rfl (by decide +kernel) c_32
              refine lv_lconst (v := 0) hx hb dX2_combine_163 (by decide +kernel) ?_
              refine lv_lstore (lv' := [(7, .long 0), (5, .long (f_sk (p_p + 1).toNatClampNeg)), (3, .long (f_sk p_p.toNatClampNeg)), (0, .ref a_j), (1, .int p_o), (2, .int p_p)]) hx hb dX2_combine_164 hl (by decide +kernel) rfl ?_
              clear hl
              intro ls hl
              refine lv_aload_n hx hb dX2_combine_166 rfl (lv_at hl 3 rfl) ?_
              refine va_get (D := G.1) (ci := 2) (v := .ref a_sk) (C := RX2) (T := TX2) (N := 2) hx hb hts inG_X2 hown hK hP 0 rfl rfl 1 (by decide +kernel) (hts _ fl_X2_15) (fun _ h9 => h9) rfl dX2_combine_167 ?_
              refine W.eq (g2 := F0 m 170 ls [.ref a_sk]) rfl ?_
              refine lv_iload_n hx hb dX2_combine_170 rfl (lv_at hl 5 rfl) ?_
              refine lv_lload hx hb dX2_combine_171 (lv_at hl 0 rfl) ?_
              refine va_last hx hb hK hP hD hS 1 1 rfl rfl (i := p_p) (x := 0) (vp_in_iff.mpr ⟨by omega, by omega⟩) dX2_combine_173 ?_
              clear hP hD hS
              intro H locs hP hD hS
              refine g5_rs [(a_j, (oc2 a_as a_sk)), (a_sk, (arJ G 50 (vp_updL f_sk p_p.toNatClampNeg 0)))] hP hD ?_
              clear hP hD
              intro hP hD
              refine lv_lload hx hb dX2_combine_174 (lv_at hl 0 rfl) ?_
              refine lv_ldc2 (v := (-1000000000)) hx hb hown (hts _ kl_X2_54) dX2_combine_176 ?_
              refine W.eq (g2 := F0 m 179 ls [.long (-1000000000), .long 0]) rfl ?_
              refine W.lcmp hx hb dX2_combine_179 ?_
              refine g5_ti (v := 1) (by decide +kernel) ?_
              refine lv_if_lt (tgt := 196) hx hb dX2_combine_180 (by decide +kernel) (fun c_33 => ?_) (fun c_33 => ?_)
              ·
                exact absurd c_33 (by decide +kernel)
              ·
                refine lv_lload hx hb dX2_combine_183 (lv_at hl 0 rfl) ?_
                refine lv_ldc2 (v := 1000000000) hx hb hown (hts _ kl_X2_56) dX2_combine_185 ?_
                refine W.lcmp hx hb dX2_combine_188 ?_
                refine g5_ti (v := (-1)) (by decide +kernel) ?_
                refine lv_if_gt (tgt := 196) hx hb dX2_combine_189 (by decide +kernel) (fun c_34 => ?_) (fun c_34 => ?_)
                ·
                  exact absurd c_34 (by decide +kernel)
                ·
                  refine lv_iconst (v := 1) hx hb dX2_combine_192 (by decide +kernel) ?_
                  refine lv_goto (tgt := 197) hx hb dX2_combine_193 (by decide +kernel) ?_
                  exact W.zret (v := 1) hx hb hr rfl (fun t ht hW => ⟨⟨1, [(a_j, (oc2 a_as a_sk)), (a_sk, (arJ G 50 (vp_updL f_sk p_p.toNatClampNeg 0)))], rfl, Or.inl (⟨(vp_updL f_sk p_p.toNatClampNeg 0), ⟨by omega, _, cb_1 (bv_lt0 (bop_6 (by omega)) (by omega)) (bop_n5 (by first | omega | (unfold gNe at *; omega))) (by first | omega | decide) (by first | omega | decide), rfl⟩, rfl, rfl⟩), by rw [ht]; exact hP.sub [0, 1] rfl, hD.sub [0, 1] (by decide +kernel) rfl⟩, hS.F ht⟩) hS.2.2 dX2_combine_197
            ·
              have i_32 : (lg_cmp (f_sk p_p.toNatClampNeg) (f_sk (p_p + 1).toNatClampNeg)).toInt < 0 := g5_geN (a := (lg_cmp (f_sk p_p.toNatClampNeg) (f_sk (p_p + 1).toNatClampNeg)).toInt) (b := 0) rfl (by decide +kernel) c_32
              refine lv_goto (tgt := 159) hx hb dX2_combine_133 (by decide +kernel) ?_
              refine lv_lconst (v := 1) hx hb dX2_combine_159 (by decide +kernel) ?_
              refine lv_goto (tgt := 164) hx hb dX2_combine_160 (by decide +kernel) ?_
              refine lv_lstore (lv' := [(7, .long 1), (5, .long (f_sk (p_p + 1).toNatClampNeg)), (3, .long (f_sk p_p.toNatClampNeg)), (0, .ref a_j), (1, .int p_o), (2, .int p_p)]) hx hb dX2_combine_164 hl (by decide +kernel) rfl ?_
              clear hl
              intro ls hl
              refine W.eq (g2 := F0 m 166 ls []) rfl ?_
              refine lv_aload_n hx hb dX2_combine_166 rfl (lv_at hl 3 rfl) ?_
              refine va_get (D := G.1) (ci := 2) (v := .ref a_sk) (C := RX2) (T := TX2) (N := 2) hx hb hts inG_X2 hown hK hP 0 rfl rfl 1 (by decide +kernel) (hts _ fl_X2_15) (fun _ h9 => h9) rfl dX2_combine_167 ?_
              refine lv_iload_n hx hb dX2_combine_170 rfl (lv_at hl 5 rfl) ?_
              refine lv_lload hx hb dX2_combine_171 (lv_at hl 0 rfl) ?_
              refine va_last hx hb hK hP hD hS 1 1 rfl rfl (i := p_p) (x := 1) (vp_in_iff.mpr ⟨by omega, by omega⟩) dX2_combine_173 ?_
              clear hP hD hS
              intro H locs hP hD hS
              refine g5_rs [(a_j, (oc2 a_as a_sk)), (a_sk, (arJ G 50 (vp_updL f_sk p_p.toNatClampNeg 1)))] hP hD ?_
              clear hP hD
              intro hP hD
              refine W.eq (g2 := F0 m 174 ls []) rfl ?_
              refine lv_lload hx hb dX2_combine_174 (lv_at hl 0 rfl) ?_
              refine lv_ldc2 (v := (-1000000000)) hx hb hown (hts _ kl_X2_54) dX2_combine_176 ?_
              refine W.lcmp hx hb dX2_combine_179 ?_
              refine g5_ti (v := 1) (by decide +kernel) ?_
              refine lv_if_lt (tgt := 196) hx hb dX2_combine_180 (by decide +kernel) (fun c_35 => ?_) (fun c_35 => ?_)
              ·
                exact absurd c_35 (by decide +kernel)
              ·
                refine lv_lload hx hb dX2_combine_183 (lv_at hl 0 rfl) ?_
                refine lv_ldc2 (v := 1000000000) hx hb hown (hts _ kl_X2_56) dX2_combine_185 ?_
                refine W.lcmp hx hb dX2_combine_188 ?_
                refine g5_ti (v := (-1)) (by decide +kernel) ?_
                refine lv_if_gt (tgt := 196) hx hb dX2_combine_189 (by decide +kernel) (fun c_36 => ?_) (fun c_36 => ?_)
                ·
                  exact absurd c_36 (by decide +kernel)
                ·
                  refine lv_iconst (v := 1) hx hb dX2_combine_192 (by decide +kernel) ?_
                  refine lv_goto (tgt := 197) hx hb dX2_combine_193 (by decide +kernel) ?_
                  exact W.zret (v := 1) hx hb hr rfl (fun t ht hW => ⟨⟨1, [(a_j, (oc2 a_as a_sk)), (a_sk, (arJ G 50 (vp_updL f_sk p_p.toNatClampNeg 1)))], rfl, Or.inl (⟨(vp_updL f_sk p_p.toNatClampNeg 1), ⟨by omega, _, cb_1 (bv_lt1 (bop_6 (by omega)) (by omega)) (bop_n5 (by first | omega | (unfold gNe at *; omega))) (by first | omega | decide) (by first | omega | decide), rfl⟩, rfl, rfl⟩), by rw [ht]; exact hP.sub [0, 1] rfl, hD.sub [0, 1] (by decide +kernel) rfl⟩, hS.F ht⟩) hS.2.2 dX2_combine_197
      ·
        have i_4 : p_o.toInt = 5 := g5_neN (a := p_o.toInt) (b := 5) rfl (by decide +kernel) c_4
        refine lv_aload_n hx hb dX2_combine_20 rfl (lv_at hl 0 rfl) ?_
        refine va_get (D := G.1) (ci := 2) (v := .ref a_sk) (C := RX2) (T := TX2) (N := 2) hx hb hts inG_X2 hown hK hP 0 rfl rfl 1 (by decide +kernel) (hts _ fl_X2_15) (fun _ h9 => h9) rfl dX2_combine_21 ?_
        refine lv_iload_n hx hb dX2_combine_24 rfl (lv_at hl 2 rfl) ?_
        refine lv_iconst (v := 1) hx hb dX2_combine_25 (by decide +kernel) ?_
        refine W.eq (g2 := F0 m 26 ls [.int 1, .int p_p, .ref a_sk]) rfl ?_
        refine lv_iadd hx hb dX2_combine_26 ?_
        have t_37 : (p_p + 1).toInt = p_p.toInt + 1 := g5_iadd (a := p_p.toInt) (b := 1) (by rfl) (by decide +kernel) (by omega) (by omega)
        refine va_lald hx hb hK hP 1 1 rfl rfl (i := (p_p + 1)) (vp_in_iff.mpr ⟨by omega, by omega⟩) dX2_combine_27 ?_
        refine lv_lconst (v := 0) hx hb dX2_combine_28 (by decide +kernel) ?_
        refine W.lcmp hx hb dX2_combine_29 ?_
        refine lv_if_ne (tgt := 35) hx hb dX2_combine_30 (by decide +kernel) (fun c_38 => ?_) (fun c_38 => ?_)
        ·
          have n_38 : gNe ((lg_cmp (f_sk (p_p + 1).toNatClampNeg) 0).toInt) (0) := g5_ne (a := (lg_cmp (f_sk (p_p + 1).toNatClampNeg) 0).toInt) (b := 0) rfl (by decide +kernel) c_38
          refine lv_aload_n hx hb dX2_combine_35 rfl (lv_at hl 0 rfl) ?_
          refine va_get (D := G.1) (ci := 2) (v := .ref a_sk) (C := RX2) (T := TX2) (N := 2) hx hb hts inG_X2 hown hK hP 0 rfl rfl 1 (by decide +kernel) (hts _ fl_X2_15) (fun _ h9 => h9) rfl dX2_combine_36 ?_
          refine lv_iload_n hx hb dX2_combine_39 rfl (lv_at hl 2 rfl) ?_
          refine va_lald hx hb hK hP 1 1 rfl rfl (i := p_p) (vp_in_iff.mpr ⟨by omega, by omega⟩) dX2_combine_40 ?_
          refine W.eq (g2 := F0 m 41 ls [.long (f_sk p_p.toNatClampNeg)]) rfl ?_
          refine lv_lstore_n (lv' := [(3, .long (f_sk p_p.toNatClampNeg)), (0, .ref a_j), (1, .int p_o), (2, .int p_p)]) hx hb dX2_combine_41 rfl hl (by decide +kernel) rfl ?_
          clear hl
          intro ls hl
          refine lv_aload_n hx hb dX2_combine_42 rfl (lv_at hl 1 rfl) ?_
          refine va_get (D := G.1) (ci := 2) (v := .ref a_sk) (C := RX2) (T := TX2) (N := 2) hx hb hts inG_X2 hown hK hP 0 rfl rfl 1 (by decide +kernel) (hts _ fl_X2_15) (fun _ h9 => h9) rfl dX2_combine_43 ?_
          refine lv_iload_n hx hb dX2_combine_46 rfl (lv_at hl 3 rfl) ?_
          refine lv_iconst (v := 1) hx hb dX2_combine_47 (by decide +kernel) ?_
          refine W.eq (g2 := F0 m 48 ls [.int 1, .int p_p, .ref a_sk]) rfl ?_
          refine lv_iadd hx hb dX2_combine_48 ?_
          have t_39 : (p_p + 1).toInt = p_p.toInt + 1 := g5_iadd (a := p_p.toInt) (b := 1) (by rfl) (by decide +kernel) (by omega) (by omega)
          refine va_lald hx hb hK hP 1 1 rfl rfl (i := (p_p + 1)) (vp_in_iff.mpr ⟨by omega, by omega⟩) dX2_combine_49 ?_
          refine lv_lstore (lv' := [(5, .long (f_sk (p_p + 1).toNatClampNeg)), (3, .long (f_sk p_p.toNatClampNeg)), (0, .ref a_j), (1, .int p_o), (2, .int p_p)]) hx hb dX2_combine_50 hl (by decide +kernel) rfl ?_
          clear hl
          intro ls hl
          refine lv_iload_n hx hb dX2_combine_52 rfl (lv_at hl 3 rfl) ?_
          have s_40 : p_o.toInt = 5 := by omega
          have i_40 : p_o.toInt = 5 := by omega
          refine lv_tableIn (tgt := 111) hx hb dX2_combine_53 (by omega) (by omega) (by rw [s_40]; rfl) (by decide +kernel) ?_
          refine lv_lload_n hx hb dX2_combine_111 rfl (lv_at hl 1 rfl) ?_
          refine lv_lload hx hb dX2_combine_112 (lv_at hl 0 rfl) ?_
          refine lv_ldiv hx hb dX2_combine_114 (g5_cmp1 n_38) ?_
          refine lv_lstore (lv' := [(7, .long ((f_sk p_p.toNatClampNeg) / (f_sk (p_p + 1).toNatClampNeg))), (5, .long (f_sk (p_p + 1).toNatClampNeg)), (3, .long (f_sk p_p.toNatClampNeg)), (0, .ref a_j), (1, .int p_o), (2, .int p_p)]) hx hb dX2_combine_115 hl (by decide +kernel) rfl ?_
          clear hl
          intro ls hl
          refine W.eq (g2 := F0 m 117 ls []) rfl ?_
          refine lv_goto (tgt := 166) hx hb dX2_combine_117 (by decide +kernel) ?_
          refine lv_aload_n hx hb dX2_combine_166 rfl (lv_at hl 3 rfl) ?_
          refine va_get (D := G.1) (ci := 2) (v := .ref a_sk) (C := RX2) (T := TX2) (N := 2) hx hb hts inG_X2 hown hK hP 0 rfl rfl 1 (by decide +kernel) (hts _ fl_X2_15) (fun _ h9 => h9) rfl dX2_combine_167 ?_
          refine lv_iload_n hx hb dX2_combine_170 rfl (lv_at hl 5 rfl) ?_
          refine lv_lload hx hb dX2_combine_171 (lv_at hl 0 rfl) ?_
          refine W.eq (g2 := F0 m 173 ls [.long ((f_sk p_p.toNatClampNeg) / (f_sk (p_p + 1).toNatClampNeg)), .int p_p, .ref a_sk]) rfl ?_
          refine va_last hx hb hK hP hD hS 1 1 rfl rfl (i := p_p) (x := ((f_sk p_p.toNatClampNeg) / (f_sk (p_p + 1).toNatClampNeg))) (vp_in_iff.mpr ⟨by omega, by omega⟩) dX2_combine_173 ?_
          clear hP hD hS
          intro H locs hP hD hS
          refine g5_rs [(a_j, (oc2 a_as a_sk)), (a_sk, (arJ G 50 (vp_updL f_sk p_p.toNatClampNeg ((f_sk p_p.toNatClampNeg) / (f_sk (p_p + 1).toNatClampNeg)))))] hP hD ?_
          clear hP hD
          intro hP hD
          refine lv_lload hx hb dX2_combine_174 (lv_at hl 0 rfl) ?_
          refine lv_ldc2 (v := (-1000000000)) hx hb hown (hts _ kl_X2_54) dX2_combine_176 ?_
          refine W.lcmp hx hb dX2_combine_179 ?_
          refine lv_if_lt (tgt := 196) hx hb dX2_combine_180 (by decide +kernel) (fun c_41 => ?_) (fun c_41 => ?_)
          ·
            have i_41 : (lg_cmp ((f_sk p_p.toNatClampNeg) / (f_sk (p_p + 1).toNatClampNeg)) (-1000000000)).toInt < 0 := g5_lt (a := (lg_cmp ((f_sk p_p.toNatClampNeg) / (f_sk (p_p + 1).toNatClampNeg)) (-1000000000)).toInt) (b := 0) rfl (by decide +kernel) c_41
            refine lv_iconst (v := 0) hx hb dX2_combine_196 (by decide +kernel) ?_
            exact W.zret (v := 0) hx hb hr rfl (fun t ht hW => ⟨⟨0, [(a_j, (oc2 a_as a_sk)), (a_sk, (arJ G 50 (vp_updL f_sk p_p.toNatClampNeg ((f_sk p_p.toNatClampNeg) / (f_sk (p_p + 1).toNatClampNeg)))))], rfl, Or.inr (⟨(vp_updL f_sk p_p.toNatClampNeg ((f_sk p_p.toNatClampNeg) / (f_sk (p_p + 1).toNatClampNeg))), Or.inr (cb_0 (bv_5 (by omega)) (by omega)), rfl, rfl⟩), by rw [ht]; exact hP.sub [0, 1] rfl, hD.sub [0, 1] (by decide +kernel) rfl⟩, hS.F ht⟩) hS.2.2 dX2_combine_197
          ·
            have i_41 : (lg_cmp ((f_sk p_p.toNatClampNeg) / (f_sk (p_p + 1).toNatClampNeg)) (-1000000000)).toInt ≥ 0 := g5_ltN (a := (lg_cmp ((f_sk p_p.toNatClampNeg) / (f_sk (p_p + 1).toNatClampNeg)) (-1000000000)).toInt) (b := 0) rfl (by decide +kernel) c_41
            refine lv_lload hx hb dX2_combine_183 (lv_at hl 0 rfl) ?_
            refine lv_ldc2 (v := 1000000000) hx hb hown (hts _ kl_X2_56) dX2_combine_185 ?_
            refine W.lcmp hx hb dX2_combine_188 ?_
            refine lv_if_gt (tgt := 196) hx hb dX2_combine_189 (by decide +kernel) (fun c_42 => ?_) (fun c_42 => ?_)
            ·
              have i_42 : (lg_cmp ((f_sk p_p.toNatClampNeg) / (f_sk (p_p + 1).toNatClampNeg)) 1000000000).toInt > 0 := g5_gt (a := (lg_cmp ((f_sk p_p.toNatClampNeg) / (f_sk (p_p + 1).toNatClampNeg)) 1000000000).toInt) (b := 0) rfl (by decide +kernel) c_42
              refine lv_iconst (v := 0) hx hb dX2_combine_196 (by decide +kernel) ?_
              exact W.zret (v := 0) hx hb hr rfl (fun t ht hW => ⟨⟨0, [(a_j, (oc2 a_as a_sk)), (a_sk, (arJ G 50 (vp_updL f_sk p_p.toNatClampNeg ((f_sk p_p.toNatClampNeg) / (f_sk (p_p + 1).toNatClampNeg)))))], rfl, Or.inr (⟨(vp_updL f_sk p_p.toNatClampNeg ((f_sk p_p.toNatClampNeg) / (f_sk (p_p + 1).toNatClampNeg))), Or.inr (cb_0 (bv_5 (by omega)) (by omega)), rfl, rfl⟩), by rw [ht]; exact hP.sub [0, 1] rfl, hD.sub [0, 1] (by decide +kernel) rfl⟩, hS.F ht⟩) hS.2.2 dX2_combine_197
            ·
              have i_42 : (lg_cmp ((f_sk p_p.toNatClampNeg) / (f_sk (p_p + 1).toNatClampNeg)) 1000000000).toInt ≤ 0 := g5_gtN (a := (lg_cmp ((f_sk p_p.toNatClampNeg) / (f_sk (p_p + 1).toNatClampNeg)) 1000000000).toInt) (b := 0) rfl (by decide +kernel) c_42
              refine lv_iconst (v := 1) hx hb dX2_combine_192 (by decide +kernel) ?_
              refine lv_goto (tgt := 197) hx hb dX2_combine_193 (by decide +kernel) ?_
              exact W.zret (v := 1) hx hb hr rfl (fun t ht hW => ⟨⟨1, [(a_j, (oc2 a_as a_sk)), (a_sk, (arJ G 50 (vp_updL f_sk p_p.toNatClampNeg ((f_sk p_p.toNatClampNeg) / (f_sk (p_p + 1).toNatClampNeg)))))], rfl, Or.inl (⟨(vp_updL f_sk p_p.toNatClampNeg ((f_sk p_p.toNatClampNeg) / (f_sk (p_p + 1).toNatClampNeg))), ⟨by omega, _, cb_1 (bv_5 (by omega)) (fun _ => ne_z (by first | omega | (unfold gNe at *; omega))) (by first | omega | decide) (by first | omega | decide), rfl⟩, rfl, rfl⟩), by rw [ht]; exact hP.sub [0, 1] rfl, hD.sub [0, 1] (by decide +kernel) rfl⟩, hS.F ht⟩) hS.2.2 dX2_combine_197
        ·
          have i_38 : (lg_cmp (f_sk (p_p + 1).toNatClampNeg) 0).toInt = 0 := g5_neN (a := (lg_cmp (f_sk (p_p + 1).toNatClampNeg) 0).toInt) (b := 0) rfl (by decide +kernel) c_38
          refine lv_iconst (v := 0) hx hb dX2_combine_33 (by decide +kernel) ?_
          exact W.zret (v := 0) hx hb hr rfl (fun t ht hW => ⟨⟨0, [(a_j, (oc2 a_as a_sk)), (a_sk, (arJ G 50 f_sk))], rfl, Or.inr (⟨f_sk, Or.inr (cb_d (by rw [show p_o.toInt = 5 by omega]; decide) (by omega)), rfl, rfl⟩), by rw [ht]; exact hP.sub [0, 1] rfl, hD.sub [0, 1] (by decide +kernel) rfl⟩, hS.F ht⟩) hS.2.2 dX2_combine_34
set_option maxHeartbeats 4000000 in
set_option maxRecDepth 100000 in
theorem j_holdsX (l : Launch) (G : g5_G) (a_j a_as a_sk a_lo a_sr a_cd a_hd : Nat) (sz : Nat) (p_c : Int32) (e_cl : Int32) (f_as : Nat → Int32) (f_sk : Nat → Int64) (f_sr : Nat → Int32) (f_cd : Nat → Int32) (g_q : Nat → Int64) (g_c : CLT) (n_sr : Nat) (n_cd : Nat) (h_p_c : 0 ≤ p_c.toInt ∧ p_c.toInt ≤ 11) (h_e_cl : 0 ≤ e_cl.toInt ∧ e_cl.toInt ≤ 12) (e_q : (p_c.toInt + 1 : Int) < (n_sr : Int)) (e_hn : n_cd ≤ 400) (e_hs : ∀ j : Nat, j < n_sr → 0 ≤ (f_sr j).toInt ∧ (f_sr j).toInt ≤ (n_cd : Int)) (e_hk : ∀ j : Nat, j < n_cd → (f_cd j >>> (12 &&& 31)).toInt = 1 → (f_cd j &&& 4095).toInt < 8) (e_gq : ∀ j : Nat, j < 8 → g_q j = (f_as j).toInt64) (e_cc : CLC f_cd (f_sr p_c.toNatClampNeg).toInt.toNat (f_sr (p_c + 1).toNatClampNeg).toInt.toNat g_c) (e_l5 : lvC f_cd (f_sr (p_c + 1).toNatClampNeg).toInt.toNat ≤ 50) : Met l yX2_holds (wsG yX2_holds cX2_holds 8 (some .boolean)) ({ frames := 1, cells := 0, slots := 0, locals := 28 }) (va_Pc [.ref a_j, .ref a_lo, .int p_c] (g5_P G [(a_j, (oc2 a_as a_sk)), (a_as, (arI G 8 f_as)), (a_sk, (arJ G 50 f_sk)), (a_lo, (oc3 e_cl a_hd a_sr a_cd)), (a_sr, (arI G n_sr f_sr)), (a_cd, (arI G n_cd f_cd))] sz)) (va_Qi (fun (r : Int32) (u : va_W) => (∃ (o_k : Nat → Int64), (∃ v : Int64, clH g_c g_q = some v ∧ (g_c.1 < 2 → o_k 0 = v)) ∧ (r = 1) ∧ (u = [(a_j, (oc2 a_as a_sk)), (a_as, (arI G 8 f_as)), (a_sk, (arJ G 50 o_k)), (a_lo, (oc3 e_cl a_hd a_sr a_cd)), (a_sr, (arI G n_sr f_sr)), (a_cd, (arI G n_cd f_cd))])) ∨ (∃ (o_k : Nat → Int64), (clH g_c g_q = none) ∧ (r = 0) ∧ (u = [(a_j, (oc2 a_as a_sk)), (a_as, (arI G 8 f_as)), (a_sk, (arJ G 50 o_k)), (a_lo, (oc3 e_cl a_hd a_sr a_cd)), (a_sr, (arI G n_sr f_sr)), (a_cd, (arI G n_cd f_cd))]))) (g5_B G (va_A [(a_j, (oc2 a_as a_sk)), (a_as, (arI G 8 f_as)), (a_sk, (arJ G 50 f_sk)), (a_lo, (oc3 e_cl a_hd a_sr a_cd)), (a_sr, (arI G n_sr f_sr)), (a_cd, (arI G n_cd f_cd))] sz)) (va_A [(a_j, (oc2 a_as a_sk)), (a_as, (arI G 8 f_as)), (a_sk, (arJ G 50 f_sk)), (a_lo, (oc3 e_cl a_hd a_sr a_cd)), (a_sr, (arI G n_sr f_sr)), (a_cd, (arI G n_cd f_cd))] sz)) 0 0 (va_A [(a_j, (oc2 a_as a_sk)), (a_as, (arI G 8 f_as)), (a_sk, (arJ G 50 f_sk)), (a_lo, (oc3 e_cl a_hd a_sr a_cd)), (a_sr, (arI G n_sr f_sr)), (a_cd, (arI G n_cd f_cd))] sz) := by
  refine Met.ofW (cc := cX2_holds) (maxL := 8) (ret := (some .boolean)) (by decide +kernel) rfl ?_
  intro p e s m args below meth c s₁ B hml hv
  obtain ⟨rfl, hsz, hP, hK, hD0, hN, hT⟩ := hv
  have hx := B.exec
  have hb := B.bytes
  have hr := B.returns
  have hts : ∀ w ∈ tblG, w.before _ s = true := fun w h => atoms_spec (ws := (wsG yX2_holds cX2_holds 8 (some .boolean))) B.pre w (List.mem_cons_of_mem _ h)
  have hown : s.vm.findClass RX2 = some m.cls := findClass_of_methodNamed B.named
  have hlocks := B.notSynchronized
  subst hsz
  have hD := hD0.self (sz := s.heap.size)
  generalize hAe : va_A [(a_j, (oc2 a_as a_sk)), (a_as, (arI G 8 f_as)), (a_sk, (arJ G 50 f_sk)), (a_lo, (oc3 e_cl a_hd a_sr a_cd)), (a_sr, (arI G n_sr f_sr)), (a_cd, (arI G n_cd f_cd))] s.heap.size = A at hD hT ⊢
  have hA : ∀ q : Nat, s.heap.size ≤ q → A q := fun q h => by rw [← hAe]; exact Or.inr h
  have hS : va_S A s.heap s.heap [] := va_S.rf
  replace hP : va_P G.1 vwCl [(a_j, (oc2 a_as a_sk)), (a_as, (arI G 8 f_as)), (a_sk, (arJ G 50 f_sk)), (a_lo, (oc3 e_cl a_hd a_sr a_cd)), (a_sr, (arI G n_sr f_sr)), (a_cd, (arI G n_cd f_cd))] s.heap := hP
  have hl := lv_entry ([.ref a_j, .ref a_lo, .int p_c]) (n := 8) (Nat.le_of_ble_eq_true rfl)
  rw [lg_entry_eq]
  generalize (lg_sl ([.ref a_j, .ref a_lo, .int p_c]) ++ List.replicate (8 - (lg_sl ([.ref a_j, .ref a_lo, .int p_c])).length) Slot.unset).toArray = ls at hl ⊢
  replace hl : lv_has ls 8 [(0, .ref a_j), (1, .ref a_lo), (2, .int p_c)] := hl
  refine lv_iconst (v := 0) hx hb dX2_holds_0 (by decide +kernel) ?_
  refine lv_istore_n (lv' := [(3, .int 0), (0, .ref a_j), (1, .ref a_lo), (2, .int p_c)]) hx hb dX2_holds_1 rfl hl (by decide +kernel) rfl ?_
  clear hl
  intro ls hl
  refine lv_aload_n hx hb dX2_holds_2 rfl (lv_at hl 2 rfl) ?_
  refine va_get (D := G.1) (ci := 3) (v := .ref a_sr) (C := RX3) (T := TX3) (N := 4) hx hb hts inG_X3 hown hK hP 3 rfl rfl 2 (by decide +kernel) (hts _ fl_X2_41) (fun _ h9 => h9) rfl dX2_holds_3 ?_
  refine W.eq (g2 := F0 m 6 ls [.ref a_sr]) rfl ?_
  refine lv_iload_n hx hb dX2_holds_6 rfl (lv_at hl 3 rfl) ?_
  refine lv_iconst (v := 1) hx hb dX2_holds_7 (by decide +kernel) ?_
  refine lv_iadd hx hb dX2_holds_8 ?_
  have t_1 : (p_c + 1).toInt = p_c.toInt + 1 := g5_iadd (a := p_c.toInt) (b := 1) (by rfl) (by decide +kernel) (by omega) (by omega)
  refine va_iald hx hb hK hP 4 0 rfl rfl (i := (p_c + 1)) (vp_in_iff.mpr ⟨by omega, by omega⟩) dX2_holds_9 ?_
  refine lv_istore (lv' := [(4, .int (f_sr (p_c + 1).toNatClampNeg)), (3, .int 0), (0, .ref a_j), (1, .ref a_lo), (2, .int p_c)]) hx hb dX2_holds_10 hl (by decide +kernel) rfl ?_
  clear hl
  intro ls hl
  refine W.eq (g2 := F0 m 12 ls []) rfl ?_
  refine lv_aload_n hx hb dX2_holds_12 rfl (lv_at hl 3 rfl) ?_
  refine va_get (D := G.1) (ci := 3) (v := .ref a_sr) (C := RX3) (T := TX3) (N := 4) hx hb hts inG_X3 hown hK hP 3 rfl rfl 2 (by decide +kernel) (hts _ fl_X2_41) (fun _ h9 => h9) rfl dX2_holds_13 ?_
  refine lv_iload_n hx hb dX2_holds_16 rfl (lv_at hl 4 rfl) ?_
  refine va_iald hx hb hK hP 4 0 rfl rfl (i := p_c) (vp_in_iff.mpr ⟨by omega, by omega⟩) dX2_holds_17 ?_
  refine lv_istore (lv' := [(5, .int (f_sr p_c.toNatClampNeg)), (4, .int (f_sr (p_c + 1).toNatClampNeg)), (3, .int 0), (0, .ref a_j), (1, .ref a_lo), (2, .int p_c)]) hx hb dX2_holds_18 hl (by decide +kernel) rfl ?_
  clear hl
  intro ls hl
  have hs_2 : 0 ≤ (f_sr (p_c + 1).toNatClampNeg).toInt ∧ (f_sr (p_c + 1).toNatClampNeg).toInt ≤ (n_cd : Int) := e_hs _ (by have zz := g5_clamp (p_c + 1); omega)
  have hs_3 : 0 ≤ (f_sr p_c.toNatClampNeg).toInt ∧ (f_sr p_c.toNatClampNeg).toInt ≤ (n_cd : Int) := e_hs _ (by have zz := g5_clamp p_c; omega)
  refine g5_loop (α := (Int32) × (Int32) × (Nat → Int64)) (fun (q : (Int32) × (Int32) × (Nat → Int64)) (ls : Array Slot) (H : Heap) (locs : List Loc) => match q with | (k_t, k_a, k_k) => lv_has ls 8 [(3, .int k_t), (5, .int k_a), (4, .int (f_sr (p_c + 1).toNatClampNeg)), (0, .ref a_j), (1, .ref a_lo), (2, .int p_c)] ∧ va_P G.1 vwCl [(a_j, (oc2 a_as a_sk)), (a_as, (arI G 8 f_as)), (a_sk, (arJ G 50 k_k)), (a_lo, (oc3 e_cl a_hd a_sr a_cd)), (a_sr, (arI G n_sr f_sr)), (a_cd, (arI G n_cd f_cd))] H ∧ va_D A [(a_j, (oc2 a_as a_sk)), (a_as, (arI G 8 f_as)), (a_sk, (arJ G 50 k_k)), (a_lo, (oc3 e_cl a_hd a_sr a_cd)), (a_sr, (arI G n_sr f_sr)), (a_cd, (arI G n_cd f_cd))] ∧ va_S A s.heap H locs ∧ (0 ≤ k_t.toInt ∧ k_t.toInt ≤ 50) ∧ (0 ≤ k_a.toInt ∧ k_a.toInt ≤ 4096) ∧ (GC f_cd g_q (f_sr (p_c + 1).toNatClampNeg) (f_sr p_c.toNatClampNeg) 0 f_sk = GC f_cd g_q (f_sr (p_c + 1).toNatClampNeg) k_a k_t k_k) ∧ ((f_sr p_c.toNatClampNeg).toInt ≤ k_a.toInt)) (fun (q : (Int32) × (Int32) × (Nat → Int64)) => match q with | (k_t, k_a, k_k) => Int.toNat (4096 - k_a.toInt)) (0, (f_sr p_c.toNatClampNeg), f_sk) ⟨lv_sub hl [2, 0, 1, 3, 4, 5] rfl, hP, hD, hS, ⟨by decide, by decide⟩, ⟨by omega, by omega⟩, rfl, Int.le_refl _⟩ ?_
  rintro ⟨k_t, k_a, k_k⟩ ls H locs ⟨hl, hP, hD, hS, (i_4 : 0 ≤ k_t.toInt ∧ k_t.toInt ≤ 50), (i_5 : 0 ≤ k_a.toInt ∧ k_a.toInt ≤ 4096), (i_6 : GC f_cd g_q (f_sr (p_c + 1).toNatClampNeg) (f_sr p_c.toNatClampNeg) 0 f_sk = GC f_cd g_q (f_sr (p_c + 1).toNatClampNeg) k_a k_t k_k), (i_7 : (f_sr p_c.toNatClampNeg).toInt ≤ k_a.toInt)⟩ ih_20_8
  replace hl : lv_has ls 8 [(3, .int k_t), (5, .int k_a), (4, .int (f_sr (p_c + 1).toNatClampNeg)), (0, .ref a_j), (1, .ref a_lo), (2, .int p_c)] := hl
  refine g5_rs [(a_j, (oc2 a_as a_sk)), (a_as, (arI G 8 f_as)), (a_sk, (arJ G 50 k_k)), (a_lo, (oc3 e_cl a_hd a_sr a_cd)), (a_sr, (arI G n_sr f_sr)), (a_cd, (arI G n_cd f_cd))] hP hD ?_
  clear hP hD
  intro hP hD
  refine lv_iload hx hb dX2_holds_20 (lv_at hl 1 rfl) ?_
  refine lv_iload hx hb dX2_holds_22 (lv_at hl 2 rfl) ?_
  refine lv_icmp_ge (tgt := 243) hx hb dX2_holds_24 (by decide +kernel) (fun c_9 => ?_) (fun c_9 => ?_)
  ·
    have i_9 : k_a.toInt ≥ (f_sr (p_c + 1).toNatClampNeg).toInt := g5_ge (a := k_a.toInt) (b := (f_sr (p_c + 1).toNatClampNeg).toInt) rfl rfl c_9
    refine lv_iconst (v := 1) hx hb dX2_holds_243 (by decide +kernel) ?_
    exact W.zret (v := 1) hx hb hr rfl (fun t ht hW => ⟨⟨1, [(a_j, (oc2 a_as a_sk)), (a_as, (arI G 8 f_as)), (a_sk, (arJ G 50 k_k)), (a_lo, (oc3 e_cl a_hd a_sr a_cd)), (a_sr, (arI G n_sr f_sr)), (a_cd, (arI G n_cd f_cd))], rfl, Or.inl (⟨k_k, hc_1 (z := 0) (by decide +kernel) e_cc e_l5 (i_6.trans (gc_end (by omega))), rfl, rfl⟩), by rw [ht]; exact hP.sub [0, 1, 2, 3, 4, 5] rfl, hD.sub [0, 1, 2, 3, 4, 5] (by decide +kernel) rfl⟩, hS.F ht⟩) hS.2.2 dX2_holds_244
  ·
    have i_9 : k_a.toInt < (f_sr (p_c + 1).toNatClampNeg).toInt := g5_geN (a := k_a.toInt) (b := (f_sr (p_c + 1).toNatClampNeg).toInt) rfl rfl c_9
    refine lv_aload_n hx hb dX2_holds_27 rfl (lv_at hl 4 rfl) ?_
    refine va_get (D := G.1) (ci := 3) (v := .ref a_cd) (C := RX3) (T := TX3) (N := 4) hx hb hts inG_X3 hown hK hP 3 rfl rfl 3 (by decide +kernel) (hts _ fl_X2_44) (fun _ h9 => h9) rfl dX2_holds_28 ?_
    refine lv_iload hx hb dX2_holds_31 (lv_at hl 1 rfl) ?_
    refine va_iald hx hb hK hP 5 0 rfl rfl (i := k_a) (vp_in_iff.mpr ⟨by omega, by omega⟩) dX2_holds_33 ?_
    refine W.eq (g2 := F0 m 34 ls [.int (f_cd k_a.toNatClampNeg)]) rfl ?_
    refine lv_bipush (v := 12) hx hb dX2_holds_34 (by decide +kernel) ?_
    refine lv_ishr hx hb dX2_holds_36 ?_
    refine lv_istore (lv' := [(6, .int ((f_cd k_a.toNatClampNeg) >>> (12 &&& 31))), (3, .int k_t), (5, .int k_a), (4, .int (f_sr (p_c + 1).toNatClampNeg)), (0, .ref a_j), (1, .ref a_lo), (2, .int p_c)]) hx hb dX2_holds_37 hl (by decide +kernel) rfl ?_
    clear hl
    intro ls hl
    refine lv_aload_n hx hb dX2_holds_39 rfl (lv_at hl 5 rfl) ?_
    refine va_get (D := G.1) (ci := 3) (v := .ref a_cd) (C := RX3) (T := TX3) (N := 4) hx hb hts inG_X3 hown hK hP 3 rfl rfl 3 (by decide +kernel) (hts _ fl_X2_44) (fun _ h9 => h9) rfl dX2_holds_40 ?_
    refine W.eq (g2 := F0 m 43 ls [.ref a_cd]) rfl ?_
    refine lv_iload hx hb dX2_holds_43 (lv_at hl 2 rfl) ?_
    refine va_iald hx hb hK hP 5 0 rfl rfl (i := k_a) (vp_in_iff.mpr ⟨by omega, by omega⟩) dX2_holds_45 ?_
    refine lv_sipush (v := 4095) hx hb dX2_holds_46 (by decide +kernel) ?_
    refine lv_iand hx hb dX2_holds_49 ?_
    have ha_10 := g_a4095 (f_cd k_a.toNatClampNeg)
    refine lv_istore (lv' := [(7, .int ((f_cd k_a.toNatClampNeg) &&& 4095)), (6, .int ((f_cd k_a.toNatClampNeg) >>> (12 &&& 31))), (3, .int k_t), (5, .int k_a), (4, .int (f_sr (p_c + 1).toNatClampNeg)), (0, .ref a_j), (1, .ref a_lo), (2, .int p_c)]) hx hb dX2_holds_50 hl (by decide +kernel) rfl ?_
    clear hl
    intro ls hl
    refine W.eq (g2 := F0 m 52 ls []) rfl ?_
    refine lv_iload hx hb dX2_holds_52 (lv_at hl 1 rfl) ?_
    refine lv_if_eq (tgt := 63) hx hb dX2_holds_54 (by decide +kernel) (fun c_11 => ?_) (fun c_11 => ?_)
    ·
      have i_11 : ((f_cd k_a.toNatClampNeg) >>> (12 &&& 31)).toInt = 0 := g5_eq (a := ((f_cd k_a.toNatClampNeg) >>> (12 &&& 31)).toInt) (b := 0) rfl (by decide +kernel) c_11
      refine lv_iload_n hx hb dX2_holds_63 rfl (lv_at hl 2 rfl) ?_
      refine lv_aload_n hx hb dX2_holds_64 rfl (lv_at hl 5 rfl) ?_
      refine va_get (D := G.1) (ci := 2) (v := .ref a_sk) (C := RX2) (T := TX2) (N := 2) hx hb hts inG_X2 hown hK hP 0 rfl rfl 1 (by decide +kernel) (hts _ fl_X2_15) (fun _ h9 => h9) rfl dX2_holds_65 ?_
      refine va_alen hx hb hK hP 2 1 rfl rfl (v := 50) (by show Int32.ofNat 50 = 50; decide) dX2_holds_68 ?_
      refine W.eq (g2 := F0 m 69 ls [.int 50, .int k_t]) rfl ?_
      refine lv_icmp_lt (tgt := 74) hx hb dX2_holds_69 (by decide +kernel) (fun c_12 => ?_) (fun c_12 => ?_)
      ·
        have i_12 : k_t.toInt < 50 := g5_lt (a := k_t.toInt) (b := 50) rfl (by decide +kernel) c_12
        refine lv_aload_n hx hb dX2_holds_74 rfl (lv_at hl 5 rfl) ?_
        refine va_get (D := G.1) (ci := 2) (v := .ref a_sk) (C := RX2) (T := TX2) (N := 2) hx hb hts inG_X2 hown hK hP 0 rfl rfl 1 (by decide +kernel) (hts _ fl_X2_15) (fun _ h9 => h9) rfl dX2_holds_75 ?_
        refine lv_iload_n hx hb dX2_holds_78 rfl (lv_at hl 2 rfl) ?_
        refine lv_iload hx hb dX2_holds_79 (lv_at hl 1 rfl) ?_
        refine W.eq (g2 := F0 m 81 ls [.int ((f_cd k_a.toNatClampNeg) >>> (12 &&& 31)), .int k_t, .ref a_sk]) rfl ?_
        refine lv_if_ne (tgt := 90) hx hb dX2_holds_81 (by decide +kernel) (fun c_13 => ?_) (fun c_13 => ?_)
        ·
          have i_13 : ((f_cd k_a.toNatClampNeg) >>> (12 &&& 31)).toInt ≠ 0 := g5_ne (a := ((f_cd k_a.toNatClampNeg) >>> (12 &&& 31)).toInt) (b := 0) rfl (by decide +kernel) c_13
          omega
        ·
          have i_13 : ((f_cd k_a.toNatClampNeg) >>> (12 &&& 31)).toInt = 0 := g5_neN (a := ((f_cd k_a.toNatClampNeg) >>> (12 &&& 31)).toInt) (b := 0) rfl (by decide +kernel) c_13
          refine lv_iload hx hb dX2_holds_84 (lv_at hl 0 rfl) ?_
          refine lv_i2l (v := ((f_cd k_a.toNatClampNeg) &&& 4095).toInt64) hx hb dX2_holds_86 rfl ?_
          refine lv_goto (tgt := 98) hx hb dX2_holds_87 (by decide +kernel) ?_
          refine va_last hx hb hK hP hD hS 2 1 rfl rfl (i := k_t) (x := ((f_cd k_a.toNatClampNeg) &&& 4095).toInt64) (vp_in_iff.mpr ⟨by omega, by omega⟩) dX2_holds_98 ?_
          clear hP hD hS
          intro H locs hP hD hS
          refine g5_rs [(a_j, (oc2 a_as a_sk)), (a_as, (arI G 8 f_as)), (a_sk, (arJ G 50 (vp_updL k_k k_t.toNatClampNeg (((f_cd k_a.toNatClampNeg) &&& 4095).toInt64)))), (a_lo, (oc3 e_cl a_hd a_sr a_cd)), (a_sr, (arI G n_sr f_sr)), (a_cd, (arI G n_cd f_cd))] hP hD ?_
          clear hP hD
          intro hP hD
          refine W.eq (g2 := F0 m 99 ls []) rfl ?_
          refine lv_iinc (v := (k_t + 1)) (lv' := [(3, .int (k_t + 1)), (7, .int ((f_cd k_a.toNatClampNeg) &&& 4095)), (6, .int ((f_cd k_a.toNatClampNeg) >>> (12 &&& 31))), (5, .int k_a), (4, .int (f_sr (p_c + 1).toNatClampNeg)), (0, .ref a_j), (1, .ref a_lo), (2, .int p_c)]) hx hb dX2_holds_99 hl (k := 2) rfl rfl (by decide +kernel) rfl ?_
          clear hl
          intro ls hl
          have t_14 : (k_t + 1).toInt = k_t.toInt + 1 := g5_iadd (a := k_t.toInt) (b := 1) rfl (by decide +kernel) (by omega) (by omega)
          refine lv_goto (tgt := 237) hx hb dX2_holds_102 (by decide +kernel) ?_
          refine lv_iinc (v := (k_a + 1)) (lv' := [(5, .int (k_a + 1)), (3, .int (k_t + 1)), (7, .int ((f_cd k_a.toNatClampNeg) &&& 4095)), (6, .int ((f_cd k_a.toNatClampNeg) >>> (12 &&& 31))), (4, .int (f_sr (p_c + 1).toNatClampNeg)), (0, .ref a_j), (1, .ref a_lo), (2, .int p_c)]) hx hb dX2_holds_237 hl (k := 3) rfl rfl (by decide +kernel) rfl ?_
          clear hl
          intro ls hl
          have t_15 : (k_a + 1).toInt = k_a.toInt + 1 := g5_iadd (a := k_a.toInt) (b := 1) rfl (by decide +kernel) (by omega) (by omega)
          refine lv_goto (tgt := 20) hx hb dX2_holds_240 (by decide +kernel) ?_
          exact ih_20_8 ((k_t + 1), (k_a + 1), (vp_updL k_k k_t.toNatClampNeg (((f_cd k_a.toNatClampNeg) &&& 4095).toInt64))) ls H locs (show Int.toNat (4096 - (k_a + 1).toInt) < Int.toNat (4096 - k_a.toInt) from g_up (show k_a.toInt < (k_a + 1).toInt by omega) (show k_a.toInt < 4096 by omega)) ⟨lv_sub hl [1, 0, 4, 5, 6, 7] rfl, hP, hD, hS, ⟨by omega, by omega⟩, ⟨by omega, by omega⟩, (i_6).trans (gc_num (by omega) ⟨by omega, by omega⟩ (by first | omega | (unfold gNe at *; omega)) (by omega) (by omega) (by omega) rfl), by omega⟩
      ·
        have i_12 : k_t.toInt ≥ 50 := g5_ltN (a := k_t.toInt) (b := 50) rfl (by decide +kernel) c_12
        refine lv_iconst (v := 0) hx hb dX2_holds_72 (by decide +kernel) ?_
        exact W.zret (v := 0) hx hb hr rfl (fun t ht hW => ⟨⟨0, [(a_j, (oc2 a_as a_sk)), (a_as, (arI G 8 f_as)), (a_sk, (arJ G 50 k_k)), (a_lo, (oc3 e_cl a_hd a_sr a_cd)), (a_sr, (arI G n_sr f_sr)), (a_cd, (arI G n_cd f_cd))], rfl, Or.inr (⟨k_k, hc_0 (z := 0) (by decide +kernel) e_cc e_l5 (i_6.trans (gc_full (by omega) ⟨by omega, by omega⟩ (Or.inl (by first | omega | (unfold gNe at *; omega))) (by omega))), rfl, rfl⟩), by rw [ht]; exact hP.sub [0, 1, 2, 3, 4, 5] rfl, hD.sub [0, 1, 2, 3, 4, 5] (by decide +kernel) rfl⟩, hS.F ht⟩) hS.2.2 dX2_holds_73
    ·
      have n_11 : gNe (((f_cd k_a.toNatClampNeg) >>> (12 &&& 31)).toInt) (0) := g5_eqN (a := ((f_cd k_a.toNatClampNeg) >>> (12 &&& 31)).toInt) (b := 0) rfl (by decide +kernel) c_11
      refine lv_iload hx hb dX2_holds_57 (lv_at hl 1 rfl) ?_
      refine lv_iconst (v := 1) hx hb dX2_holds_59 (by decide +kernel) ?_
      refine lv_icmp_ne (tgt := 105) hx hb dX2_holds_60 (by decide +kernel) (fun c_16 => ?_) (fun c_16 => ?_)
      ·
        have n_16 : gNe (((f_cd k_a.toNatClampNeg) >>> (12 &&& 31)).toInt) (1) := g5_ne (a := ((f_cd k_a.toNatClampNeg) >>> (12 &&& 31)).toInt) (b := 1) rfl (by decide +kernel) c_16
        refine lv_iload hx hb dX2_holds_105 (lv_at hl 1 rfl) ?_
        refine lv_bipush (v := 8) hx hb dX2_holds_107 (by decide +kernel) ?_
        refine lv_icmp_gt (tgt := 129) hx hb dX2_holds_109 (by decide +kernel) (fun c_17 => ?_) (fun c_17 => ?_)
        ·
          have i_17 : ((f_cd k_a.toNatClampNeg) >>> (12 &&& 31)).toInt > 8 := g5_gt (a := ((f_cd k_a.toNatClampNeg) >>> (12 &&& 31)).toInt) (b := 8) rfl (by decide +kernel) c_17
          refine lv_iload_n hx hb dX2_holds_129 rfl (lv_at hl 2 rfl) ?_
          refine lv_iconst (v := 1) hx hb dX2_holds_130 (by decide +kernel) ?_
          refine lv_icmp_ge (tgt := 136) hx hb dX2_holds_131 (by decide +kernel) (fun c_18 => ?_) (fun c_18 => ?_)
          ·
            have i_18 : k_t.toInt ≥ 1 := g5_ge (a := k_t.toInt) (b := 1) rfl (by decide +kernel) c_18
            refine lv_iload hx hb dX2_holds_136 (lv_at hl 1 rfl) ?_
            refine lv_bipush (v := 9) hx hb dX2_holds_138 (by decide +kernel) ?_
            refine lv_icmp_ne (tgt := 164) hx hb dX2_holds_140 (by decide +kernel) (fun c_19 => ?_) (fun c_19 => ?_)
            ·
              have n_19 : gNe (((f_cd k_a.toNatClampNeg) >>> (12 &&& 31)).toInt) (9) := g5_ne (a := ((f_cd k_a.toNatClampNeg) >>> (12 &&& 31)).toInt) (b := 9) rfl (by decide +kernel) c_19
              have i_19 : ((f_cd k_a.toNatClampNeg) >>> (12 &&& 31)).toInt ≥ 10 := by have z := g5_ne (a := ((f_cd k_a.toNatClampNeg) >>> (12 &&& 31)).toInt) (b := 9) (by rfl) (by decide +kernel) c_19; omega
              refine lv_iload hx hb dX2_holds_164 (lv_at hl 1 rfl) ?_
              refine lv_bipush (v := 10) hx hb dX2_holds_166 (by decide +kernel) ?_
              refine lv_icmp_ne (tgt := 187) hx hb dX2_holds_168 (by decide +kernel) (fun c_20 => ?_) (fun c_20 => ?_)
              ·
                have n_20 : gNe (((f_cd k_a.toNatClampNeg) >>> (12 &&& 31)).toInt) (10) := g5_ne (a := ((f_cd k_a.toNatClampNeg) >>> (12 &&& 31)).toInt) (b := 10) rfl (by decide +kernel) c_20
                have i_20 : ((f_cd k_a.toNatClampNeg) >>> (12 &&& 31)).toInt ≥ 11 := by have z := g5_ne (a := ((f_cd k_a.toNatClampNeg) >>> (12 &&& 31)).toInt) (b := 10) (by rfl) (by decide +kernel) c_20; omega
                refine lv_aload_n hx hb dX2_holds_187 rfl (lv_at hl 5 rfl) ?_
                refine va_get (D := G.1) (ci := 2) (v := .ref a_sk) (C := RX2) (T := TX2) (N := 2) hx hb hts inG_X2 hown hK hP 0 rfl rfl 1 (by decide +kernel) (hts _ fl_X2_15) (fun _ h9 => h9) rfl dX2_holds_188 ?_
                refine lv_iload_n hx hb dX2_holds_191 rfl (lv_at hl 2 rfl) ?_
                refine lv_iconst (v := 1) hx hb dX2_holds_192 (by decide +kernel) ?_
                refine W.eq (g2 := F0 m 193 ls [.int 1, .int k_t, .ref a_sk]) rfl ?_
                refine lv_isub hx hb dX2_holds_193 ?_
                have t_21 : (k_t - 1).toInt = k_t.toInt - 1 := g5_isub (a := k_t.toInt) (b := 1) (by rfl) (by decide +kernel) (by omega) (by omega)
                refine va_lald hx hb hK hP 2 1 rfl rfl (i := (k_t - 1)) (vp_in_iff.mpr ⟨by omega, by omega⟩) dX2_holds_194 ?_
                refine lv_lconst (v := 0) hx hb dX2_holds_195 (by decide +kernel) ?_
                refine W.lcmp hx hb dX2_holds_196 ?_
                refine lv_if_eq (tgt := 204) hx hb dX2_holds_197 (by decide +kernel) (fun c_22 => ?_) (fun c_22 => ?_)
                ·
                  have i_22 : (lg_cmp (k_k (k_t - 1).toNatClampNeg) 0).toInt = 0 := g5_eq (a := (lg_cmp (k_k (k_t - 1).toNatClampNeg) 0).toInt) (b := 0) rfl (by decide +kernel) c_22
                  refine lv_iconst (v := 0) hx hb dX2_holds_204 (by decide +kernel) ?_
                  refine lv_iload hx hb dX2_holds_205 (lv_at hl 1 rfl) ?_
                  refine lv_bipush (v := 11) hx hb dX2_holds_207 (by decide +kernel) ?_
                  refine lv_icmp_ne (tgt := 216) hx hb dX2_holds_209 (by decide +kernel) (fun c_23 => ?_) (fun c_23 => ?_)
                  ·
                    have n_23 : gNe (((f_cd k_a.toNatClampNeg) >>> (12 &&& 31)).toInt) (11) := g5_ne (a := ((f_cd k_a.toNatClampNeg) >>> (12 &&& 31)).toInt) (b := 11) rfl (by decide +kernel) c_23
                    have i_23 : ((f_cd k_a.toNatClampNeg) >>> (12 &&& 31)).toInt ≥ 12 := by have z := g5_ne (a := ((f_cd k_a.toNatClampNeg) >>> (12 &&& 31)).toInt) (b := 11) (by rfl) (by decide +kernel) c_23; omega
                    refine lv_iconst (v := 0) hx hb dX2_holds_216 (by decide +kernel) ?_
                    refine lv_icmp_ne (tgt := 234) hx hb dX2_holds_217 (by decide +kernel) (fun c_24 => ?_) (fun c_24 => ?_)
                    ·
                      exact absurd c_24 (by decide +kernel)
                    ·
                      refine lv_iload hx hb dX2_holds_220 (lv_at hl 3 rfl) ?_
                      refine lv_iload hx hb dX2_holds_222 (lv_at hl 0 rfl) ?_
                      refine lv_iconst (v := 1) hx hb dX2_holds_224 (by decide +kernel) ?_
                      refine lv_isub hx hb dX2_holds_225 ?_
                      have t_25 : (((f_cd k_a.toNatClampNeg) &&& 4095) - 1).toInt = ((f_cd k_a.toNatClampNeg) &&& 4095).toInt - 1 := g5_isub (a := ((f_cd k_a.toNatClampNeg) &&& 4095).toInt) (b := 1) (by rfl) (by decide +kernel) (by omega) (by omega)
                      refine W.eq (g2 := F0 m 226 ls [.int (((f_cd k_a.toNatClampNeg) &&& 4095) - 1), .int k_a]) rfl ?_
                      refine va_mmax hx hb (hml.trans hl.1.symm) hown (hts _ ml_X2_51) (hts _ st_Math_maxI) (hts _ ini_Math) (hts _ cd_Math_maxI) (Nat.le_of_ble_eq_true rfl) (by decide +kernel) (Nat.le_of_ble_eq_true rfl) (Nat.le_of_ble_eq_true rfl) dX2_holds_226 ?_
                      have hm_26 := g_maxI k_a (((f_cd k_a.toNatClampNeg) &&& 4095) - 1)
                      refine lv_istore (lv' := [(5, .int (if k_a < (((f_cd k_a.toNatClampNeg) &&& 4095) - 1) then (((f_cd k_a.toNatClampNeg) &&& 4095) - 1) else k_a)), (7, .int ((f_cd k_a.toNatClampNeg) &&& 4095)), (6, .int ((f_cd k_a.toNatClampNeg) >>> (12 &&& 31))), (3, .int k_t), (4, .int (f_sr (p_c + 1).toNatClampNeg)), (0, .ref a_j), (1, .ref a_lo), (2, .int p_c)]) hx hb dX2_holds_229 hl (by decide +kernel) rfl ?_
                      clear hl
                      intro ls hl
                      refine lv_goto (tgt := 237) hx hb dX2_holds_231 (by decide +kernel) ?_
                      refine lv_iinc (v := ((if k_a < (((f_cd k_a.toNatClampNeg) &&& 4095) - 1) then (((f_cd k_a.toNatClampNeg) &&& 4095) - 1) else k_a) + 1)) (lv' := [(5, .int ((if k_a < (((f_cd k_a.toNatClampNeg) &&& 4095) - 1) then (((f_cd k_a.toNatClampNeg) &&& 4095) - 1) else k_a) + 1)), (7, .int ((f_cd k_a.toNatClampNeg) &&& 4095)), (6, .int ((f_cd k_a.toNatClampNeg) >>> (12 &&& 31))), (3, .int k_t), (4, .int (f_sr (p_c + 1).toNatClampNeg)), (0, .ref a_j), (1, .ref a_lo), (2, .int p_c)]) hx hb dX2_holds_237 hl (k := 0) rfl rfl (by decide +kernel) rfl ?_
                      clear hl
                      intro ls hl
                      have t_27 : ((if k_a < (((f_cd k_a.toNatClampNeg) &&& 4095) - 1) then (((f_cd k_a.toNatClampNeg) &&& 4095) - 1) else k_a) + 1).toInt = (if k_a < (((f_cd k_a.toNatClampNeg) &&& 4095) - 1) then (((f_cd k_a.toNatClampNeg) &&& 4095) - 1) else k_a).toInt + 1 := g5_iadd (a := (if k_a < (((f_cd k_a.toNatClampNeg) &&& 4095) - 1) then (((f_cd k_a.toNatClampNeg) &&& 4095) - 1) else k_a).toInt) (b := 1) rfl (by decide +kernel) (by omega) (by omega)
                      refine lv_goto (tgt := 20) hx hb dX2_holds_240 (by decide +kernel) ?_
                      exact ih_20_8 (k_t, ((if k_a < (((f_cd k_a.toNatClampNeg) &&& 4095) - 1) then (((f_cd k_a.toNatClampNeg) &&& 4095) - 1) else k_a) + 1), k_k) ls H locs (show Int.toNat (4096 - ((if k_a < (((f_cd k_a.toNatClampNeg) &&& 4095) - 1) then (((f_cd k_a.toNatClampNeg) &&& 4095) - 1) else k_a) + 1).toInt) < Int.toNat (4096 - k_a.toInt) from g_up (show k_a.toInt < ((if k_a < (((f_cd k_a.toNatClampNeg) &&& 4095) - 1) then (((f_cd k_a.toNatClampNeg) &&& 4095) - 1) else k_a) + 1).toInt by omega) (show k_a.toInt < 4096 by omega)) ⟨lv_sub hl [3, 0, 4, 5, 6, 7] rfl, hP, hD, hS, i_4, ⟨by omega, by omega⟩, (i_6).trans (gc_jmp (p := (k_t - 1)) (by omega) (by omega) (by first | omega | (unfold gNe at *; omega)) (by first | omega | (unfold gNe at *; omega)) (by first | omega | (unfold gNe at *; omega)) (by omega) (by omega) (Or.inr ⟨(by first | omega | (unfold gNe at *; omega)), (by first | omega | (unfold gNe at *; omega))⟩) (by omega) (by omega)), by omega⟩
                  ·
                    have i_23 : ((f_cd k_a.toNatClampNeg) >>> (12 &&& 31)).toInt = 11 := g5_neN (a := ((f_cd k_a.toNatClampNeg) >>> (12 &&& 31)).toInt) (b := 11) rfl (by decide +kernel) c_23
                    refine lv_iconst (v := 1) hx hb dX2_holds_212 (by decide +kernel) ?_
                    refine lv_goto (tgt := 217) hx hb dX2_holds_213 (by decide +kernel) ?_
                    refine lv_icmp_ne (tgt := 234) hx hb dX2_holds_217 (by decide +kernel) (fun c_28 => ?_) (fun c_28 => ?_)
                    ·
                      obtain ⟨y29, hy_29, t_29⟩ := g_incN k_t (-1) (by decide +kernel) (by omega) (by omega)
                      have t_29 : y29.toInt = k_t.toInt + (-1) := t_29
                      refine lv_iinc (v := y29) (lv' := [(3, .int y29), (7, .int ((f_cd k_a.toNatClampNeg) &&& 4095)), (6, .int ((f_cd k_a.toNatClampNeg) >>> (12 &&& 31))), (5, .int k_a), (4, .int (f_sr (p_c + 1).toNatClampNeg)), (0, .ref a_j), (1, .ref a_lo), (2, .int p_c)]) hx hb dX2_holds_234 hl (k := 2) rfl hy_29 (by decide +kernel) rfl ?_
                      clear hl
                      intro ls hl
                      refine lv_iinc (v := (k_a + 1)) (lv' := [(5, .int (k_a + 1)), (3, .int y29), (7, .int ((f_cd k_a.toNatClampNeg) &&& 4095)), (6, .int ((f_cd k_a.toNatClampNeg) >>> (12 &&& 31))), (4, .int (f_sr (p_c + 1).toNatClampNeg)), (0, .ref a_j), (1, .ref a_lo), (2, .int p_c)]) hx hb dX2_holds_237 hl (k := 3) rfl rfl (by decide +kernel) rfl ?_
                      clear hl
                      intro ls hl
                      have t_30 : (k_a + 1).toInt = k_a.toInt + 1 := g5_iadd (a := k_a.toInt) (b := 1) rfl (by decide +kernel) (by omega) (by omega)
                      refine lv_goto (tgt := 20) hx hb dX2_holds_240 (by decide +kernel) ?_
                      exact ih_20_8 (y29, (k_a + 1), k_k) ls H locs (show Int.toNat (4096 - (k_a + 1).toInt) < Int.toNat (4096 - k_a.toInt) from g_up (show k_a.toInt < (k_a + 1).toInt by omega) (show k_a.toInt < 4096 by omega)) ⟨lv_sub hl [1, 0, 4, 5, 6, 7] rfl, hP, hD, hS, ⟨by omega, by omega⟩, ⟨by omega, by omega⟩, (i_6).trans (gc_drop (p := (k_t - 1)) (by omega) (by omega) (by first | omega | (unfold gNe at *; omega)) (by first | omega | (unfold gNe at *; omega)) (by first | omega | (unfold gNe at *; omega)) (by omega) (by omega) (Or.inl ⟨(by first | omega | (unfold gNe at *; omega)), (by first | omega | (unfold gNe at *; omega))⟩) (by omega) (by omega)), by omega⟩
                    ·
                      exact absurd c_28 (by decide +kernel)
                ·
                  have n_22 : gNe ((lg_cmp (k_k (k_t - 1).toNatClampNeg) 0).toInt) (0) := g5_eqN (a := (lg_cmp (k_k (k_t - 1).toNatClampNeg) 0).toInt) (b := 0) rfl (by decide +kernel) c_22
                  refine lv_iconst (v := 1) hx hb dX2_holds_200 (by decide +kernel) ?_
                  refine lv_goto (tgt := 205) hx hb dX2_holds_201 (by decide +kernel) ?_
                  refine lv_iload hx hb dX2_holds_205 (lv_at hl 1 rfl) ?_
                  refine lv_bipush (v := 11) hx hb dX2_holds_207 (by decide +kernel) ?_
                  refine W.eq (g2 := F0 m 209 ls [.int 11, .int ((f_cd k_a.toNatClampNeg) >>> (12 &&& 31)), .int 1]) rfl ?_
                  refine lv_icmp_ne (tgt := 216) hx hb dX2_holds_209 (by decide +kernel) (fun c_31 => ?_) (fun c_31 => ?_)
                  ·
                    have n_31 : gNe (((f_cd k_a.toNatClampNeg) >>> (12 &&& 31)).toInt) (11) := g5_ne (a := ((f_cd k_a.toNatClampNeg) >>> (12 &&& 31)).toInt) (b := 11) rfl (by decide +kernel) c_31
                    have i_31 : ((f_cd k_a.toNatClampNeg) >>> (12 &&& 31)).toInt ≥ 12 := by have z := g5_ne (a := ((f_cd k_a.toNatClampNeg) >>> (12 &&& 31)).toInt) (b := 11) (by rfl) (by decide +kernel) c_31; omega
                    refine lv_iconst (v := 0) hx hb dX2_holds_216 (by decide +kernel) ?_
                    refine lv_icmp_ne (tgt := 234) hx hb dX2_holds_217 (by decide +kernel) (fun c_32 => ?_) (fun c_32 => ?_)
                    ·
                      obtain ⟨y33, hy_33, t_33⟩ := g_incN k_t (-1) (by decide +kernel) (by omega) (by omega)
                      have t_33 : y33.toInt = k_t.toInt + (-1) := t_33
                      refine lv_iinc (v := y33) (lv' := [(3, .int y33), (7, .int ((f_cd k_a.toNatClampNeg) &&& 4095)), (6, .int ((f_cd k_a.toNatClampNeg) >>> (12 &&& 31))), (5, .int k_a), (4, .int (f_sr (p_c + 1).toNatClampNeg)), (0, .ref a_j), (1, .ref a_lo), (2, .int p_c)]) hx hb dX2_holds_234 hl (k := 2) rfl hy_33 (by decide +kernel) rfl ?_
                      clear hl
                      intro ls hl
                      refine lv_iinc (v := (k_a + 1)) (lv' := [(5, .int (k_a + 1)), (3, .int y33), (7, .int ((f_cd k_a.toNatClampNeg) &&& 4095)), (6, .int ((f_cd k_a.toNatClampNeg) >>> (12 &&& 31))), (4, .int (f_sr (p_c + 1).toNatClampNeg)), (0, .ref a_j), (1, .ref a_lo), (2, .int p_c)]) hx hb dX2_holds_237 hl (k := 3) rfl rfl (by decide +kernel) rfl ?_
                      clear hl
                      intro ls hl
                      have t_34 : (k_a + 1).toInt = k_a.toInt + 1 := g5_iadd (a := k_a.toInt) (b := 1) rfl (by decide +kernel) (by omega) (by omega)
                      refine lv_goto (tgt := 20) hx hb dX2_holds_240 (by decide +kernel) ?_
                      exact ih_20_8 (y33, (k_a + 1), k_k) ls H locs (show Int.toNat (4096 - (k_a + 1).toInt) < Int.toNat (4096 - k_a.toInt) from g_up (show k_a.toInt < (k_a + 1).toInt by omega) (show k_a.toInt < 4096 by omega)) ⟨lv_sub hl [1, 0, 4, 5, 6, 7] rfl, hP, hD, hS, ⟨by omega, by omega⟩, ⟨by omega, by omega⟩, (i_6).trans (gc_drop (p := (k_t - 1)) (by omega) (by omega) (by first | omega | (unfold gNe at *; omega)) (by first | omega | (unfold gNe at *; omega)) (by first | omega | (unfold gNe at *; omega)) (by omega) (by omega) (Or.inr ⟨(by first | omega | (unfold gNe at *; omega)), (by first | omega | (unfold gNe at *; omega))⟩) (by omega) (by omega)), by omega⟩
                    ·
                      exact absurd c_32 (by decide +kernel)
                  ·
                    have i_31 : ((f_cd k_a.toNatClampNeg) >>> (12 &&& 31)).toInt = 11 := g5_neN (a := ((f_cd k_a.toNatClampNeg) >>> (12 &&& 31)).toInt) (b := 11) rfl (by decide +kernel) c_31
                    refine lv_iconst (v := 1) hx hb dX2_holds_212 (by decide +kernel) ?_
                    refine lv_goto (tgt := 217) hx hb dX2_holds_213 (by decide +kernel) ?_
                    refine lv_icmp_ne (tgt := 234) hx hb dX2_holds_217 (by decide +kernel) (fun c_35 => ?_) (fun c_35 => ?_)
                    ·
                      exact absurd c_35 (by decide +kernel)
                    ·
                      refine lv_iload hx hb dX2_holds_220 (lv_at hl 3 rfl) ?_
                      refine lv_iload hx hb dX2_holds_222 (lv_at hl 0 rfl) ?_
                      refine lv_iconst (v := 1) hx hb dX2_holds_224 (by decide +kernel) ?_
                      refine lv_isub hx hb dX2_holds_225 ?_
                      have t_36 : (((f_cd k_a.toNatClampNeg) &&& 4095) - 1).toInt = ((f_cd k_a.toNatClampNeg) &&& 4095).toInt - 1 := g5_isub (a := ((f_cd k_a.toNatClampNeg) &&& 4095).toInt) (b := 1) (by rfl) (by decide +kernel) (by omega) (by omega)
                      refine W.eq (g2 := F0 m 226 ls [.int (((f_cd k_a.toNatClampNeg) &&& 4095) - 1), .int k_a]) rfl ?_
                      refine va_mmax hx hb (hml.trans hl.1.symm) hown (hts _ ml_X2_51) (hts _ st_Math_maxI) (hts _ ini_Math) (hts _ cd_Math_maxI) (Nat.le_of_ble_eq_true rfl) (by decide +kernel) (Nat.le_of_ble_eq_true rfl) (Nat.le_of_ble_eq_true rfl) dX2_holds_226 ?_
                      have hm_37 := g_maxI k_a (((f_cd k_a.toNatClampNeg) &&& 4095) - 1)
                      refine lv_istore (lv' := [(5, .int (if k_a < (((f_cd k_a.toNatClampNeg) &&& 4095) - 1) then (((f_cd k_a.toNatClampNeg) &&& 4095) - 1) else k_a)), (7, .int ((f_cd k_a.toNatClampNeg) &&& 4095)), (6, .int ((f_cd k_a.toNatClampNeg) >>> (12 &&& 31))), (3, .int k_t), (4, .int (f_sr (p_c + 1).toNatClampNeg)), (0, .ref a_j), (1, .ref a_lo), (2, .int p_c)]) hx hb dX2_holds_229 hl (by decide +kernel) rfl ?_
                      clear hl
                      intro ls hl
                      refine lv_goto (tgt := 237) hx hb dX2_holds_231 (by decide +kernel) ?_
                      refine lv_iinc (v := ((if k_a < (((f_cd k_a.toNatClampNeg) &&& 4095) - 1) then (((f_cd k_a.toNatClampNeg) &&& 4095) - 1) else k_a) + 1)) (lv' := [(5, .int ((if k_a < (((f_cd k_a.toNatClampNeg) &&& 4095) - 1) then (((f_cd k_a.toNatClampNeg) &&& 4095) - 1) else k_a) + 1)), (7, .int ((f_cd k_a.toNatClampNeg) &&& 4095)), (6, .int ((f_cd k_a.toNatClampNeg) >>> (12 &&& 31))), (3, .int k_t), (4, .int (f_sr (p_c + 1).toNatClampNeg)), (0, .ref a_j), (1, .ref a_lo), (2, .int p_c)]) hx hb dX2_holds_237 hl (k := 0) rfl rfl (by decide +kernel) rfl ?_
                      clear hl
                      intro ls hl
                      have t_38 : ((if k_a < (((f_cd k_a.toNatClampNeg) &&& 4095) - 1) then (((f_cd k_a.toNatClampNeg) &&& 4095) - 1) else k_a) + 1).toInt = (if k_a < (((f_cd k_a.toNatClampNeg) &&& 4095) - 1) then (((f_cd k_a.toNatClampNeg) &&& 4095) - 1) else k_a).toInt + 1 := g5_iadd (a := (if k_a < (((f_cd k_a.toNatClampNeg) &&& 4095) - 1) then (((f_cd k_a.toNatClampNeg) &&& 4095) - 1) else k_a).toInt) (b := 1) rfl (by decide +kernel) (by omega) (by omega)
                      refine lv_goto (tgt := 20) hx hb dX2_holds_240 (by decide +kernel) ?_
                      exact ih_20_8 (k_t, ((if k_a < (((f_cd k_a.toNatClampNeg) &&& 4095) - 1) then (((f_cd k_a.toNatClampNeg) &&& 4095) - 1) else k_a) + 1), k_k) ls H locs (show Int.toNat (4096 - ((if k_a < (((f_cd k_a.toNatClampNeg) &&& 4095) - 1) then (((f_cd k_a.toNatClampNeg) &&& 4095) - 1) else k_a) + 1).toInt) < Int.toNat (4096 - k_a.toInt) from g_up (show k_a.toInt < ((if k_a < (((f_cd k_a.toNatClampNeg) &&& 4095) - 1) then (((f_cd k_a.toNatClampNeg) &&& 4095) - 1) else k_a) + 1).toInt by omega) (show k_a.toInt < 4096 by omega)) ⟨lv_sub hl [3, 0, 4, 5, 6, 7] rfl, hP, hD, hS, i_4, ⟨by omega, by omega⟩, (i_6).trans (gc_jmp (p := (k_t - 1)) (by omega) (by omega) (by first | omega | (unfold gNe at *; omega)) (by first | omega | (unfold gNe at *; omega)) (by first | omega | (unfold gNe at *; omega)) (by omega) (by omega) (Or.inl ⟨(by first | omega | (unfold gNe at *; omega)), (by first | omega | (unfold gNe at *; omega))⟩) (by omega) (by omega)), by omega⟩
              ·
                have i_20 : ((f_cd k_a.toNatClampNeg) >>> (12 &&& 31)).toInt = 10 := g5_neN (a := ((f_cd k_a.toNatClampNeg) >>> (12 &&& 31)).toInt) (b := 10) rfl (by decide +kernel) c_20
                obtain ⟨y39, hy_39, t_39⟩ := g_incN k_t (-1) (by decide +kernel) (by omega) (by omega)
                have t_39 : y39.toInt = k_t.toInt + (-1) := t_39
                refine lv_iinc (v := y39) (lv' := [(3, .int y39), (7, .int ((f_cd k_a.toNatClampNeg) &&& 4095)), (6, .int ((f_cd k_a.toNatClampNeg) >>> (12 &&& 31))), (5, .int k_a), (4, .int (f_sr (p_c + 1).toNatClampNeg)), (0, .ref a_j), (1, .ref a_lo), (2, .int p_c)]) hx hb dX2_holds_171 hl (k := 2) rfl hy_39 (by decide +kernel) rfl ?_
                clear hl
                intro ls hl
                refine lv_aload_n hx hb dX2_holds_174 rfl (lv_at hl 5 rfl) ?_
                refine va_get (D := G.1) (ci := 2) (v := .ref a_sk) (C := RX2) (T := TX2) (N := 2) hx hb hts inG_X2 hown hK hP 0 rfl rfl 1 (by decide +kernel) (hts _ fl_X2_15) (fun _ h9 => h9) rfl dX2_holds_175 ?_
                refine lv_iload_n hx hb dX2_holds_178 rfl (lv_at hl 0 rfl) ?_
                refine W.eq (g2 := F0 m 179 ls [.int y39, .ref a_sk]) rfl ?_
                refine va_lald hx hb hK hP 2 1 rfl rfl (i := y39) (vp_in_iff.mpr ⟨by omega, by omega⟩) dX2_holds_179 ?_
                refine lv_lconst (v := 0) hx hb dX2_holds_180 (by decide +kernel) ?_
                refine W.lcmp hx hb dX2_holds_181 ?_
                refine lv_if_ne (tgt := 237) hx hb dX2_holds_182 (by decide +kernel) (fun c_40 => ?_) (fun c_40 => ?_)
                ·
                  have n_40 : gNe ((lg_cmp (k_k y39.toNatClampNeg) 0).toInt) (0) := g5_ne (a := (lg_cmp (k_k y39.toNatClampNeg) 0).toInt) (b := 0) rfl (by decide +kernel) c_40
                  refine lv_iinc (v := (k_a + 1)) (lv' := [(5, .int (k_a + 1)), (3, .int y39), (7, .int ((f_cd k_a.toNatClampNeg) &&& 4095)), (6, .int ((f_cd k_a.toNatClampNeg) >>> (12 &&& 31))), (4, .int (f_sr (p_c + 1).toNatClampNeg)), (0, .ref a_j), (1, .ref a_lo), (2, .int p_c)]) hx hb dX2_holds_237 hl (k := 3) rfl rfl (by decide +kernel) rfl ?_
                  clear hl
                  intro ls hl
                  have t_41 : (k_a + 1).toInt = k_a.toInt + 1 := g5_iadd (a := k_a.toInt) (b := 1) rfl (by decide +kernel) (by omega) (by omega)
                  refine lv_goto (tgt := 20) hx hb dX2_holds_240 (by decide +kernel) ?_
                  exact ih_20_8 (y39, (k_a + 1), k_k) ls H locs (show Int.toNat (4096 - (k_a + 1).toInt) < Int.toNat (4096 - k_a.toInt) from g_up (show k_a.toInt < (k_a + 1).toInt by omega) (show k_a.toInt < 4096 by omega)) ⟨lv_sub hl [1, 0, 4, 5, 6, 7] rfl, hP, hD, hS, ⟨by omega, by omega⟩, ⟨by omega, by omega⟩, (i_6).trans (gc_if1 (p := y39) (by omega) (by omega) (by first | omega | (unfold gNe at *; omega)) (by omega) (by omega) (by first | omega | (unfold gNe at *; omega)) (by omega) (by omega)), by omega⟩
                ·
                  have i_40 : (lg_cmp (k_k y39.toNatClampNeg) 0).toInt = 0 := g5_neN (a := (lg_cmp (k_k y39.toNatClampNeg) 0).toInt) (b := 0) rfl (by decide +kernel) c_40
                  refine lv_iconst (v := 0) hx hb dX2_holds_185 (by decide +kernel) ?_
                  exact W.zret (v := 0) hx hb hr rfl (fun t ht hW => ⟨⟨0, [(a_j, (oc2 a_as a_sk)), (a_as, (arI G 8 f_as)), (a_sk, (arJ G 50 k_k)), (a_lo, (oc3 e_cl a_hd a_sr a_cd)), (a_sr, (arI G n_sr f_sr)), (a_cd, (arI G n_cd f_cd))], rfl, Or.inr (⟨k_k, hc_0 (z := 0) (by decide +kernel) e_cc e_l5 (i_6.trans (gc_if0 (p := y39) (by omega) (by omega) (by first | omega | (unfold gNe at *; omega)) (by omega) (by omega) (by omega))), rfl, rfl⟩), by rw [ht]; exact hP.sub [0, 1, 2, 3, 4, 5] rfl, hD.sub [0, 1, 2, 3, 4, 5] (by decide +kernel) rfl⟩, hS.F ht⟩) hS.2.2 dX2_holds_186
            ·
              have i_19 : ((f_cd k_a.toNatClampNeg) >>> (12 &&& 31)).toInt = 9 := g5_neN (a := ((f_cd k_a.toNatClampNeg) >>> (12 &&& 31)).toInt) (b := 9) rfl (by decide +kernel) c_19
              refine lv_aload_n hx hb dX2_holds_143 rfl (lv_at hl 5 rfl) ?_
              refine va_get (D := G.1) (ci := 2) (v := .ref a_sk) (C := RX2) (T := TX2) (N := 2) hx hb hts inG_X2 hown hK hP 0 rfl rfl 1 (by decide +kernel) (hts _ fl_X2_15) (fun _ h9 => h9) rfl dX2_holds_144 ?_
              refine lv_iload_n hx hb dX2_holds_147 rfl (lv_at hl 2 rfl) ?_
              refine lv_iconst (v := 1) hx hb dX2_holds_148 (by decide +kernel) ?_
              refine W.eq (g2 := F0 m 149 ls [.int 1, .int k_t, .ref a_sk]) rfl ?_
              refine lv_isub hx hb dX2_holds_149 ?_
              have t_42 : (k_t - 1).toInt = k_t.toInt - 1 := g5_isub (a := k_t.toInt) (b := 1) (by rfl) (by decide +kernel) (by omega) (by omega)
              refine lv_lconst (v := 1) hx hb dX2_holds_150 (by decide +kernel) ?_
              refine lv_aload_n hx hb dX2_holds_151 rfl (lv_at hl 5 rfl) ?_
              refine va_get (D := G.1) (ci := 2) (v := .ref a_sk) (C := RX2) (T := TX2) (N := 2) hx hb hts inG_X2 hown hK hP 0 rfl rfl 1 (by decide +kernel) (hts _ fl_X2_15) (fun _ h9 => h9) rfl dX2_holds_152 ?_
              refine lv_iload_n hx hb dX2_holds_155 rfl (lv_at hl 2 rfl) ?_
              refine W.eq (g2 := F0 m 156 ls [.int k_t, .ref a_sk, .long 1, .int (k_t - 1), .ref a_sk]) rfl ?_
              refine lv_iconst (v := 1) hx hb dX2_holds_156 (by decide +kernel) ?_
              refine lv_isub hx hb dX2_holds_157 ?_
              have t_43 : (k_t - 1).toInt = k_t.toInt - 1 := g5_isub (a := k_t.toInt) (b := 1) (by rfl) (by decide +kernel) (by omega) (by omega)
              refine va_lald hx hb hK hP 2 1 rfl rfl (i := (k_t - 1)) (vp_in_iff.mpr ⟨by omega, by omega⟩) dX2_holds_158 ?_
              refine lv_lsub hx hb dX2_holds_159 ?_
              refine va_last hx hb hK hP hD hS 2 1 rfl rfl (i := (k_t - 1)) (x := (1 - (k_k (k_t - 1).toNatClampNeg))) (vp_in_iff.mpr ⟨by omega, by omega⟩) dX2_holds_160 ?_
              clear hP hD hS
              intro H locs hP hD hS
              refine g5_rs [(a_j, (oc2 a_as a_sk)), (a_as, (arI G 8 f_as)), (a_sk, (arJ G 50 (vp_updL k_k (k_t - 1).toNatClampNeg (1 - (k_k (k_t - 1).toNatClampNeg))))), (a_lo, (oc3 e_cl a_hd a_sr a_cd)), (a_sr, (arI G n_sr f_sr)), (a_cd, (arI G n_cd f_cd))] hP hD ?_
              clear hP hD
              intro hP hD
              refine W.eq (g2 := F0 m 161 ls []) rfl ?_
              refine lv_goto (tgt := 237) hx hb dX2_holds_161 (by decide +kernel) ?_
              refine lv_iinc (v := (k_a + 1)) (lv' := [(5, .int (k_a + 1)), (7, .int ((f_cd k_a.toNatClampNeg) &&& 4095)), (6, .int ((f_cd k_a.toNatClampNeg) >>> (12 &&& 31))), (3, .int k_t), (4, .int (f_sr (p_c + 1).toNatClampNeg)), (0, .ref a_j), (1, .ref a_lo), (2, .int p_c)]) hx hb dX2_holds_237 hl (k := 3) rfl rfl (by decide +kernel) rfl ?_
              clear hl
              intro ls hl
              have t_44 : (k_a + 1).toInt = k_a.toInt + 1 := g5_iadd (a := k_a.toInt) (b := 1) rfl (by decide +kernel) (by omega) (by omega)
              refine lv_goto (tgt := 20) hx hb dX2_holds_240 (by decide +kernel) ?_
              exact ih_20_8 (k_t, (k_a + 1), (vp_updL k_k (k_t - 1).toNatClampNeg (1 - (k_k (k_t - 1).toNatClampNeg)))) ls H locs (show Int.toNat (4096 - (k_a + 1).toInt) < Int.toNat (4096 - k_a.toInt) from g_up (show k_a.toInt < (k_a + 1).toInt by omega) (show k_a.toInt < 4096 by omega)) ⟨lv_sub hl [3, 0, 4, 5, 6, 7] rfl, hP, hD, hS, i_4, ⟨by omega, by omega⟩, (i_6).trans (gc_not (by omega) (by omega) (by first | omega | (unfold gNe at *; omega)) (by omega) (by omega) (by omega) rfl), by omega⟩
          ·
            have i_18 : k_t.toInt < 1 := g5_geN (a := k_t.toInt) (b := 1) rfl (by decide +kernel) c_18
            refine lv_iconst (v := 0) hx hb dX2_holds_134 (by decide +kernel) ?_
            exact W.zret (v := 0) hx hb hr rfl (fun t ht hW => ⟨⟨0, [(a_j, (oc2 a_as a_sk)), (a_as, (arI G 8 f_as)), (a_sk, (arJ G 50 k_k)), (a_lo, (oc3 e_cl a_hd a_sr a_cd)), (a_sr, (arI G n_sr f_sr)), (a_cd, (arI G n_cd f_cd))], rfl, Or.inr (⟨k_k, hc_0 (z := 0) (by decide +kernel) e_cc e_l5 (i_6.trans (gc_few (by omega) ⟨by omega, by omega⟩ (by omega) (by omega))), rfl, rfl⟩), by rw [ht]; exact hP.sub [0, 1, 2, 3, 4, 5] rfl, hD.sub [0, 1, 2, 3, 4, 5] (by decide +kernel) rfl⟩, hS.F ht⟩) hS.2.2 dX2_holds_135
        ·
          have i_17 : ((f_cd k_a.toNatClampNeg) >>> (12 &&& 31)).toInt ≤ 8 := g5_gtN (a := ((f_cd k_a.toNatClampNeg) >>> (12 &&& 31)).toInt) (b := 8) rfl (by decide +kernel) c_17
          obtain ⟨y45, hy_45, t_45⟩ := g_incN k_t (-1) (by decide +kernel) (by omega) (by omega)
          have t_45 : y45.toInt = k_t.toInt + (-1) := t_45
          refine lv_iinc (v := y45) (lv' := [(3, .int y45), (7, .int ((f_cd k_a.toNatClampNeg) &&& 4095)), (6, .int ((f_cd k_a.toNatClampNeg) >>> (12 &&& 31))), (5, .int k_a), (4, .int (f_sr (p_c + 1).toNatClampNeg)), (0, .ref a_j), (1, .ref a_lo), (2, .int p_c)]) hx hb dX2_holds_112 hl (k := 2) rfl hy_45 (by decide +kernel) rfl ?_
          clear hl
          intro ls hl
          refine lv_aload_n hx hb dX2_holds_115 rfl (lv_at hl 5 rfl) ?_
          refine lv_iload hx hb dX2_holds_116 (lv_at hl 2 rfl) ?_
          refine lv_iload_n hx hb dX2_holds_118 rfl (lv_at hl 0 rfl) ?_
          refine W.eq (g2 := F0 m 119 ls [.int y45, .int ((f_cd k_a.toNatClampNeg) >>> (12 &&& 31)), .ref a_j]) rfl ?_
          refine lv_iconst (v := 1) hx hb dX2_holds_119 (by decide +kernel) ?_
          refine lv_isub hx hb dX2_holds_120 ?_
          have t_46 : (y45 - 1).toInt = y45.toInt - 1 := g5_isub (a := y45.toInt) (b := 1) (by rfl) (by decide +kernel) (by omega) (by omega)
          obtain ⟨hPc, hDc, hFc⟩ := g5_sub3 (wc := [(a_j, (oc2 a_as a_sk)), (a_sk, (arJ G 50 k_k))]) hP hD hS hA [0, 2] (by decide +kernel) rfl
          refine va_calli (va_runV (As := [.int ((f_cd k_a.toNatClampNeg) >>> (12 &&& 31)), .int (y45 - 1)]) (rest := []) ⟨hx, hb, hml, hown, hts⟩ (j_combineX l G a_j a_sk a_as H.size ((f_cd k_a.toNatClampNeg) >>> (12 &&& 31)) (y45 - 1) k_k ⟨by omega, by omega⟩) (cwV 2 hts gV_X2_47 rfl rfl rfl hv_X2_combine ⟨Nat.le_of_ble_eq_true rfl, Nat.le_of_ble_eq_true rfl⟩) (g5_preV hPc hK hDc hN hT hS hFc (ci := 2) (q0 := 0) rfl rfl) rfl rfl hl.1 rfl (lv_room (Nat.le_of_ble_eq_true rfl)) dX2_holds_121 ⟨Nat.le_of_ble_eq_true rfl, Nat.le_of_ble_eq_true rfl⟩) hS (fun q _ h => hFc q h) hFc (fun r u t H locs ht hvm hw hB hz1 hk1 hS => ?_)
          obtain ⟨hP1, hD1⟩ := hB
          have hP1 := g5_ht ht hP1
          rcases hw with ⟨z48, (i_47 : 0 ≤ (y45 - 1).toInt ∧ ∃ v : Int64, bo (bop ((f_cd k_a.toNatClampNeg) >>> (12 &&& 31)).toInt) (k_k (y45 - 1).toNatClampNeg) (k_k ((y45 - 1) + 1).toNatClampNeg) = some v ∧ z48 = vp_updL k_k (y45 - 1).toNatClampNeg v), rfl, rfl⟩ | ⟨z50, (i_49 : (y45 - 1).toInt < 0 ∨ bo (bop ((f_cd k_a.toNatClampNeg) >>> (12 &&& 31)).toInt) (k_k (y45 - 1).toNatClampNeg) (k_k ((y45 - 1) + 1).toNatClampNeg) = none), rfl, rfl⟩
          ·
            have hJ9 := va_join (wr := [(a_as, (arI G 8 f_as)), (a_lo, (oc3 e_cl a_hd a_sr a_cd)), (a_sr, (arI G n_sr f_sr)), (a_cd, (arI G n_cd f_cd))]) hP hD [0, 2] [1, 3, 4, 5] rfl rfl (by decide +kernel) (by decide +kernel) hk1 hFc hP1 hD1
            clear hP hD hPc hDc hFc ht hvm hz1 hk1 hP1 hD1
            obtain ⟨hP, hD⟩ := hJ9
            refine g5_rs [(a_as, (arI G 8 f_as)), (a_lo, (oc3 e_cl a_hd a_sr a_cd)), (a_sr, (arI G n_sr f_sr)), (a_cd, (arI G n_cd f_cd)), (a_j, (oc2 a_as a_sk)), (a_sk, (arJ G 50 z48))] hP hD ?_
            clear hP hD
            intro hP hD
            refine lv_if_ne (tgt := 237) hx hb dX2_holds_124 (by decide +kernel) (fun c_51 => ?_) (fun c_51 => ?_)
            ·
              refine lv_iinc (v := (k_a + 1)) (lv' := [(5, .int (k_a + 1)), (3, .int y45), (7, .int ((f_cd k_a.toNatClampNeg) &&& 4095)), (6, .int ((f_cd k_a.toNatClampNeg) >>> (12 &&& 31))), (4, .int (f_sr (p_c + 1).toNatClampNeg)), (0, .ref a_j), (1, .ref a_lo), (2, .int p_c)]) hx hb dX2_holds_237 hl (k := 3) rfl rfl (by decide +kernel) rfl ?_
              clear hl
              intro ls hl
              have t_52 : (k_a + 1).toInt = k_a.toInt + 1 := g5_iadd (a := k_a.toInt) (b := 1) rfl (by decide +kernel) (by omega) (by omega)
              refine lv_goto (tgt := 20) hx hb dX2_holds_240 (by decide +kernel) ?_
              exact ih_20_8 (y45, (k_a + 1), z48) ls H locs (show Int.toNat (4096 - (k_a + 1).toInt) < Int.toNat (4096 - k_a.toInt) from g_up (show k_a.toInt < (k_a + 1).toInt by omega) (show k_a.toInt < 4096 by omega)) ⟨lv_sub hl [1, 0, 4, 5, 6, 7] rfl, hP.sub [4, 0, 5, 1, 2, 3] rfl, hD.sub [4, 0, 5, 1, 2, 3] (by decide +kernel) rfl, hS, ⟨by omega, by omega⟩, ⟨by omega, by omega⟩, by obtain ⟨q8, v9, q9, q7⟩ := i_47; exact (i_6).trans (gc_bin1 (by omega) (by omega) (by first | omega | (unfold gNe at *; omega)) (by first | omega | (unfold gNe at *; omega)) (by first | omega | (unfold gNe at *; omega)) q8 (by omega) (g5_iadd rfl (by decide +kernel) (by omega) (by omega)) q9 (by omega) (by omega) q7), by omega⟩
            ·
              exact absurd c_51 (by decide +kernel)
          ·
            have hJ9 := va_join (wr := [(a_as, (arI G 8 f_as)), (a_lo, (oc3 e_cl a_hd a_sr a_cd)), (a_sr, (arI G n_sr f_sr)), (a_cd, (arI G n_cd f_cd))]) hP hD [0, 2] [1, 3, 4, 5] rfl rfl (by decide +kernel) (by decide +kernel) hk1 hFc hP1 hD1
            clear hP hD hPc hDc hFc ht hvm hz1 hk1 hP1 hD1
            obtain ⟨hP, hD⟩ := hJ9
            refine g5_rs [(a_as, (arI G 8 f_as)), (a_lo, (oc3 e_cl a_hd a_sr a_cd)), (a_sr, (arI G n_sr f_sr)), (a_cd, (arI G n_cd f_cd)), (a_j, (oc2 a_as a_sk)), (a_sk, (arJ G 50 z50))] hP hD ?_
            clear hP hD
            intro hP hD
            refine lv_if_ne (tgt := 237) hx hb dX2_holds_124 (by decide +kernel) (fun c_53 => ?_) (fun c_53 => ?_)
            ·
              exact absurd c_53 (by decide +kernel)
            ·
              refine lv_iconst (v := 0) hx hb dX2_holds_127 (by decide +kernel) ?_
              exact W.zret (v := 0) hx hb hr rfl (fun t ht hW => ⟨⟨0, [(a_j, (oc2 a_as a_sk)), (a_as, (arI G 8 f_as)), (a_sk, (arJ G 50 z50)), (a_lo, (oc3 e_cl a_hd a_sr a_cd)), (a_sr, (arI G n_sr f_sr)), (a_cd, (arI G n_cd f_cd))], rfl, Or.inr (⟨z50, hc_0 (z := 0) (by decide +kernel) e_cc e_l5 (i_6.trans (gc_bin0 (by omega) ⟨by omega, by omega⟩ (by first | omega | (unfold gNe at *; omega)) (by first | omega | (unfold gNe at *; omega)) (by first | omega | (unfold gNe at *; omega)) (by omega) (g5_iadd rfl (by decide +kernel) (by omega) (by omega)) i_49)), rfl, rfl⟩), by rw [ht]; exact hP.sub [4, 0, 5, 1, 2, 3] rfl, hD.sub [4, 0, 5, 1, 2, 3] (by decide +kernel) rfl⟩, hS.F ht⟩) hS.2.2 dX2_holds_128
      ·
        have i_16 : ((f_cd k_a.toNatClampNeg) >>> (12 &&& 31)).toInt = 1 := g5_neN (a := ((f_cd k_a.toNatClampNeg) >>> (12 &&& 31)).toInt) (b := 1) rfl (by decide +kernel) c_16
        refine lv_iload_n hx hb dX2_holds_63 rfl (lv_at hl 2 rfl) ?_
        refine lv_aload_n hx hb dX2_holds_64 rfl (lv_at hl 5 rfl) ?_
        refine va_get (D := G.1) (ci := 2) (v := .ref a_sk) (C := RX2) (T := TX2) (N := 2) hx hb hts inG_X2 hown hK hP 0 rfl rfl 1 (by decide +kernel) (hts _ fl_X2_15) (fun _ h9 => h9) rfl dX2_holds_65 ?_
        refine va_alen hx hb hK hP 2 1 rfl rfl (v := 50) (by show Int32.ofNat 50 = 50; decide) dX2_holds_68 ?_
        refine W.eq (g2 := F0 m 69 ls [.int 50, .int k_t]) rfl ?_
        refine lv_icmp_lt (tgt := 74) hx hb dX2_holds_69 (by decide +kernel) (fun c_54 => ?_) (fun c_54 => ?_)
        ·
          have i_54 : k_t.toInt < 50 := g5_lt (a := k_t.toInt) (b := 50) rfl (by decide +kernel) c_54
          refine lv_aload_n hx hb dX2_holds_74 rfl (lv_at hl 5 rfl) ?_
          refine va_get (D := G.1) (ci := 2) (v := .ref a_sk) (C := RX2) (T := TX2) (N := 2) hx hb hts inG_X2 hown hK hP 0 rfl rfl 1 (by decide +kernel) (hts _ fl_X2_15) (fun _ h9 => h9) rfl dX2_holds_75 ?_
          refine lv_iload_n hx hb dX2_holds_78 rfl (lv_at hl 2 rfl) ?_
          refine lv_iload hx hb dX2_holds_79 (lv_at hl 1 rfl) ?_
          refine W.eq (g2 := F0 m 81 ls [.int ((f_cd k_a.toNatClampNeg) >>> (12 &&& 31)), .int k_t, .ref a_sk]) rfl ?_
          refine lv_if_ne (tgt := 90) hx hb dX2_holds_81 (by decide +kernel) (fun c_55 => ?_) (fun c_55 => ?_)
          ·
            have n_55 : gNe (((f_cd k_a.toNatClampNeg) >>> (12 &&& 31)).toInt) (0) := g5_ne (a := ((f_cd k_a.toNatClampNeg) >>> (12 &&& 31)).toInt) (b := 0) rfl (by decide +kernel) c_55
            refine lv_aload_n hx hb dX2_holds_90 rfl (lv_at hl 5 rfl) ?_
            refine va_get (D := G.1) (ci := 2) (v := .ref a_as) (C := RX2) (T := TX2) (N := 2) hx hb hts inG_X2 hown hK hP 0 rfl rfl 0 (by decide +kernel) (hts _ fl_X2_9) (fun _ h9 => h9) rfl dX2_holds_91 ?_
            refine lv_iload hx hb dX2_holds_94 (lv_at hl 0 rfl) ?_
            have hw_56 : ((f_cd k_a.toNatClampNeg) &&& 4095).toInt < 8 := e_hk _ (by have zz := g5_clamp k_a; omega) (by omega)
            refine va_iald hx hb hK hP 1 0 rfl rfl (i := ((f_cd k_a.toNatClampNeg) &&& 4095)) (vp_in_iff.mpr ⟨by omega, by omega⟩) dX2_holds_96 ?_
            refine W.eq (g2 := F0 m 97 ls [.int (f_as ((f_cd k_a.toNatClampNeg) &&& 4095).toNatClampNeg), .int k_t, .ref a_sk]) rfl ?_
            refine lv_i2l (v := (f_as ((f_cd k_a.toNatClampNeg) &&& 4095).toNatClampNeg).toInt64) hx hb dX2_holds_97 rfl ?_
            refine va_last hx hb hK hP hD hS 2 1 rfl rfl (i := k_t) (x := (f_as ((f_cd k_a.toNatClampNeg) &&& 4095).toNatClampNeg).toInt64) (vp_in_iff.mpr ⟨by omega, by omega⟩) dX2_holds_98 ?_
            clear hP hD hS
            intro H locs hP hD hS
            refine g5_rs [(a_j, (oc2 a_as a_sk)), (a_as, (arI G 8 f_as)), (a_sk, (arJ G 50 (vp_updL k_k k_t.toNatClampNeg ((f_as ((f_cd k_a.toNatClampNeg) &&& 4095).toNatClampNeg).toInt64)))), (a_lo, (oc3 e_cl a_hd a_sr a_cd)), (a_sr, (arI G n_sr f_sr)), (a_cd, (arI G n_cd f_cd))] hP hD ?_
            clear hP hD
            intro hP hD
            refine lv_iinc (v := (k_t + 1)) (lv' := [(3, .int (k_t + 1)), (7, .int ((f_cd k_a.toNatClampNeg) &&& 4095)), (6, .int ((f_cd k_a.toNatClampNeg) >>> (12 &&& 31))), (5, .int k_a), (4, .int (f_sr (p_c + 1).toNatClampNeg)), (0, .ref a_j), (1, .ref a_lo), (2, .int p_c)]) hx hb dX2_holds_99 hl (k := 2) rfl rfl (by decide +kernel) rfl ?_
            clear hl
            intro ls hl
            have t_57 : (k_t + 1).toInt = k_t.toInt + 1 := g5_iadd (a := k_t.toInt) (b := 1) rfl (by decide +kernel) (by omega) (by omega)
            refine lv_goto (tgt := 237) hx hb dX2_holds_102 (by decide +kernel) ?_
            refine lv_iinc (v := (k_a + 1)) (lv' := [(5, .int (k_a + 1)), (3, .int (k_t + 1)), (7, .int ((f_cd k_a.toNatClampNeg) &&& 4095)), (6, .int ((f_cd k_a.toNatClampNeg) >>> (12 &&& 31))), (4, .int (f_sr (p_c + 1).toNatClampNeg)), (0, .ref a_j), (1, .ref a_lo), (2, .int p_c)]) hx hb dX2_holds_237 hl (k := 3) rfl rfl (by decide +kernel) rfl ?_
            clear hl
            intro ls hl
            have t_58 : (k_a + 1).toInt = k_a.toInt + 1 := g5_iadd (a := k_a.toInt) (b := 1) rfl (by decide +kernel) (by omega) (by omega)
            refine W.eq (g2 := F0 m 240 ls []) rfl ?_
            refine lv_goto (tgt := 20) hx hb dX2_holds_240 (by decide +kernel) ?_
            exact ih_20_8 ((k_t + 1), (k_a + 1), (vp_updL k_k k_t.toNatClampNeg ((f_as ((f_cd k_a.toNatClampNeg) &&& 4095).toNatClampNeg).toInt64))) ls H locs (show Int.toNat (4096 - (k_a + 1).toInt) < Int.toNat (4096 - k_a.toInt) from g_up (show k_a.toInt < (k_a + 1).toInt by omega) (show k_a.toInt < 4096 by omega)) ⟨lv_sub hl [1, 0, 4, 5, 6, 7] rfl, hP, hD, hS, ⟨by omega, by omega⟩, ⟨by omega, by omega⟩, (i_6).trans (gc_word e_gq (by omega) ⟨by omega, by omega⟩ (by first | omega | (unfold gNe at *; omega)) ⟨by omega, by omega⟩ (by omega) (by omega) (by omega) rfl), by omega⟩
          ·
            have i_55 : ((f_cd k_a.toNatClampNeg) >>> (12 &&& 31)).toInt = 0 := g5_neN (a := ((f_cd k_a.toNatClampNeg) >>> (12 &&& 31)).toInt) (b := 0) rfl (by decide +kernel) c_55
            omega
        ·
          have i_54 : k_t.toInt ≥ 50 := g5_ltN (a := k_t.toInt) (b := 50) rfl (by decide +kernel) c_54
          have hw_59 := e_hk k_a.toNatClampNeg (by have zz := g5_clamp k_a; omega) (by omega)
          refine lv_iconst (v := 0) hx hb dX2_holds_72 (by decide +kernel) ?_
          exact W.zret (v := 0) hx hb hr rfl (fun t ht hW => ⟨⟨0, [(a_j, (oc2 a_as a_sk)), (a_as, (arI G 8 f_as)), (a_sk, (arJ G 50 k_k)), (a_lo, (oc3 e_cl a_hd a_sr a_cd)), (a_sr, (arI G n_sr f_sr)), (a_cd, (arI G n_cd f_cd))], rfl, Or.inr (⟨k_k, hc_0 (z := 0) (by decide +kernel) e_cc e_l5 (i_6.trans (gc_full (by omega) ⟨by omega, by omega⟩ (Or.inr ⟨by omega, by omega, by omega⟩) (by omega))), rfl, rfl⟩), by rw [ht]; exact hP.sub [0, 1, 2, 3, 4, 5] rfl, hD.sub [0, 1, 2, 3, 4, 5] (by decide +kernel) rfl⟩, hS.F ht⟩) hS.2.2 dX2_holds_73
set_option maxHeartbeats 4000000 in
set_option maxRecDepth 100000 in
theorem j_isHeldX (l : Launch) (G : g5_G) (a_j a_as a_sk a_lo a_sr a_cd a_hd : Nat) (sz : Nat) (p_h : Int32) (e_cl : Int32) (f_as : Nat → Int32) (f_sk : Nat → Int64) (f_sr : Nat → Int32) (f_cd : Nat → Int32) (f_hd : Nat → Int32) (g_q : Nat → Int64) (g_L : List CLT) (n_sr : Nat) (n_cd : Nat) (n_hd : Nat) (h_e_cl : 0 ≤ e_cl.toInt ∧ e_cl.toInt ≤ 12) (e_hn : n_cd ≤ 400) (e_hs : ∀ j : Nat, j < n_sr → 0 ≤ (f_sr j).toInt ∧ (f_sr j).toInt ≤ (n_cd : Int)) (e_hk : ∀ j : Nat, j < n_cd → (f_cd j >>> (12 &&& 31)).toInt = 1 → (f_cd j &&& 4095).toInt < 8) (e_c : (e_cl.toInt : Int) ≤ (n_hd : Int) ∧ (e_cl.toInt + 1 : Int) ≤ (n_sr : Int)) (e_gq : ∀ j : Nat, j < 8 → g_q j = (f_as j).toInt64) (e_lw : LWC f_hd f_sr f_cd g_L e_cl.toInt.toNat) (e_lv : lvC f_cd n_cd ≤ 50) : Met l yX2_isHeld (wsG yX2_isHeld cX2_isHeld 4 (some .boolean)) ({ frames := 2, cells := 0, slots := 0, locals := 55 }) (va_Pc [.ref a_j, .ref a_lo, .int p_h] (g5_P G [(a_j, (oc2 a_as a_sk)), (a_as, (arI G 8 f_as)), (a_sk, (arJ G 50 f_sk)), (a_lo, (oc3 e_cl a_hd a_sr a_cd)), (a_sr, (arI G n_sr f_sr)), (a_cd, (arI G n_cd f_cd)), (a_hd, (arI G n_hd f_hd))] sz)) (va_Qi (fun (r : Int32) (u : va_W) => (∃ (o_k : Nat → Int64), (∃ v : Int64, toldX g_L p_h.toInt g_q = some v ∧ (p_h.toInt < 2 → o_k 0 = v)) ∧ (r = 1) ∧ (u = [(a_j, (oc2 a_as a_sk)), (a_as, (arI G 8 f_as)), (a_sk, (arJ G 50 o_k)), (a_lo, (oc3 e_cl a_hd a_sr a_cd)), (a_sr, (arI G n_sr f_sr)), (a_cd, (arI G n_cd f_cd)), (a_hd, (arI G n_hd f_hd))])) ∨ (∃ (o_k : Nat → Int64), (toldX g_L p_h.toInt g_q = none) ∧ (r = 0) ∧ (u = [(a_j, (oc2 a_as a_sk)), (a_as, (arI G 8 f_as)), (a_sk, (arJ G 50 o_k)), (a_lo, (oc3 e_cl a_hd a_sr a_cd)), (a_sr, (arI G n_sr f_sr)), (a_cd, (arI G n_cd f_cd)), (a_hd, (arI G n_hd f_hd))]))) (g5_B G (va_A [(a_j, (oc2 a_as a_sk)), (a_as, (arI G 8 f_as)), (a_sk, (arJ G 50 f_sk)), (a_lo, (oc3 e_cl a_hd a_sr a_cd)), (a_sr, (arI G n_sr f_sr)), (a_cd, (arI G n_cd f_cd)), (a_hd, (arI G n_hd f_hd))] sz)) (va_A [(a_j, (oc2 a_as a_sk)), (a_as, (arI G 8 f_as)), (a_sk, (arJ G 50 f_sk)), (a_lo, (oc3 e_cl a_hd a_sr a_cd)), (a_sr, (arI G n_sr f_sr)), (a_cd, (arI G n_cd f_cd)), (a_hd, (arI G n_hd f_hd))] sz)) 0 0 (va_A [(a_j, (oc2 a_as a_sk)), (a_as, (arI G 8 f_as)), (a_sk, (arJ G 50 f_sk)), (a_lo, (oc3 e_cl a_hd a_sr a_cd)), (a_sr, (arI G n_sr f_sr)), (a_cd, (arI G n_cd f_cd)), (a_hd, (arI G n_hd f_hd))] sz) := by
  refine Met.ofW (cc := cX2_isHeld) (maxL := 4) (ret := (some .boolean)) (by decide +kernel) rfl ?_
  intro p e s m args below meth c s₁ B hml hv
  obtain ⟨rfl, hsz, hP, hK, hD0, hN, hT⟩ := hv
  have hx := B.exec
  have hb := B.bytes
  have hr := B.returns
  have hts : ∀ w ∈ tblG, w.before _ s = true := fun w h => atoms_spec (ws := (wsG yX2_isHeld cX2_isHeld 4 (some .boolean))) B.pre w (List.mem_cons_of_mem _ h)
  have hown : s.vm.findClass RX2 = some m.cls := findClass_of_methodNamed B.named
  have hlocks := B.notSynchronized
  subst hsz
  have hD := hD0.self (sz := s.heap.size)
  generalize hAe : va_A [(a_j, (oc2 a_as a_sk)), (a_as, (arI G 8 f_as)), (a_sk, (arJ G 50 f_sk)), (a_lo, (oc3 e_cl a_hd a_sr a_cd)), (a_sr, (arI G n_sr f_sr)), (a_cd, (arI G n_cd f_cd)), (a_hd, (arI G n_hd f_hd))] s.heap.size = A at hD hT ⊢
  have hA : ∀ q : Nat, s.heap.size ≤ q → A q := fun q h => by rw [← hAe]; exact Or.inr h
  have hS : va_S A s.heap s.heap [] := va_S.rf
  replace hP : va_P G.1 vwCl [(a_j, (oc2 a_as a_sk)), (a_as, (arI G 8 f_as)), (a_sk, (arJ G 50 f_sk)), (a_lo, (oc3 e_cl a_hd a_sr a_cd)), (a_sr, (arI G n_sr f_sr)), (a_cd, (arI G n_cd f_cd)), (a_hd, (arI G n_hd f_hd))] s.heap := hP
  have hl := lv_entry ([.ref a_j, .ref a_lo, .int p_h]) (n := 4) (Nat.le_of_ble_eq_true rfl)
  rw [lg_entry_eq]
  generalize (lg_sl ([.ref a_j, .ref a_lo, .int p_h]) ++ List.replicate (4 - (lg_sl ([.ref a_j, .ref a_lo, .int p_h])).length) Slot.unset).toArray = ls at hl ⊢
  replace hl : lv_has ls 4 [(0, .ref a_j), (1, .ref a_lo), (2, .int p_h)] := hl
  have hln := e_lw.1
  refine lv_aload_n hx hb dX2_isHeld_0 rfl (lv_at hl 1 rfl) ?_
  refine lv_ifnonnull (tgt := 6) hx hb dX2_isHeld_1 (by decide +kernel) ?_
  refine lv_aload_n hx hb dX2_isHeld_6 rfl (lv_at hl 1 rfl) ?_
  refine va_get (D := G.1) (ci := 3) (v := .int e_cl) (C := RX3) (T := TX3) (N := 4) hx hb hts inG_X3 hown hK hP 3 rfl rfl 0 (by decide +kernel) (hts _ fl_X2_19) (fun _ h9 => h9) rfl dX2_isHeld_7 ?_
  refine W.eq (g2 := F0 m 10 ls [.int e_cl]) rfl ?_
  refine lv_iconst (v := 1) hx hb dX2_isHeld_10 (by decide +kernel) ?_
  refine lv_isub hx hb dX2_isHeld_11 ?_
  have t_1 : (e_cl - 1).toInt = e_cl.toInt - 1 := g5_isub (a := e_cl.toInt) (b := 1) (by rfl) (by decide +kernel) (by omega) (by omega)
  refine lv_istore_n (lv' := [(3, .int (e_cl - 1)), (0, .ref a_j), (1, .ref a_lo), (2, .int p_h)]) hx hb dX2_isHeld_12 rfl hl (by decide +kernel) rfl ?_
  clear hl
  intro ls hl
  refine g5_loop (α := (Int32) × (Nat → Int64)) (fun (q : (Int32) × (Nat → Int64)) (ls : Array Slot) (H : Heap) (locs : List Loc) => match q with | (k_c, k_k) => lv_has ls 4 [(3, .int k_c), (0, .ref a_j), (1, .ref a_lo), (2, .int p_h)] ∧ va_P G.1 vwCl [(a_j, (oc2 a_as a_sk)), (a_as, (arI G 8 f_as)), (a_sk, (arJ G 50 k_k)), (a_lo, (oc3 e_cl a_hd a_sr a_cd)), (a_sr, (arI G n_sr f_sr)), (a_cd, (arI G n_cd f_cd)), (a_hd, (arI G n_hd f_hd))] H ∧ va_D A [(a_j, (oc2 a_as a_sk)), (a_as, (arI G 8 f_as)), (a_sk, (arJ G 50 k_k)), (a_lo, (oc3 e_cl a_hd a_sr a_cd)), (a_sr, (arI G n_sr f_sr)), (a_cd, (arI G n_cd f_cd)), (a_hd, (arI G n_hd f_hd))] ∧ va_S A s.heap H locs ∧ ((-1) ≤ k_c.toInt ∧ k_c.toInt ≤ 11) ∧ (k_c.toInt < e_cl.toInt) ∧ (toldX g_L p_h.toInt g_q = toldX (g_L.take (k_c.toInt + 1).toNat) p_h.toInt g_q)) (fun (q : (Int32) × (Nat → Int64)) => match q with | (k_c, k_k) => Int.toNat (k_c.toInt + 1)) ((e_cl - 1), f_sk) ⟨lv_sub hl [0, 1, 2, 3] rfl, hP, hD, hS, ⟨by omega, by omega⟩, by omega, (tX_all (by omega)).symm⟩ ?_
  rintro ⟨k_c, k_k⟩ ls H locs ⟨hl, hP, hD, hS, (i_2 : (-1) ≤ k_c.toInt ∧ k_c.toInt ≤ 11), (i_3 : k_c.toInt < e_cl.toInt), (i_4 : toldX g_L p_h.toInt g_q = toldX (g_L.take (k_c.toInt + 1).toNat) p_h.toInt g_q)⟩ ih_13_5
  replace hl : lv_has ls 4 [(3, .int k_c), (0, .ref a_j), (1, .ref a_lo), (2, .int p_h)] := hl
  refine g5_rs [(a_j, (oc2 a_as a_sk)), (a_as, (arI G 8 f_as)), (a_sk, (arJ G 50 k_k)), (a_lo, (oc3 e_cl a_hd a_sr a_cd)), (a_sr, (arI G n_sr f_sr)), (a_cd, (arI G n_cd f_cd)), (a_hd, (arI G n_hd f_hd))] hP hD ?_
  clear hP hD
  intro hP hD
  refine lv_iload_n hx hb dX2_isHeld_13 rfl (lv_at hl 0 rfl) ?_
  refine lv_if_lt (tgt := 44) hx hb dX2_isHeld_14 (by decide +kernel) (fun c_6 => ?_) (fun c_6 => ?_)
  ·
    have i_6 : k_c.toInt < 0 := g5_lt (a := k_c.toInt) (b := 0) rfl (by decide +kernel) c_6
    refine lv_iconst (v := 0) hx hb dX2_isHeld_44 (by decide +kernel) ?_
    exact W.zret (v := 0) hx hb hr rfl (fun t ht hW => ⟨⟨0, [(a_j, (oc2 a_as a_sk)), (a_as, (arI G 8 f_as)), (a_sk, (arJ G 50 k_k)), (a_lo, (oc3 e_cl a_hd a_sr a_cd)), (a_sr, (arI G n_sr f_sr)), (a_cd, (arI G n_cd f_cd)), (a_hd, (arI G n_hd f_hd))], rfl, Or.inr (⟨k_k, i_4.trans (tX_0 (by omega)), rfl, rfl⟩), by rw [ht]; exact hP.sub [0, 1, 2, 3, 4, 5, 6] rfl, hD.sub [0, 1, 2, 3, 4, 5, 6] (by decide +kernel) rfl⟩, hS.F ht⟩) hS.2.2 dX2_isHeld_45
  ·
    have i_6 : k_c.toInt ≥ 0 := g5_ltN (a := k_c.toInt) (b := 0) rfl (by decide +kernel) c_6
    obtain ⟨c9, hc9⟩ : ∃ c : CLT, g_L[k_c.toInt.toNat]? = some c := ⟨_, List.getElem?_eq_getElem (by omega)⟩
    obtain ⟨hc9a, hc9b⟩ := e_lw.2 _ _ hc9
    have hc9a : (f_hd k_c.toNatClampNeg).toInt = c9.1 := hc9a
    refine lv_aload_n hx hb dX2_isHeld_17 rfl (lv_at hl 2 rfl) ?_
    refine va_get (D := G.1) (ci := 3) (v := .ref a_hd) (C := RX3) (T := TX3) (N := 4) hx hb hts inG_X3 hown hK hP 3 rfl rfl 1 (by decide +kernel) (hts _ fl_X2_25) (fun _ h9 => h9) rfl dX2_isHeld_18 ?_
    refine lv_iload_n hx hb dX2_isHeld_21 rfl (lv_at hl 0 rfl) ?_
    refine va_iald hx hb hK hP 6 0 rfl rfl (i := k_c) (vp_in_iff.mpr ⟨by omega, by omega⟩) dX2_isHeld_22 ?_
    refine W.eq (g2 := F0 m 23 ls [.int (f_hd k_c.toNatClampNeg)]) rfl ?_
    refine lv_iload_n hx hb dX2_isHeld_23 rfl (lv_at hl 3 rfl) ?_
    refine lv_icmp_ne (tgt := 38) hx hb dX2_isHeld_24 (by decide +kernel) (fun c_7 => ?_) (fun c_7 => ?_)
    ·
      have n_7 : gNe ((f_hd k_c.toNatClampNeg).toInt) (p_h.toInt) := g5_ne (a := (f_hd k_c.toNatClampNeg).toInt) (b := p_h.toInt) rfl rfl c_7
      obtain ⟨y8, hy_8, t_8⟩ := g_incN k_c (-1) (by decide +kernel) (by omega) (by omega)
      have t_8 : y8.toInt = k_c.toInt + (-1) := t_8
      refine lv_iinc (v := y8) (lv' := [(3, .int y8), (0, .ref a_j), (1, .ref a_lo), (2, .int p_h)]) hx hb dX2_isHeld_38 hl (k := 0) rfl hy_8 (by decide +kernel) rfl ?_
      clear hl
      intro ls hl
      refine lv_goto (tgt := 13) hx hb dX2_isHeld_41 (by decide +kernel) ?_
      exact ih_13_5 (y8, k_k) ls H locs (show Int.toNat (y8.toInt + 1) < Int.toNat (k_c.toInt + 1) from g_dn (show y8.toInt < k_c.toInt by omega) (show 0 ≤ k_c.toInt by omega)) ⟨lv_sub hl [0, 1, 2, 3] rfl, hP, hD, hS, ⟨by omega, by omega⟩, by omega, (i_4).trans (by rw [show (k_c.toInt + 1).toNat = k_c.toInt.toNat + 1 by omega, show (y8.toInt + 1).toNat = k_c.toInt.toNat by omega]; exact tX_no hc9 (Or.inl (fun q9 => by have q8 := hc9a; unfold gNe at *; omega)))⟩
    ·
      have i_7 : (f_hd k_c.toNatClampNeg).toInt = p_h.toInt := g5_neN (a := (f_hd k_c.toNatClampNeg).toInt) (b := p_h.toInt) rfl rfl c_7
      have hi9 : (k_c + 1).toInt = k_c.toInt + 1 := g5_iadd rfl (by decide +kernel) (by omega) (by omega)
      have hj9 : (k_c + 1).toNatClampNeg = k_c.toInt.toNat + 1 := by have zz := g5_clamp (k_c + 1); omega
      have hs9 := e_hs (k_c + 1).toNatClampNeg (by omega)
      have hE_9 : CLC f_cd (f_sr k_c.toNatClampNeg).toInt.toNat (f_sr (k_c + 1).toNatClampNeg).toInt.toNat c9 := by rw [hj9]; exact hc9b
      have hE_10 : lvC f_cd (f_sr (k_c + 1).toNatClampNeg).toInt.toNat ≤ 50 := Nat.le_trans (lvM_mono (by omega)) e_lv
      refine lv_aload_n hx hb dX2_isHeld_27 rfl (lv_at hl 1 rfl) ?_
      refine lv_aload_n hx hb dX2_isHeld_28 rfl (lv_at hl 2 rfl) ?_
      refine lv_iload_n hx hb dX2_isHeld_29 rfl (lv_at hl 0 rfl) ?_
      obtain ⟨hPc, hDc, hFc⟩ := g5_sub3 (wc := [(a_j, (oc2 a_as a_sk)), (a_as, (arI G 8 f_as)), (a_sk, (arJ G 50 k_k)), (a_lo, (oc3 e_cl a_hd a_sr a_cd)), (a_sr, (arI G n_sr f_sr)), (a_cd, (arI G n_cd f_cd))]) hP hD hS hA [0, 1, 2, 3, 4, 5] (by decide +kernel) rfl
      refine va_calli (va_runV (As := [.ref a_lo, .int k_c]) (rest := []) ⟨hx, hb, hml, hown, hts⟩ (j_holdsX l G a_j a_as a_sk a_lo a_sr a_cd a_hd H.size k_c e_cl f_as k_k f_sr f_cd g_q c9 n_sr n_cd ⟨by omega, by omega⟩ h_e_cl (by omega) (e_hn) (e_hs) (e_hk) (e_gq) (hE_9) (hE_10)) (cwV 2 hts gV_X2_28 rfl rfl rfl hv_X2_holds ⟨Nat.le_of_ble_eq_true rfl, Nat.le_of_ble_eq_true rfl⟩) (g5_preV hPc hK hDc hN hT hS hFc (ci := 2) (q0 := 0) rfl rfl) rfl rfl hl.1 rfl (lv_room (Nat.le_of_ble_eq_true rfl)) dX2_isHeld_30 ⟨Nat.le_of_ble_eq_true rfl, Nat.le_of_ble_eq_true rfl⟩) hS (fun q _ h => hFc q h) hFc (fun r u t H locs ht hvm hw hB hz1 hk1 hS => ?_)
      obtain ⟨hP1, hD1⟩ := hB
      have hP1 := g5_ht ht hP1
      rcases hw with ⟨z12, (i_11 : ∃ v : Int64, clH c9 g_q = some v ∧ (c9.1 < 2 → z12 0 = v)), rfl, rfl⟩ | ⟨z14, (i_13 : clH c9 g_q = none), rfl, rfl⟩
      ·
        have hJ9 := va_join (wr := [(a_hd, (arI G n_hd f_hd))]) hP hD [0, 1, 2, 3, 4, 5] [6] rfl rfl (by decide +kernel) (by decide +kernel) hk1 hFc hP1 hD1
        clear hP hD hPc hDc hFc ht hvm hz1 hk1 hP1 hD1
        obtain ⟨hP, hD⟩ := hJ9
        refine g5_rs [(a_hd, (arI G n_hd f_hd)), (a_j, (oc2 a_as a_sk)), (a_as, (arI G 8 f_as)), (a_sk, (arJ G 50 z12)), (a_lo, (oc3 e_cl a_hd a_sr a_cd)), (a_sr, (arI G n_sr f_sr)), (a_cd, (arI G n_cd f_cd))] hP hD ?_
        clear hP hD
        intro hP hD
        refine lv_if_eq (tgt := 38) hx hb dX2_isHeld_33 (by decide +kernel) (fun c_15 => ?_) (fun c_15 => ?_)
        ·
          exact absurd c_15 (by decide +kernel)
        ·
          refine lv_iconst (v := 1) hx hb dX2_isHeld_36 (by decide +kernel) ?_
          exact W.zret (v := 1) hx hb hr rfl (fun t ht hW => ⟨⟨1, [(a_j, (oc2 a_as a_sk)), (a_as, (arI G 8 f_as)), (a_sk, (arJ G 50 z12)), (a_lo, (oc3 e_cl a_hd a_sr a_cd)), (a_sr, (arI G n_sr f_sr)), (a_cd, (arI G n_cd f_cd)), (a_hd, (arI G n_hd f_hd))], rfl, Or.inl (⟨z12, by obtain ⟨v9, q8, q7⟩ := i_11; exact ⟨v9, i_4.trans (by rw [show (k_c.toInt + 1).toNat = k_c.toInt.toNat + 1 by omega]; exact tX_yes hc9 (by omega) q8), fun q6 => q7 (by omega)⟩, rfl, rfl⟩), by rw [ht]; exact hP.sub [1, 2, 3, 4, 5, 6, 0] rfl, hD.sub [1, 2, 3, 4, 5, 6, 0] (by decide +kernel) rfl⟩, hS.F ht⟩) hS.2.2 dX2_isHeld_37
      ·
        have hJ9 := va_join (wr := [(a_hd, (arI G n_hd f_hd))]) hP hD [0, 1, 2, 3, 4, 5] [6] rfl rfl (by decide +kernel) (by decide +kernel) hk1 hFc hP1 hD1
        clear hP hD hPc hDc hFc ht hvm hz1 hk1 hP1 hD1
        obtain ⟨hP, hD⟩ := hJ9
        refine g5_rs [(a_hd, (arI G n_hd f_hd)), (a_j, (oc2 a_as a_sk)), (a_as, (arI G 8 f_as)), (a_sk, (arJ G 50 z14)), (a_lo, (oc3 e_cl a_hd a_sr a_cd)), (a_sr, (arI G n_sr f_sr)), (a_cd, (arI G n_cd f_cd))] hP hD ?_
        clear hP hD
        intro hP hD
        refine lv_if_eq (tgt := 38) hx hb dX2_isHeld_33 (by decide +kernel) (fun c_16 => ?_) (fun c_16 => ?_)
        ·
          obtain ⟨y17, hy_17, t_17⟩ := g_incN k_c (-1) (by decide +kernel) (by omega) (by omega)
          have t_17 : y17.toInt = k_c.toInt + (-1) := t_17
          refine lv_iinc (v := y17) (lv' := [(3, .int y17), (0, .ref a_j), (1, .ref a_lo), (2, .int p_h)]) hx hb dX2_isHeld_38 hl (k := 0) rfl hy_17 (by decide +kernel) rfl ?_
          clear hl
          intro ls hl
          refine lv_goto (tgt := 13) hx hb dX2_isHeld_41 (by decide +kernel) ?_
          exact ih_13_5 (y17, z14) ls H locs (show Int.toNat (y17.toInt + 1) < Int.toNat (k_c.toInt + 1) from g_dn (show y17.toInt < k_c.toInt by omega) (show 0 ≤ k_c.toInt by omega)) ⟨lv_sub hl [0, 1, 2, 3] rfl, hP.sub [1, 2, 3, 4, 5, 6, 0] rfl, hD.sub [1, 2, 3, 4, 5, 6, 0] (by decide +kernel) rfl, hS, ⟨by omega, by omega⟩, by omega, (i_4).trans (by rw [show (k_c.toInt + 1).toNat = k_c.toInt.toNat + 1 by omega, show (y17.toInt + 1).toNat = k_c.toInt.toNat by omega]; exact tX_no hc9 (Or.inr i_13))⟩
        ·
          exact absurd c_16 (by decide +kernel)
set_option maxHeartbeats 4000000 in
set_option maxRecDepth 100000 in
theorem j_toldX (l : Launch) (G : g5_G) (a_j a_sk a_as : Nat) (sz : Nat) (p_m : Int32) (f_sk : Nat → Int64) (h_p_m : 0 ≤ p_m.toInt ∧ p_m.toInt ≤ 1000) : Met l yX2_toldUpTo (wsG yX2_toldUpTo cX2_toldUpTo 2 (some .int)) ({ frames := 1, cells := 0, slots := 0, locals := 22 }) (va_Pc [.ref a_j, .int p_m] (g5_P G [(a_j, (oc2 a_as a_sk)), (a_sk, (arJ G 50 f_sk))] sz)) (va_Qi (fun (r : Int32) (u : va_W) => (∃ (o_r : Int32), (0 ≤ o_r.toInt ∧ o_r.toInt ≤ p_m.toInt) ∧ (o_r = clampQ (f_sk 0) p_m) ∧ (r = o_r) ∧ (u = [(a_j, (oc2 a_as a_sk)), (a_sk, (arJ G 50 f_sk))]))) (g5_B G (va_A [(a_j, (oc2 a_as a_sk)), (a_sk, (arJ G 50 f_sk))] sz)) (va_A [(a_j, (oc2 a_as a_sk)), (a_sk, (arJ G 50 f_sk))] sz)) 0 0 (va_A [(a_j, (oc2 a_as a_sk)), (a_sk, (arJ G 50 f_sk))] sz) := by
  refine Met.ofW (cc := cX2_toldUpTo) (maxL := 2) (ret := (some .int)) (by decide) rfl ?_
  intro p e s m args below meth c s₁ B hml hv
  obtain ⟨rfl, hsz, hP, hK, hD0, hN, hT⟩ := hv
  have hx := B.exec
  have hb := B.bytes
  have hr := B.returns
  have hts : ∀ w ∈ tblG, w.before _ s = true := fun w h => atoms_spec (ws := (wsG yX2_toldUpTo cX2_toldUpTo 2 (some .int))) B.pre w (List.mem_cons_of_mem _ h)
  have hown : s.vm.findClass RX2 = some m.cls := findClass_of_methodNamed B.named
  have hlocks := B.notSynchronized
  subst hsz
  have hD := hD0.self (sz := s.heap.size)
  generalize hAe : va_A [(a_j, (oc2 a_as a_sk)), (a_sk, (arJ G 50 f_sk))] s.heap.size = A at hD hT ⊢
  have hA : ∀ q : Nat, s.heap.size ≤ q → A q := fun q h => by rw [← hAe]; exact Or.inr h
  have hS : va_S A s.heap s.heap [] := va_S.rf
  have hP : va_P G.1 vwCl [(a_j, (oc2 a_as a_sk)), (a_sk, (arJ G 50 f_sk))] s.heap := hP
  have hl := lv_entry ([.ref a_j, .int p_m]) (n := 2) (Nat.le_of_ble_eq_true rfl)
  rw [lg_entry_eq]
  generalize (lg_sl ([.ref a_j, .int p_m]) ++ List.replicate (2 - (lg_sl ([.ref a_j, .int p_m])).length) Slot.unset).toArray = ls at hl ⊢
  have hl : lv_has ls 2 [(0, .ref a_j), (1, .int p_m)] := hl
  refine lv_lconst (v := 0) hx hb dX2_toldUpTo_0 (by decide) ?_
  refine lv_iload_n hx hb dX2_toldUpTo_1 rfl (lv_at hl 1 rfl) ?_
  refine lv_i2l (v := p_m.toInt64) hx hb dX2_toldUpTo_2 rfl ?_
  refine lv_aload_n hx hb dX2_toldUpTo_3 rfl (lv_at hl 0 rfl) ?_
  refine W.eq (g2 := F0 m 4 ls [.ref a_j, .long p_m.toInt64, .long 0]) rfl ?_
  refine va_get (D := G.1) (ci := 2) (v := .ref a_sk) (C := RX2) (T := TX2) (N := 2) hx hb hts inG_X2 hown hK hP 0 rfl rfl 1 (by decide) (hts _ fl_X2_15) (fun _ h9 => h9) rfl dX2_toldUpTo_4 ?_
  refine lv_iconst (v := 0) hx hb dX2_toldUpTo_7 (by decide) ?_
  refine va_lald hx hb hK hP 1 1 rfl rfl (i := 0) (by unfold vp_in; decide) dX2_toldUpTo_8 ?_
  refine g5_tl (v := (f_sk 0)) rfl ?_
  refine va_mmin_long hx hb (hml.trans hl.1.symm) hown (hts _ ml_X2_32) (hts _ st_Math_minJ) (hts _ ini_Math) (hts _ cd_Math_minJ) (Nat.le_of_ble_eq_true rfl) (by decide) (Nat.le_of_ble_eq_true rfl) (Nat.le_of_ble_eq_true rfl) dX2_toldUpTo_9 ?_
  refine va_mmax_long hx hb (hml.trans hl.1.symm) hown (hts _ ml_X2_38) (hts _ st_Math_maxJ) (hts _ ini_Math) (hts _ cd_Math_maxJ) (Nat.le_of_ble_eq_true rfl) (by decide) (Nat.le_of_ble_eq_true rfl) (Nat.le_of_ble_eq_true rfl) dX2_toldUpTo_12 ?_
  refine W.eq (g2 := F0 m 15 ls [.long (if (if (f_sk 0) < p_m.toInt64 then (f_sk 0) else p_m.toInt64) < 0 then 0 else (if (f_sk 0) < p_m.toInt64 then (f_sk 0) else p_m.toInt64))]) rfl ?_
  refine lv_l2i (v := (if (if (f_sk 0) < p_m.toInt64 then (f_sk 0) else p_m.toInt64) < 0 then 0 else (if (f_sk 0) < p_m.toInt64 then (f_sk 0) else p_m.toInt64)).toInt32) hx hb dX2_toldUpTo_15 rfl ?_
  exact W.iret (v := (if (if (f_sk 0) < p_m.toInt64 then (f_sk 0) else p_m.toInt64) < 0 then 0 else (if (f_sk 0) < p_m.toInt64 then (f_sk 0) else p_m.toInt64)).toInt32) hx hb hr (fun t ht hW => ⟨⟨(if (if (f_sk 0) < p_m.toInt64 then (f_sk 0) else p_m.toInt64) < 0 then 0 else (if (f_sk 0) < p_m.toInt64 then (f_sk 0) else p_m.toInt64)).toInt32, [(a_j, (oc2 a_as a_sk)), (a_sk, (arJ G 50 f_sk))], rfl, ⟨((if (if (f_sk 0) < p_m.toInt64 then (f_sk 0) else p_m.toInt64) < 0 then 0 else (if (f_sk 0) < p_m.toInt64 then (f_sk 0) else p_m.toInt64)).toInt32), g_told (by omega) (by omega), rfl, rfl, rfl⟩, by rw [ht]; exact hP.sub [0, 1] rfl, hD.sub [0, 1] (by decide) rfl⟩, hS.F ht⟩) hS.2.2 dX2_toldUpTo_16
