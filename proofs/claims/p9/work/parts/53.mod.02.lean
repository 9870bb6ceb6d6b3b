set_option maxHeartbeats 4000000 in
set_option maxRecDepth 100000 in
theorem n_fits_P (l : Launch) (G : g5_G) (b_o b_ro b_se b_re b_pt b_ah b_be b_me b_rf b_im b_ke b_tp b_nl b_op b_ar b_pi b_pa b_ws b_hw b_ip b_tr b_ld b_wn : Nat) (sz : Nat) (u_th : Int32) (u_sa : Int32) (u_fd : Int32) (u_td : Int32) (u_fr : Int32) (u_to : Int32) (u_so : Int32) (u_fa : Int32) (u_bd : Int32) (u_nc : Int32) (u_co : Int32) (u_le : Int32) (u_pd : Int32) (u_od : Int32) (u_la : Int32) (u_bk : Int32) (u_ce : Int32) (u_ho : Int32) (u_wy : Int32) (u_bt : Int32) (u_ps : Int32) (u_tg : Int32) (u_sn : Int32) (u_ic : Int32) (u_wd : Int32) (u_id : Int32) (u_wo : Int64) (u_va : Int64) (u_su : Int64) (u_st : Int64) (v_ro : Nat → Int32) (v_se : Nat → Int64) (v_re : Nat → Int64) (v_pt : Nat → Int32) (v_ah : Nat → Int64) (v_be : Nat → Int64) (v_me : Nat → Int32) (h_u_td : 0 ≤ u_td.toInt ∧ u_td.toInt ≤ 400) (h_u_fr : 0 ≤ u_fr.toInt ∧ u_fr.toInt ≤ 400) (h_u_to : 0 ≤ u_to.toInt ∧ u_to.toInt ≤ 400) (h_u_bd : 0 ≤ u_bd.toInt ∧ u_bd.toInt ≤ 1) (h_u_nc : 0 ≤ u_nc.toInt ∧ u_nc.toInt ≤ 12) (h_u_co : 0 ≤ u_co.toInt ∧ u_co.toInt ≤ 400) (h_u_pd : 0 ≤ u_pd.toInt ∧ u_pd.toInt ≤ 400) (h_u_la : 0 ≤ u_la.toInt ∧ u_la.toInt ≤ 4840) (h_u_bk : 0 ≤ u_bk.toInt ∧ u_bk.toInt ≤ 1) (h_u_ce : 0 ≤ u_ce.toInt ∧ u_ce.toInt ≤ 63) (h_u_ho : 0 ≤ u_ho.toInt ∧ u_ho.toInt ≤ 23) (h_u_wy : 0 ≤ u_wy.toInt ∧ u_wy.toInt ≤ 3) (h_u_bt : 0 ≤ u_bt.toInt ∧ u_bt.toInt ≤ 1000000) (h_u_ps : 0 ≤ u_ps.toInt ∧ u_ps.toInt ≤ 200) (h_u_ic : 0 ≤ u_ic.toInt ∧ u_ic.toInt ≤ 1) (h_u_id : 0 ≤ u_id.toInt ∧ u_id.toInt ≤ 1) (r_ro : MI v_ro) (r_pt : PTI v_pt) (r_me : MEI v_me) (e_ah : AH0 v_ah v_me) : Met l yX12_fits_ (wsG yX12_fits_ cX12_fits_ 1 (some .long)) ({ frames := 10, cells := 0, slots := 0, locals := 251 }) (va_Pc [.ref b_o] (g5_P G [(b_o, (oc12 u_th u_sa b_rf b_ro b_im b_ke u_fd b_tp u_td u_fr u_to u_so u_wo u_fa u_bd u_nc b_nl u_co b_op b_ar u_le b_pi b_pa u_pd u_od b_ws b_hw u_la b_se b_re u_bk u_va u_su u_ce u_ho u_wy u_bt u_ps b_pt u_tg u_sn b_ip u_ic b_ah b_be b_me u_wd b_tr b_ld u_st b_wn u_id)), (b_ro, (arI G 5740 v_ro)), (b_se, (arJ G 13 v_se)), (b_re, (arJ G 400 v_re)), (b_pt, (arI G 200 v_pt)), (b_ah, (arJ G 49152 v_ah)), (b_be, (arJ G 49152 v_be)), (b_me, (arI G 1536 v_me))] sz)) (va_Ql (fun (r : Int64) (u : va_W) => (∃ (o_r : Int64) (o_th : Int32) (o_la : Int32) (o_bk : Int32) (o_va : Int64) (o_su : Int64) (o_ce : Int32) (o_ho : Int32) (o_wy : Int32) (o_bt : Int32) (o_ps : Int32) (o_tg : Int32) (o_sn : Int32) (o_ic : Int32) (o_wd : Int32) (o_se : Nat → Int64) (o_re : Nat → Int64) (o_pt : Nat → Int32) (o_ah : Nat → Int64) (o_be : Nat → Int64) (o_me : Nat → Int32), (0 ≤ o_la.toInt ∧ o_la.toInt ≤ 4840) ∧ (0 ≤ o_bk.toInt ∧ o_bk.toInt ≤ 1) ∧ (0 ≤ o_ce.toInt ∧ o_ce.toInt ≤ 63) ∧ (0 ≤ o_ho.toInt ∧ o_ho.toInt ≤ 23) ∧ (0 ≤ o_wy.toInt ∧ o_wy.toInt ≤ 3) ∧ (0 ≤ o_bt.toInt ∧ o_bt.toInt ≤ 1000000) ∧ (0 ≤ o_ps.toInt ∧ o_ps.toInt ≤ 200) ∧ (PTI o_pt) ∧ (0 ≤ o_ic.toInt ∧ o_ic.toInt ≤ 1) ∧ (MEI o_me) ∧ (AH0 o_ah o_me) ∧ (r = o_r) ∧ (u = [(b_o, (oc12 o_th u_sa b_rf b_ro b_im b_ke u_fd b_tp u_td u_fr u_to u_so u_wo u_fa u_bd u_nc b_nl u_co b_op b_ar u_le b_pi b_pa u_pd u_od b_ws b_hw o_la b_se b_re o_bk o_va o_su o_ce o_ho o_wy o_bt o_ps b_pt o_tg o_sn b_ip o_ic b_ah b_be b_me o_wd b_tr b_ld u_st b_wn u_id)), (b_ro, (arI G 5740 v_ro)), (b_se, (arJ G 13 o_se)), (b_re, (arJ G 400 o_re)), (b_pt, (arI G 200 o_pt)), (b_ah, (arJ G 49152 o_ah)), (b_be, (arJ G 49152 o_be)), (b_me, (arI G 1536 o_me))]))) (g5_B G (va_A [(b_o, (oc12 u_th u_sa b_rf b_ro b_im b_ke u_fd b_tp u_td u_fr u_to u_so u_wo u_fa u_bd u_nc b_nl u_co b_op b_ar u_le b_pi b_pa u_pd u_od b_ws b_hw u_la b_se b_re u_bk u_va u_su u_ce u_ho u_wy u_bt u_ps b_pt u_tg u_sn b_ip u_ic b_ah b_be b_me u_wd b_tr b_ld u_st b_wn u_id)), (b_ro, (arI G 5740 v_ro)), (b_se, (arJ G 13 v_se)), (b_re, (arJ G 400 v_re)), (b_pt, (arI G 200 v_pt)), (b_ah, (arJ G 49152 v_ah)), (b_be, (arJ G 49152 v_be)), (b_me, (arI G 1536 v_me))] sz)) (va_A [(b_o, (oc12 u_th u_sa b_rf b_ro b_im b_ke u_fd b_tp u_td u_fr u_to u_so u_wo u_fa u_bd u_nc b_nl u_co b_op b_ar u_le b_pi b_pa u_pd u_od b_ws b_hw u_la b_se b_re u_bk u_va u_su u_ce u_ho u_wy u_bt u_ps b_pt u_tg u_sn b_ip u_ic b_ah b_be b_me u_wd b_tr b_ld u_st b_wn u_id)), (b_ro, (arI G 5740 v_ro)), (b_se, (arJ G 13 v_se)), (b_re, (arJ G 400 v_re)), (b_pt, (arI G 200 v_pt)), (b_ah, (arJ G 49152 v_ah)), (b_be, (arJ G 49152 v_be)), (b_me, (arI G 1536 v_me))] sz)) 0 0 (va_A [(b_o, (oc12 u_th u_sa b_rf b_ro b_im b_ke u_fd b_tp u_td u_fr u_to u_so u_wo u_fa u_bd u_nc b_nl u_co b_op b_ar u_le b_pi b_pa u_pd u_od b_ws b_hw u_la b_se b_re u_bk u_va u_su u_ce u_ho u_wy u_bt u_ps b_pt u_tg u_sn b_ip u_ic b_ah b_be b_me u_wd b_tr b_ld u_st b_wn u_id)), (b_ro, (arI G 5740 v_ro)), (b_se, (arJ G 13 v_se)), (b_re, (arJ G 400 v_re)), (b_pt, (arI G 200 v_pt)), (b_ah, (arJ G 49152 v_ah)), (b_be, (arJ G 49152 v_be)), (b_me, (arI G 1536 v_me))] sz) := by
  refine Met.ofW (cc := cX12_fits_) (maxL := 1) (ret := (some .long)) (by decide) rfl ?_
  intro p e s m args below meth c s₁ B hml hv
  obtain ⟨rfl, hsz, hP, hK, hD0, hN, hT⟩ := hv
  have hx := B.exec
  have hb := B.bytes
  have hr := B.returns
  have hts : ∀ w ∈ tblG, w.before _ s = true := fun w h => atoms_spec (ws := (wsG yX12_fits_ cX12_fits_ 1 (some .long))) B.pre w (List.mem_cons_of_mem _ h)
  have hown : s.vm.findClass RX12 = some m.cls := findClass_of_methodNamed B.named
  have hlocks := B.notSynchronized
  subst hsz
  have hD := hD0.self (sz := s.heap.size)
  generalize hAe : va_A [(b_o, (oc12 u_th u_sa b_rf b_ro b_im b_ke u_fd b_tp u_td u_fr u_to u_so u_wo u_fa u_bd u_nc b_nl u_co b_op b_ar u_le b_pi b_pa u_pd u_od b_ws b_hw u_la b_se b_re u_bk u_va u_su u_ce u_ho u_wy u_bt u_ps b_pt u_tg u_sn b_ip u_ic b_ah b_be b_me u_wd b_tr b_ld u_st b_wn u_id)), (b_ro, (arI G 5740 v_ro)), (b_se, (arJ G 13 v_se)), (b_re, (arJ G 400 v_re)), (b_pt, (arI G 200 v_pt)), (b_ah, (arJ G 49152 v_ah)), (b_be, (arJ G 49152 v_be)), (b_me, (arI G 1536 v_me))] s.heap.size = A at hD hT ⊢
  have hA : ∀ q : Nat, s.heap.size ≤ q → A q := fun q h => by rw [← hAe]; exact Or.inr h
  have hS : va_S A s.heap s.heap [] := va_S.rf
  have hP : va_P G.1 vwCl [(b_o, (oc12 u_th u_sa b_rf b_ro b_im b_ke u_fd b_tp u_td u_fr u_to u_so u_wo u_fa u_bd u_nc b_nl u_co b_op b_ar u_le b_pi b_pa u_pd u_od b_ws b_hw u_la b_se b_re u_bk u_va u_su u_ce u_ho u_wy u_bt u_ps b_pt u_tg u_sn b_ip u_ic b_ah b_be b_me u_wd b_tr b_ld u_st b_wn u_id)), (b_ro, (arI G 5740 v_ro)), (b_se, (arJ G 13 v_se)), (b_re, (arJ G 400 v_re)), (b_pt, (arI G 200 v_pt)), (b_ah, (arJ G 49152 v_ah)), (b_be, (arJ G 49152 v_be)), (b_me, (arI G 1536 v_me))] s.heap := hP
  have hl := lv_entry ([.ref b_o]) (n := 1) (Nat.le_of_ble_eq_true rfl)
  rw [lg_entry_eq]
  generalize (lg_sl ([.ref b_o]) ++ List.replicate (1 - (lg_sl ([.ref b_o])).length) Slot.unset).toArray = ls at hl ⊢
  have hl : lv_has ls 1 [(0, .ref b_o)] := hl
  refine lv_aload_n hx hb dX12_fits__0 rfl (lv_at hl 0 rfl) ?_
  refine lv_iconst (v := 0) hx hb dX12_fits__1 (by decide) ?_
  refine va_put (D := G.1) (ci := 12) (v := .int 0) (ty := .int) (C := RX12) (T := TX12) (N := 52) hx hb hts inG_X12 tyX12 tyX12_ok nmX12 hown hK hP hD hS 0 rfl rfl 0 (by decide) (hts _ fl_X12_107) (fun _ h9 => h9) rfl (by decide +kernel) rfl rfl (Nat.le_of_ble_eq_true rfl) dX12_fits__2 (fun H locs hP hD hS => ?_)
  refine g5_rs [(b_o, (oc12 0 u_sa b_rf b_ro b_im b_ke u_fd b_tp u_td u_fr u_to u_so u_wo u_fa u_bd u_nc b_nl u_co b_op b_ar u_le b_pi b_pa u_pd u_od b_ws b_hw u_la b_se b_re u_bk u_va u_su u_ce u_ho u_wy u_bt u_ps b_pt u_tg u_sn b_ip u_ic b_ah b_be b_me u_wd b_tr b_ld u_st b_wn u_id)), (b_ro, (arI G 5740 v_ro)), (b_se, (arJ G 13 v_se)), (b_re, (arJ G 400 v_re)), (b_pt, (arI G 200 v_pt)), (b_ah, (arJ G 49152 v_ah)), (b_be, (arJ G 49152 v_be)), (b_me, (arI G 1536 v_me))] hP hD (fun hP hD => ?_)
  refine lv_aload_n hx hb dX12_fits__5 rfl (lv_at hl 0 rfl) ?_
  obtain ⟨hPc, hDc, hFc⟩ := g5_sub3 (wc := [(b_o, (oc12 0 u_sa b_rf b_ro b_im b_ke u_fd b_tp u_td u_fr u_to u_so u_wo u_fa u_bd u_nc b_nl u_co b_op b_ar u_le b_pi b_pa u_pd u_od b_ws b_hw u_la b_se b_re u_bk u_va u_su u_ce u_ho u_wy u_bt u_ps b_pt u_tg u_sn b_ip u_ic b_ah b_be b_me u_wd b_tr b_ld u_st b_wn u_id)), (b_ro, (arI G 5740 v_ro)), (b_se, (arJ G 13 v_se)), (b_re, (arJ G 400 v_re)), (b_pt, (arI G 200 v_pt)), (b_ah, (arJ G 49152 v_ah)), (b_be, (arJ G 49152 v_be)), (b_me, (arI G 1536 v_me))]) hP hD hS hA [0, 1, 2, 3, 4, 5, 6, 7] (by decide) rfl
  refine va_callv (va_runV (As := []) (rest := []) ⟨hx, hb, hml, hown, hts⟩ (n_countRowsP l G b_o b_ro b_se b_re b_pt b_ah b_be b_me b_rf b_im b_ke b_tp b_nl b_op b_ar b_pi b_pa b_ws b_hw b_ip b_tr b_ld b_wn H.size 0 u_sa u_fd u_td u_fr u_to u_so u_fa u_bd u_nc u_co u_le u_pd u_od u_la u_bk u_ce u_ho u_wy u_bt u_ps u_tg u_sn u_ic u_wd u_id u_wo u_va u_su u_st v_ro v_se v_re v_pt v_ah v_be v_me h_u_td h_u_fr h_u_to h_u_bd h_u_nc h_u_co h_u_pd h_u_la h_u_bk h_u_ce h_u_ho h_u_wy h_u_bt h_u_ps h_u_ic h_u_id (r_ro) (r_pt) (r_me) (e_ah)) (cwV 0 hts gV_X12_444 rfl rfl rfl hv_X12_countRows ⟨Nat.le_of_ble_eq_true rfl, Nat.le_of_ble_eq_true rfl⟩) (g5_preV hPc hK hDc hN hT hS hFc (ci := 12) (q0 := 0) rfl rfl) rfl rfl hl.1 rfl (lv_room (Nat.le_of_ble_eq_true rfl)) dX12_fits__6 ⟨Nat.le_of_ble_eq_true rfl, Nat.le_of_ble_eq_true rfl⟩) hS (fun q _ h => hFc q h) hFc (fun u t H1 locs ht hvm hw hB hz1 hk1 hS => ?_)
  obtain ⟨hP1, hD1⟩ := hB
  rw [ht] at hP1
  obtain ⟨z12, z13, z14, z15, z16, z17, z18, z19, z20, z21, z22, z23, z24, z25, z26, z27, z28, z29, z30, i_1, i_2, i_3, i_4, i_5, i_6, i_7, i_8, i_9, i_10, i_11, rfl⟩ := hw
  have i_1 : 0 ≤ z12.toInt ∧ z12.toInt ≤ 4840 := i_1
  have i_2 : 0 ≤ z13.toInt ∧ z13.toInt ≤ 1 := i_2
  have i_3 : 0 ≤ z16.toInt ∧ z16.toInt ≤ 63 := i_3
  have i_4 : 0 ≤ z17.toInt ∧ z17.toInt ≤ 23 := i_4
  have i_5 : 0 ≤ z18.toInt ∧ z18.toInt ≤ 3 := i_5
  have i_6 : 0 ≤ z19.toInt ∧ z19.toInt ≤ 1000000 := i_6
  have i_7 : 0 ≤ z20.toInt ∧ z20.toInt ≤ 200 := i_7
  have i_8 : PTI z27 := i_8
  have i_9 : 0 ≤ z23.toInt ∧ z23.toInt ≤ 1 := i_9
  have i_10 : MEI z30 := i_10
  have i_11 : AH0 z28 z30 := i_11
  obtain ⟨hP, hD⟩ := va_join (wr := []) hP hD [0, 1, 2, 3, 4, 5, 6, 7] [] rfl rfl (by decide) (by decide) hk1 hFc hP1 hD1
  generalize H1 = H at hP hS ⊢
  refine g5_rs [(b_o, (oc12 0 u_sa b_rf b_ro b_im b_ke u_fd b_tp u_td u_fr u_to u_so u_wo u_fa u_bd u_nc b_nl u_co b_op b_ar u_le b_pi b_pa u_pd u_od b_ws b_hw z12 b_se b_re z13 z14 z15 z16 z17 z18 z19 z20 b_pt z21 z22 b_ip z23 b_ah b_be b_me z24 b_tr b_ld u_st b_wn u_id)), (b_ro, (arI G 5740 v_ro)), (b_se, (arJ G 13 z25)), (b_re, (arJ G 400 z26)), (b_pt, (arI G 200 z27)), (b_ah, (arJ G 49152 z28)), (b_be, (arJ G 49152 z29)), (b_me, (arI G 1536 z30))] hP hD (fun hP hD => ?_)
  refine lv_aload_n hx hb dX12_fits__9 rfl (lv_at hl 0 rfl) ?_
  obtain ⟨hPc, hDc, hFc⟩ := g5_sub3 (wc := [(b_o, (oc12 0 u_sa b_rf b_ro b_im b_ke u_fd b_tp u_td u_fr u_to u_so u_wo u_fa u_bd u_nc b_nl u_co b_op b_ar u_le b_pi b_pa u_pd u_od b_ws b_hw z12 b_se b_re z13 z14 z15 z16 z17 z18 z19 z20 b_pt z21 z22 b_ip z23 b_ah b_be b_me z24 b_tr b_ld u_st b_wn u_id)), (b_ah, (arJ G 49152 z28)), (b_be, (arJ G 49152 z29))]) hP hD hS hA [0, 5, 6] (by decide) rfl
  refine va_calll (va_runV (As := []) (rest := []) ⟨hx, hb, hml, hown, hts⟩ (n_allRows l G b_o b_ah b_be b_rf b_ro b_im b_ke b_tp b_nl b_op b_ar b_pi b_pa b_ws b_hw b_se b_re b_pt b_ip b_me b_tr b_ld b_wn H.size 0 u_sa u_fd u_td u_fr u_to u_so u_fa u_bd u_nc u_co u_le u_pd u_od z12 z13 z16 z17 z18 z19 z20 z21 z22 z23 z24 u_id u_wo z14 z15 u_st z28 z29 h_u_td h_u_fr h_u_to h_u_bd h_u_nc h_u_co h_u_pd i_1 i_2 i_3 i_4 i_5 i_6 i_7 i_9 h_u_id) (cwV 0 hts gV_X12_447 rfl rfl rfl hv_X12_allRows ⟨Nat.le_of_ble_eq_true rfl, Nat.le_of_ble_eq_true rfl⟩) (g5_preV hPc hK hDc hN hT hS hFc (ci := 12) (q0 := 0) rfl rfl) rfl rfl hl.1 rfl (lv_room (Nat.le_of_ble_eq_true rfl)) dX12_fits__10 ⟨Nat.le_of_ble_eq_true rfl, Nat.le_of_ble_eq_true rfl⟩) hS (fun q _ h => hFc q h) hFc (fun r u t H1 locs ht hvm hw hB hz1 hk1 hS => ?_)
  obtain ⟨hP1, hD1⟩ := hB
  rw [ht] at hP1
  obtain ⟨z31, y32, rfl⟩ := hw
  obtain ⟨hP, hD⟩ := va_join (wr := [(b_ro, (arI G 5740 v_ro)), (b_se, (arJ G 13 z25)), (b_re, (arJ G 400 z26)), (b_pt, (arI G 200 z27)), (b_me, (arI G 1536 z30))]) hP hD [0, 5, 6] [1, 2, 3, 4, 7] rfl rfl (by decide) (by decide) hk1 hFc hP1 hD1
  generalize H1 = H at hP hS ⊢
  refine g5_rs [(b_ro, (arI G 5740 v_ro)), (b_se, (arJ G 13 z25)), (b_re, (arJ G 400 z26)), (b_pt, (arI G 200 z27)), (b_me, (arI G 1536 z30)), (b_o, (oc12 0 u_sa b_rf b_ro b_im b_ke u_fd b_tp u_td u_fr u_to u_so u_wo u_fa u_bd u_nc b_nl u_co b_op b_ar u_le b_pi b_pa u_pd u_od b_ws b_hw z12 b_se b_re z13 z14 z15 z16 z17 z18 z19 z20 b_pt z21 z22 b_ip z23 b_ah b_be b_me z24 b_tr b_ld u_st b_wn u_id)), (b_ah, (arJ G 49152 z28)), (b_be, (arJ G 49152 z29))] hP hD (fun hP hD => ?_)
  refine g5_tl (v := z31) y32 ?_
  exact W.lret (v := z31) hx hb hr (fun t ht hW => ⟨⟨z31, [(b_o, (oc12 0 u_sa b_rf b_ro b_im b_ke u_fd b_tp u_td u_fr u_to u_so u_wo u_fa u_bd u_nc b_nl u_co b_op b_ar u_le b_pi b_pa u_pd u_od b_ws b_hw z12 b_se b_re z13 z14 z15 z16 z17 z18 z19 z20 b_pt z21 z22 b_ip z23 b_ah b_be b_me z24 b_tr b_ld u_st b_wn u_id)), (b_ro, (arI G 5740 v_ro)), (b_se, (arJ G 13 z25)), (b_re, (arJ G 400 z26)), (b_pt, (arI G 200 z27)), (b_ah, (arJ G 49152 z28)), (b_be, (arJ G 49152 z29)), (b_me, (arI G 1536 z30))], rfl, ⟨z31, 0, z12, z13, z14, z15, z16, z17, z18, z19, z20, z21, z22, z23, z24, z25, z26, z27, z28, z29, z30, i_1, i_2, i_3, i_4, i_5, i_6, i_7, i_8, i_9, i_10, i_11, rfl, rfl⟩, by rw [ht]; exact hP.sub [5, 0, 1, 2, 3, 6, 7, 4] rfl, hD.sub [5, 0, 1, 2, 3, 6, 7, 4] (by decide) rfl⟩, hS.F ht⟩) hS.2.2 dX12_fits__13
set_option maxHeartbeats 4000000 in
set_option maxRecDepth 100000 in
theorem n_canFitP (l : Launch) (G : g5_G) (b_o b_ro b_se b_re b_pt b_ah b_be b_me b_rf b_im b_ke b_tp b_nl b_op b_ar b_pi b_pa b_ws b_hw b_ip b_tr b_ld b_wn : Nat) (sz : Nat) (u_th : Int32) (u_sa : Int32) (u_fd : Int32) (u_td : Int32) (u_fr : Int32) (u_to : Int32) (u_so : Int32) (u_fa : Int32) (u_bd : Int32) (u_nc : Int32) (u_co : Int32) (u_le : Int32) (u_pd : Int32) (u_od : Int32) (u_la : Int32) (u_bk : Int32) (u_ce : Int32) (u_ho : Int32) (u_wy : Int32) (u_bt : Int32) (u_ps : Int32) (u_tg : Int32) (u_sn : Int32) (u_ic : Int32) (u_wd : Int32) (u_id : Int32) (p_1 : Int32) (u_wo : Int64) (u_va : Int64) (u_su : Int64) (u_st : Int64) (v_ro : Nat → Int32) (v_se : Nat → Int64) (v_re : Nat → Int64) (v_pt : Nat → Int32) (v_ah : Nat → Int64) (v_be : Nat → Int64) (v_me : Nat → Int32) (h_u_td : 0 ≤ u_td.toInt ∧ u_td.toInt ≤ 400) (h_u_fr : 0 ≤ u_fr.toInt ∧ u_fr.toInt ≤ 400) (h_u_to : 0 ≤ u_to.toInt ∧ u_to.toInt ≤ 400) (h_u_bd : 0 ≤ u_bd.toInt ∧ u_bd.toInt ≤ 1) (h_u_nc : 0 ≤ u_nc.toInt ∧ u_nc.toInt ≤ 12) (h_u_co : 0 ≤ u_co.toInt ∧ u_co.toInt ≤ 400) (h_u_pd : 0 ≤ u_pd.toInt ∧ u_pd.toInt ≤ 400) (h_u_la : 0 ≤ u_la.toInt ∧ u_la.toInt ≤ 4840) (h_u_bk : 0 ≤ u_bk.toInt ∧ u_bk.toInt ≤ 1) (h_u_ce : 0 ≤ u_ce.toInt ∧ u_ce.toInt ≤ 63) (h_u_ho : 0 ≤ u_ho.toInt ∧ u_ho.toInt ≤ 23) (h_u_wy : 0 ≤ u_wy.toInt ∧ u_wy.toInt ≤ 3) (h_u_bt : 0 ≤ u_bt.toInt ∧ u_bt.toInt ≤ 1000000) (h_u_ps : 0 ≤ u_ps.toInt ∧ u_ps.toInt ≤ 200) (h_u_ic : 0 ≤ u_ic.toInt ∧ u_ic.toInt ≤ 1) (h_u_id : 0 ≤ u_id.toInt ∧ u_id.toInt ≤ 1) (r_ro : MI v_ro) (r_pt : PTI v_pt) (r_me : MEI v_me) : Met l yX12_canFit (wsG yX12_canFit cX12_canFit 2 (some .boolean)) ({ frames := 9, cells := 0, slots := 0, locals := 231 }) (va_Pc [.ref b_o, .int p_1] (g5_P G [(b_o, (oc12 u_th u_sa b_rf b_ro b_im b_ke u_fd b_tp u_td u_fr u_to u_so u_wo u_fa u_bd u_nc b_nl u_co b_op b_ar u_le b_pi b_pa u_pd u_od b_ws b_hw u_la b_se b_re u_bk u_va u_su u_ce u_ho u_wy u_bt u_ps b_pt u_tg u_sn b_ip u_ic b_ah b_be b_me u_wd b_tr b_ld u_st b_wn u_id)), (b_ro, (arI G 5740 v_ro)), (b_se, (arJ G 13 v_se)), (b_re, (arJ G 400 v_re)), (b_pt, (arI G 200 v_pt)), (b_ah, (arJ G 49152 v_ah)), (b_be, (arJ G 49152 v_be)), (b_me, (arI G 1536 v_me))] sz)) (va_Qi (fun (r : Int32) (u : va_W) => (∃ (o_r : Int32) (o_la : Int32) (o_bk : Int32) (o_va : Int64) (o_su : Int64) (o_ce : Int32) (o_ho : Int32) (o_wy : Int32) (o_bt : Int32) (o_ps : Int32) (o_tg : Int32) (o_sn : Int32) (o_ic : Int32) (o_wd : Int32) (o_se : Nat → Int64) (o_re : Nat → Int64) (o_pt : Nat → Int32) (o_ah : Nat → Int64) (o_be : Nat → Int64) (o_me : Nat → Int32), (0 ≤ o_r.toInt ∧ o_r.toInt ≤ 1) ∧ (0 ≤ o_la.toInt ∧ o_la.toInt ≤ 4840) ∧ (0 ≤ o_bk.toInt ∧ o_bk.toInt ≤ 1) ∧ (0 ≤ o_ce.toInt ∧ o_ce.toInt ≤ 63) ∧ (0 ≤ o_ho.toInt ∧ o_ho.toInt ≤ 23) ∧ (0 ≤ o_wy.toInt ∧ o_wy.toInt ≤ 3) ∧ (0 ≤ o_bt.toInt ∧ o_bt.toInt ≤ 1000000) ∧ (0 ≤ o_ps.toInt ∧ o_ps.toInt ≤ 200) ∧ (PTI o_pt) ∧ (0 ≤ o_ic.toInt ∧ o_ic.toInt ≤ 1) ∧ (MEI o_me) ∧ (AH0 o_ah o_me) ∧ (r = o_r) ∧ (u = [(b_o, (oc12 u_th u_sa b_rf b_ro b_im b_ke u_fd b_tp u_td u_fr u_to u_so u_wo u_fa u_bd u_nc b_nl u_co b_op b_ar u_le b_pi b_pa u_pd u_od b_ws b_hw o_la b_se b_re o_bk o_va o_su o_ce o_ho o_wy o_bt o_ps b_pt o_tg o_sn b_ip o_ic b_ah b_be b_me o_wd b_tr b_ld u_st b_wn u_id)), (b_ro, (arI G 5740 v_ro)), (b_se, (arJ G 13 o_se)), (b_re, (arJ G 400 o_re)), (b_pt, (arI G 200 o_pt)), (b_ah, (arJ G 49152 o_ah)), (b_be, (arJ G 49152 o_be)), (b_me, (arI G 1536 o_me))]))) (g5_B G (va_A [(b_o, (oc12 u_th u_sa b_rf b_ro b_im b_ke u_fd b_tp u_td u_fr u_to u_so u_wo u_fa u_bd u_nc b_nl u_co b_op b_ar u_le b_pi b_pa u_pd u_od b_ws b_hw u_la b_se b_re u_bk u_va u_su u_ce u_ho u_wy u_bt u_ps b_pt u_tg u_sn b_ip u_ic b_ah b_be b_me u_wd b_tr b_ld u_st b_wn u_id)), (b_ro, (arI G 5740 v_ro)), (b_se, (arJ G 13 v_se)), (b_re, (arJ G 400 v_re)), (b_pt, (arI G 200 v_pt)), (b_ah, (arJ G 49152 v_ah)), (b_be, (arJ G 49152 v_be)), (b_me, (arI G 1536 v_me))] sz)) (va_A [(b_o, (oc12 u_th u_sa b_rf b_ro b_im b_ke u_fd b_tp u_td u_fr u_to u_so u_wo u_fa u_bd u_nc b_nl u_co b_op b_ar u_le b_pi b_pa u_pd u_od b_ws b_hw u_la b_se b_re u_bk u_va u_su u_ce u_ho u_wy u_bt u_ps b_pt u_tg u_sn b_ip u_ic b_ah b_be b_me u_wd b_tr b_ld u_st b_wn u_id)), (b_ro, (arI G 5740 v_ro)), (b_se, (arJ G 13 v_se)), (b_re, (arJ G 400 v_re)), (b_pt, (arI G 200 v_pt)), (b_ah, (arJ G 49152 v_ah)), (b_be, (arJ G 49152 v_be)), (b_me, (arI G 1536 v_me))] sz)) 0 0 (va_A [(b_o, (oc12 u_th u_sa b_rf b_ro b_im b_ke u_fd b_tp u_td u_fr u_to u_so u_wo u_fa u_bd u_nc b_nl u_co b_op b_ar u_le b_pi b_pa u_pd u_od b_ws b_hw u_la b_se b_re u_bk u_va u_su u_ce u_ho u_wy u_bt u_ps b_pt u_tg u_sn b_ip u_ic b_ah b_be b_me u_wd b_tr b_ld u_st b_wn u_id)), (b_ro, (arI G 5740 v_ro)), (b_se, (arJ G 13 v_se)), (b_re, (arJ G 400 v_re)), (b_pt, (arI G 200 v_pt)), (b_ah, (arJ G 49152 v_ah)), (b_be, (arJ G 49152 v_be)), (b_me, (arI G 1536 v_me))] sz) := by
  refine Met.ofW (cc := cX12_canFit) (maxL := 2) (ret := (some .boolean)) (by decide) rfl ?_
  intro p e s m args below meth c s₁ B hml hv
  obtain ⟨rfl, hsz, hP, hK, hD0, hN, hT⟩ := hv
  have hx := B.exec
  have hb := B.bytes
  have hr := B.returns
  have hts : ∀ w ∈ tblG, w.before _ s = true := fun w h => atoms_spec (ws := (wsG yX12_canFit cX12_canFit 2 (some .boolean))) B.pre w (List.mem_cons_of_mem _ h)
  have hown : s.vm.findClass RX12 = some m.cls := findClass_of_methodNamed B.named
  have hlocks := B.notSynchronized
  subst hsz
  have hD := hD0.self (sz := s.heap.size)
  generalize hAe : va_A [(b_o, (oc12 u_th u_sa b_rf b_ro b_im b_ke u_fd b_tp u_td u_fr u_to u_so u_wo u_fa u_bd u_nc b_nl u_co b_op b_ar u_le b_pi b_pa u_pd u_od b_ws b_hw u_la b_se b_re u_bk u_va u_su u_ce u_ho u_wy u_bt u_ps b_pt u_tg u_sn b_ip u_ic b_ah b_be b_me u_wd b_tr b_ld u_st b_wn u_id)), (b_ro, (arI G 5740 v_ro)), (b_se, (arJ G 13 v_se)), (b_re, (arJ G 400 v_re)), (b_pt, (arI G 200 v_pt)), (b_ah, (arJ G 49152 v_ah)), (b_be, (arJ G 49152 v_be)), (b_me, (arI G 1536 v_me))] s.heap.size = A at hD hT ⊢
  have hA : ∀ q : Nat, s.heap.size ≤ q → A q := fun q h => by rw [← hAe]; exact Or.inr h
  have hS : va_S A s.heap s.heap [] := va_S.rf
  have hP : va_P G.1 vwCl [(b_o, (oc12 u_th u_sa b_rf b_ro b_im b_ke u_fd b_tp u_td u_fr u_to u_so u_wo u_fa u_bd u_nc b_nl u_co b_op b_ar u_le b_pi b_pa u_pd u_od b_ws b_hw u_la b_se b_re u_bk u_va u_su u_ce u_ho u_wy u_bt u_ps b_pt u_tg u_sn b_ip u_ic b_ah b_be b_me u_wd b_tr b_ld u_st b_wn u_id)), (b_ro, (arI G 5740 v_ro)), (b_se, (arJ G 13 v_se)), (b_re, (arJ G 400 v_re)), (b_pt, (arI G 200 v_pt)), (b_ah, (arJ G 49152 v_ah)), (b_be, (arJ G 49152 v_be)), (b_me, (arI G 1536 v_me))] s.heap := hP
  have hl := lv_entry ([.ref b_o, .int p_1]) (n := 2) (Nat.le_of_ble_eq_true rfl)
  rw [lg_entry_eq]
  generalize (lg_sl ([.ref b_o, .int p_1]) ++ List.replicate (2 - (lg_sl ([.ref b_o, .int p_1])).length) Slot.unset).toArray = ls at hl ⊢
  have hl : lv_has ls 2 [(0, .ref b_o), (1, .int p_1)] := hl
  refine lv_aload_n hx hb dX12_canFit_0 rfl (lv_at hl 0 rfl) ?_
  refine lv_iload_n hx hb dX12_canFit_1 rfl (lv_at hl 1 rfl) ?_
  refine lv_iconst (v := 0) hx hb dX12_canFit_2 (by decide) ?_
  refine lv_iconst (v := (-1)) hx hb dX12_canFit_3 (by decide) ?_
  refine lv_iconst (v := 0) hx hb dX12_canFit_4 (by decide) ?_
  obtain ⟨hPc, hDc, hFc⟩ := g5_sub3 (wc := [(b_o, (oc12 u_th u_sa b_rf b_ro b_im b_ke u_fd b_tp u_td u_fr u_to u_so u_wo u_fa u_bd u_nc b_nl u_co b_op b_ar u_le b_pi b_pa u_pd u_od b_ws b_hw u_la b_se b_re u_bk u_va u_su u_ce u_ho u_wy u_bt u_ps b_pt u_tg u_sn b_ip u_ic b_ah b_be b_me u_wd b_tr b_ld u_st b_wn u_id)), (b_ro, (arI G 5740 v_ro)), (b_se, (arJ G 13 v_se)), (b_re, (arJ G 400 v_re)), (b_pt, (arI G 200 v_pt)), (b_ah, (arJ G 49152 v_ah)), (b_be, (arJ G 49152 v_be)), (b_me, (arI G 1536 v_me))]) hP hD hS hA [0, 1, 2, 3, 4, 5, 6, 7] (by decide) rfl
  refine va_callv (va_runV (As := [.int p_1, .int 0, .int (-1), .int 0]) (rest := []) ⟨hx, hb, hml, hown, hts⟩ (n_countForP l G b_o b_ro b_se b_re b_pt b_ah b_be b_me b_rf b_im b_ke b_tp b_nl b_op b_ar b_pi b_pa b_ws b_hw b_ip b_tr b_ld b_wn s.heap.size u_th u_sa u_fd u_td u_fr u_to u_so u_fa u_bd u_nc u_co u_le u_pd u_od u_la u_bk u_ce u_ho u_wy u_bt u_ps u_tg u_sn u_ic u_wd u_id p_1 0 (-1) 0 u_wo u_va u_su u_st v_ro v_se v_re v_pt v_ah v_be v_me h_u_td h_u_fr h_u_to h_u_bd h_u_nc h_u_co h_u_pd h_u_la h_u_bk h_u_ce h_u_ho h_u_wy h_u_bt h_u_ps h_u_ic h_u_id ⟨by decide, by decide⟩ ⟨by decide, by decide⟩ ⟨by decide, by decide⟩ (r_ro) (r_pt) (r_me)) (cwV 4 hts gV_X12_425 rfl rfl rfl hv_X12_countFor ⟨Nat.le_of_ble_eq_true rfl, Nat.le_of_ble_eq_true rfl⟩) (g5_preV hPc hK hDc hN hT hS hFc (ci := 12) (q0 := 0) rfl rfl) rfl rfl hl.1 rfl (lv_room (Nat.le_of_ble_eq_true rfl)) dX12_canFit_5 ⟨Nat.le_of_ble_eq_true rfl, Nat.le_of_ble_eq_true rfl⟩) hS (fun q _ h => hFc q h) hFc (fun u t H1 locs ht hvm hw hB hz1 hk1 hS => ?_)
  obtain ⟨hP1, hD1⟩ := hB
  rw [ht] at hP1
  obtain ⟨z12, z13, z14, z15, z16, z17, z18, z19, z20, z21, z22, z23, z24, z25, z26, z27, z28, z29, z30, i_1, i_2, i_3, i_4, i_5, i_6, i_7, i_8, i_9, i_10, i_11, rfl⟩ := hw
  have i_1 : 0 ≤ z12.toInt ∧ z12.toInt ≤ 4840 := i_1
  have i_2 : 0 ≤ z13.toInt ∧ z13.toInt ≤ 1 := i_2
  have i_3 : 0 ≤ z16.toInt ∧ z16.toInt ≤ 63 := i_3
  have i_4 : 0 ≤ z17.toInt ∧ z17.toInt ≤ 23 := i_4
  have i_5 : 0 ≤ z18.toInt ∧ z18.toInt ≤ 3 := i_5
  have i_6 : 0 ≤ z19.toInt ∧ z19.toInt ≤ 1000000 := i_6
  have i_7 : 0 ≤ z20.toInt ∧ z20.toInt ≤ 200 := i_7
  have i_8 : PTI z27 := i_8
  have i_9 : 0 ≤ z23.toInt ∧ z23.toInt ≤ 1 := i_9
  have i_10 : MEI z30 := i_10
  have i_11 : AH0 z28 z30 := i_11
  obtain ⟨hP, hD⟩ := va_join (wr := []) hP hD [0, 1, 2, 3, 4, 5, 6, 7] [] rfl rfl (by decide) (by decide) hk1 hFc hP1 hD1
  generalize H1 = H at hP hS ⊢
  refine g5_rs [(b_o, (oc12 u_th u_sa b_rf b_ro b_im b_ke u_fd b_tp u_td u_fr u_to u_so u_wo u_fa u_bd u_nc b_nl u_co b_op b_ar u_le b_pi b_pa u_pd u_od b_ws b_hw z12 b_se b_re z13 z14 z15 z16 z17 z18 z19 z20 b_pt z21 z22 b_ip z23 b_ah b_be b_me z24 b_tr b_ld u_st b_wn u_id)), (b_ro, (arI G 5740 v_ro)), (b_se, (arJ G 13 z25)), (b_re, (arJ G 400 z26)), (b_pt, (arI G 200 z27)), (b_ah, (arJ G 49152 z28)), (b_be, (arJ G 49152 z29)), (b_me, (arI G 1536 z30))] hP hD (fun hP hD => ?_)
  refine lv_aload_n hx hb dX12_canFit_8 rfl (lv_at hl 0 rfl) ?_
  obtain ⟨hPc, hDc, hFc⟩ := g5_sub3 (wc := [(b_o, (oc12 u_th u_sa b_rf b_ro b_im b_ke u_fd b_tp u_td u_fr u_to u_so u_wo u_fa u_bd u_nc b_nl u_co b_op b_ar u_le b_pi b_pa u_pd u_od b_ws b_hw z12 b_se b_re z13 z14 z15 z16 z17 z18 z19 z20 b_pt z21 z22 b_ip z23 b_ah b_be b_me z24 b_tr b_ld u_st b_wn u_id)), (b_ah, (arJ G 49152 z28)), (b_be, (arJ G 49152 z29))]) hP hD hS hA [0, 5, 6] (by decide) rfl
  refine va_calll (va_runV (As := []) (rest := []) ⟨hx, hb, hml, hown, hts⟩ (n_allRows l G b_o b_ah b_be b_rf b_ro b_im b_ke b_tp b_nl b_op b_ar b_pi b_pa b_ws b_hw b_se b_re b_pt b_ip b_me b_tr b_ld b_wn H.size u_th u_sa u_fd u_td u_fr u_to u_so u_fa u_bd u_nc u_co u_le u_pd u_od z12 z13 z16 z17 z18 z19 z20 z21 z22 z23 z24 u_id u_wo z14 z15 u_st z28 z29 h_u_td h_u_fr h_u_to h_u_bd h_u_nc h_u_co h_u_pd i_1 i_2 i_3 i_4 i_5 i_6 i_7 i_9 h_u_id) (cwV 0 hts gV_X12_447 rfl rfl rfl hv_X12_allRows ⟨Nat.le_of_ble_eq_true rfl, Nat.le_of_ble_eq_true rfl⟩) (g5_preV hPc hK hDc hN hT hS hFc (ci := 12) (q0 := 0) rfl rfl) rfl rfl hl.1 rfl (lv_room (Nat.le_of_ble_eq_true rfl)) dX12_canFit_9 ⟨Nat.le_of_ble_eq_true rfl, Nat.le_of_ble_eq_true rfl⟩) hS (fun q _ h => hFc q h) hFc (fun r u t H1 locs ht hvm hw hB hz1 hk1 hS => ?_)
  obtain ⟨hP1, hD1⟩ := hB
  rw [ht] at hP1
  obtain ⟨z31, y32, rfl⟩ := hw
  obtain ⟨hP, hD⟩ := va_join (wr := [(b_ro, (arI G 5740 v_ro)), (b_se, (arJ G 13 z25)), (b_re, (arJ G 400 z26)), (b_pt, (arI G 200 z27)), (b_me, (arI G 1536 z30))]) hP hD [0, 5, 6] [1, 2, 3, 4, 7] rfl rfl (by decide) (by decide) hk1 hFc hP1 hD1
  generalize H1 = H at hP hS ⊢
  refine g5_rs [(b_ro, (arI G 5740 v_ro)), (b_se, (arJ G 13 z25)), (b_re, (arJ G 400 z26)), (b_pt, (arI G 200 z27)), (b_me, (arI G 1536 z30)), (b_o, (oc12 u_th u_sa b_rf b_ro b_im b_ke u_fd b_tp u_td u_fr u_to u_so u_wo u_fa u_bd u_nc b_nl u_co b_op b_ar u_le b_pi b_pa u_pd u_od b_ws b_hw z12 b_se b_re z13 z14 z15 z16 z17 z18 z19 z20 b_pt z21 z22 b_ip z23 b_ah b_be b_me z24 b_tr b_ld u_st b_wn u_id)), (b_ah, (arJ G 49152 z28)), (b_be, (arJ G 49152 z29))] hP hD (fun hP hD => ?_)
  refine g5_tl (v := z31) y32 ?_
  refine lv_lconst (v := 0) hx hb dX12_canFit_12 (by decide) ?_
  refine W.lcmp hx hb dX12_canFit_13 ?_
  refine lv_if_le (tgt := 21) hx hb dX12_canFit_14 (by decide) (fun c_33 => ?_) (fun c_33 => ?_)
  ·
    have i_33 : (lg_cmp z31 0).toInt ≤ 0 := by have z := g5_le (a := (lg_cmp z31 0).toInt) (b := 0) (by rfl) (by decide) c_33; omega
    refine lv_iconst (v := 0) hx hb dX12_canFit_21 (by decide) ?_
    exact W.zret (v := 0) hx hb hr rfl (fun t ht hW => ⟨⟨0, [(b_o, (oc12 u_th u_sa b_rf b_ro b_im b_ke u_fd b_tp u_td u_fr u_to u_so u_wo u_fa u_bd u_nc b_nl u_co b_op b_ar u_le b_pi b_pa u_pd u_od b_ws b_hw z12 b_se b_re z13 z14 z15 z16 z17 z18 z19 z20 b_pt z21 z22 b_ip z23 b_ah b_be b_me z24 b_tr b_ld u_st b_wn u_id)), (b_ro, (arI G 5740 v_ro)), (b_se, (arJ G 13 z25)), (b_re, (arJ G 400 z26)), (b_pt, (arI G 200 z27)), (b_ah, (arJ G 49152 z28)), (b_be, (arJ G 49152 z29)), (b_me, (arI G 1536 z30))], rfl, ⟨0, z12, z13, z14, z15, z16, z17, z18, z19, z20, z21, z22, z23, z24, z25, z26, z27, z28, z29, z30, ⟨by have zc_o_r : (0 : Int32).toInt = 0 := (by decide); omega, by have zc_o_r : (0 : Int32).toInt = 0 := (by decide); omega⟩, i_1, i_2, i_3, i_4, i_5, i_6, i_7, i_8, i_9, i_10, i_11, rfl, rfl⟩, by rw [ht]; exact hP.sub [5, 0, 1, 2, 3, 6, 7, 4] rfl, hD.sub [5, 0, 1, 2, 3, 6, 7, 4] (by decide) rfl⟩, hS.F ht⟩) hS.2.2 dX12_canFit_22
  ·
    have i_33 : (lg_cmp z31 0).toInt > 0 := by have z := g5_leN (a := (lg_cmp z31 0).toInt) (b := 0) (by rfl) (by decide) c_33; omega
    refine lv_iconst (v := 1) hx hb dX12_canFit_17 (by decide) ?_
    refine lv_goto (tgt := 22) hx hb dX12_canFit_18 (by decide) ?_
    exact W.zret (v := 1) hx hb hr rfl (fun t ht hW => ⟨⟨1, [(b_o, (oc12 u_th u_sa b_rf b_ro b_im b_ke u_fd b_tp u_td u_fr u_to u_so u_wo u_fa u_bd u_nc b_nl u_co b_op b_ar u_le b_pi b_pa u_pd u_od b_ws b_hw z12 b_se b_re z13 z14 z15 z16 z17 z18 z19 z20 b_pt z21 z22 b_ip z23 b_ah b_be b_me z24 b_tr b_ld u_st b_wn u_id)), (b_ro, (arI G 5740 v_ro)), (b_se, (arJ G 13 z25)), (b_re, (arJ G 400 z26)), (b_pt, (arI G 200 z27)), (b_ah, (arJ G 49152 z28)), (b_be, (arJ G 49152 z29)), (b_me, (arI G 1536 z30))], rfl, ⟨1, z12, z13, z14, z15, z16, z17, z18, z19, z20, z21, z22, z23, z24, z25, z26, z27, z28, z29, z30, ⟨by have zc_o_r : (1 : Int32).toInt = 1 := (by decide); omega, by have zc_o_r : (1 : Int32).toInt = 1 := (by decide); omega⟩, i_1, i_2, i_3, i_4, i_5, i_6, i_7, i_8, i_9, i_10, i_11, rfl, rfl⟩, by rw [ht]; exact hP.sub [5, 0, 1, 2, 3, 6, 7, 4] rfl, hD.sub [5, 0, 1, 2, 3, 6, 7, 4] (by decide) rfl⟩, hS.F ht⟩) hS.2.2 dX12_canFit_22
set_option maxHeartbeats 4000000 in
set_option maxRecDepth 100000 in
theorem n_coreP (l : Launch) (G : g5_G) (b_o b_ro b_se b_re b_pt b_ah b_be b_me b_rf b_im b_ke b_tp b_nl b_op b_ar b_pi b_pa b_ws b_hw b_ip b_tr b_ld b_wn : Nat) (sz : Nat) (u_th : Int32) (u_sa : Int32) (u_fd : Int32) (u_td : Int32) (u_fr : Int32) (u_to : Int32) (u_so : Int32) (u_fa : Int32) (u_bd : Int32) (u_nc : Int32) (u_co : Int32) (u_le : Int32) (u_pd : Int32) (u_od : Int32) (u_la : Int32) (u_bk : Int32) (u_ce : Int32) (u_ho : Int32) (u_wy : Int32) (u_bt : Int32) (u_ps : Int32) (u_tg : Int32) (u_sn : Int32) (u_ic : Int32) (u_wd : Int32) (u_id : Int32) (u_wo : Int64) (u_va : Int64) (u_su : Int64) (u_st : Int64) (v_ro : Nat → Int32) (v_se : Nat → Int64) (v_re : Nat → Int64) (v_pt : Nat → Int32) (v_ah : Nat → Int64) (v_be : Nat → Int64) (v_me : Nat → Int32) (h_u_td : 0 ≤ u_td.toInt ∧ u_td.toInt ≤ 400) (h_u_fr : 0 ≤ u_fr.toInt ∧ u_fr.toInt ≤ 400) (h_u_to : 0 ≤ u_to.toInt ∧ u_to.toInt ≤ 400) (h_u_bd : 0 ≤ u_bd.toInt ∧ u_bd.toInt ≤ 1) (h_u_nc : 0 ≤ u_nc.toInt ∧ u_nc.toInt ≤ 12) (h_u_co : 0 ≤ u_co.toInt ∧ u_co.toInt ≤ 400) (h_u_pd : 0 ≤ u_pd.toInt ∧ u_pd.toInt ≤ 400) (h_u_la : 0 ≤ u_la.toInt ∧ u_la.toInt ≤ 4840) (h_u_bk : 0 ≤ u_bk.toInt ∧ u_bk.toInt ≤ 1) (h_u_ce : 0 ≤ u_ce.toInt ∧ u_ce.toInt ≤ 63) (h_u_ho : 0 ≤ u_ho.toInt ∧ u_ho.toInt ≤ 23) (h_u_wy : 0 ≤ u_wy.toInt ∧ u_wy.toInt ≤ 3) (h_u_bt : 0 ≤ u_bt.toInt ∧ u_bt.toInt ≤ 1000000) (h_u_ps : 0 ≤ u_ps.toInt ∧ u_ps.toInt ≤ 200) (h_u_ic : 0 ≤ u_ic.toInt ∧ u_ic.toInt ≤ 1) (h_u_id : 0 ≤ u_id.toInt ∧ u_id.toInt ≤ 1) (r_ro : MI v_ro) (r_pt : PTI v_pt) (r_me : MEI v_me) (e_ah : AH0 v_ah v_me) : Met l yX12_core (wsG yX12_core cX12_core 3 (some .int)) ({ frames := 10, cells := 0, slots := 0, locals := 252 }) (va_Pc [.ref b_o] (g5_P G [(b_o, (oc12 u_th u_sa b_rf b_ro b_im b_ke u_fd b_tp u_td u_fr u_to u_so u_wo u_fa u_bd u_nc b_nl u_co b_op b_ar u_le b_pi b_pa u_pd u_od b_ws b_hw u_la b_se b_re u_bk u_va u_su u_ce u_ho u_wy u_bt u_ps b_pt u_tg u_sn b_ip u_ic b_ah b_be b_me u_wd b_tr b_ld u_st b_wn u_id)), (b_ro, (arI G 5740 v_ro)), (b_se, (arJ G 13 v_se)), (b_re, (arJ G 400 v_re)), (b_pt, (arI G 200 v_pt)), (b_ah, (arJ G 49152 v_ah)), (b_be, (arJ G 49152 v_be)), (b_me, (arI G 1536 v_me))] sz)) (va_Qi (fun (r : Int32) (u : va_W) => (∃ (o_r : Int32) (o_th : Int32) (o_la : Int32) (o_bk : Int32) (o_va : Int64) (o_su : Int64) (o_ce : Int32) (o_ho : Int32) (o_wy : Int32) (o_bt : Int32) (o_ps : Int32) (o_tg : Int32) (o_sn : Int32) (o_ic : Int32) (o_wd : Int32) (o_se : Nat → Int64) (o_re : Nat → Int64) (o_pt : Nat → Int32) (o_ah : Nat → Int64) (o_be : Nat → Int64) (o_me : Nat → Int32), (0 ≤ o_la.toInt ∧ o_la.toInt ≤ 4840) ∧ (0 ≤ o_bk.toInt ∧ o_bk.toInt ≤ 1) ∧ (0 ≤ o_ce.toInt ∧ o_ce.toInt ≤ 63) ∧ (0 ≤ o_ho.toInt ∧ o_ho.toInt ≤ 23) ∧ (0 ≤ o_wy.toInt ∧ o_wy.toInt ≤ 3) ∧ (0 ≤ o_bt.toInt ∧ o_bt.toInt ≤ 1000000) ∧ (0 ≤ o_ps.toInt ∧ o_ps.toInt ≤ 200) ∧ (PTI o_pt) ∧ (0 ≤ o_ic.toInt ∧ o_ic.toInt ≤ 1) ∧ (MEI o_me) ∧ (AH0 o_ah o_me) ∧ (r = o_r) ∧ (u = [(b_o, (oc12 o_th u_sa b_rf b_ro b_im b_ke u_fd b_tp u_td u_fr u_to u_so u_wo u_fa u_bd u_nc b_nl u_co b_op b_ar u_le b_pi b_pa u_pd u_od b_ws b_hw o_la b_se b_re o_bk o_va o_su o_ce o_ho o_wy o_bt o_ps b_pt o_tg o_sn b_ip o_ic b_ah b_be b_me o_wd b_tr b_ld u_st b_wn u_id)), (b_ro, (arI G 5740 v_ro)), (b_se, (arJ G 13 o_se)), (b_re, (arJ G 400 o_re)), (b_pt, (arI G 200 o_pt)), (b_ah, (arJ G 49152 o_ah)), (b_be, (arJ G 49152 o_be)), (b_me, (arI G 1536 o_me))]))) (g5_B G (va_A [(b_o, (oc12 u_th u_sa b_rf b_ro b_im b_ke u_fd b_tp u_td u_fr u_to u_so u_wo u_fa u_bd u_nc b_nl u_co b_op b_ar u_le b_pi b_pa u_pd u_od b_ws b_hw u_la b_se b_re u_bk u_va u_su u_ce u_ho u_wy u_bt u_ps b_pt u_tg u_sn b_ip u_ic b_ah b_be b_me u_wd b_tr b_ld u_st b_wn u_id)), (b_ro, (arI G 5740 v_ro)), (b_se, (arJ G 13 v_se)), (b_re, (arJ G 400 v_re)), (b_pt, (arI G 200 v_pt)), (b_ah, (arJ G 49152 v_ah)), (b_be, (arJ G 49152 v_be)), (b_me, (arI G 1536 v_me))] sz)) (va_A [(b_o, (oc12 u_th u_sa b_rf b_ro b_im b_ke u_fd b_tp u_td u_fr u_to u_so u_wo u_fa u_bd u_nc b_nl u_co b_op b_ar u_le b_pi b_pa u_pd u_od b_ws b_hw u_la b_se b_re u_bk u_va u_su u_ce u_ho u_wy u_bt u_ps b_pt u_tg u_sn b_ip u_ic b_ah b_be b_me u_wd b_tr b_ld u_st b_wn u_id)), (b_ro, (arI G 5740 v_ro)), (b_se, (arJ G 13 v_se)), (b_re, (arJ G 400 v_re)), (b_pt, (arI G 200 v_pt)), (b_ah, (arJ G 49152 v_ah)), (b_be, (arJ G 49152 v_be)), (b_me, (arI G 1536 v_me))] sz)) 0 0 (va_A [(b_o, (oc12 u_th u_sa b_rf b_ro b_im b_ke u_fd b_tp u_td u_fr u_to u_so u_wo u_fa u_bd u_nc b_nl u_co b_op b_ar u_le b_pi b_pa u_pd u_od b_ws b_hw u_la b_se b_re u_bk u_va u_su u_ce u_ho u_wy u_bt u_ps b_pt u_tg u_sn b_ip u_ic b_ah b_be b_me u_wd b_tr b_ld u_st b_wn u_id)), (b_ro, (arI G 5740 v_ro)), (b_se, (arJ G 13 v_se)), (b_re, (arJ G 400 v_re)), (b_pt, (arI G 200 v_pt)), (b_ah, (arJ G 49152 v_ah)), (b_be, (arJ G 49152 v_be)), (b_me, (arI G 1536 v_me))] sz) := by
  refine Met.ofW (cc := cX12_core) (maxL := 3) (ret := (some .int)) (by decide) rfl ?_
  intro p e s m args below meth c s₁ B hml hv
  obtain ⟨rfl, hsz, hP, hK, hD0, hN, hT⟩ := hv
  have hx := B.exec
  have hb := B.bytes
  have hr := B.returns
  have hts : ∀ w ∈ tblG, w.before _ s = true := fun w h => atoms_spec (ws := (wsG yX12_core cX12_core 3 (some .int))) B.pre w (List.mem_cons_of_mem _ h)
  have hown : s.vm.findClass RX12 = some m.cls := findClass_of_methodNamed B.named
  have hlocks := B.notSynchronized
  subst hsz
  have hD := hD0.self (sz := s.heap.size)
  generalize hAe : va_A [(b_o, (oc12 u_th u_sa b_rf b_ro b_im b_ke u_fd b_tp u_td u_fr u_to u_so u_wo u_fa u_bd u_nc b_nl u_co b_op b_ar u_le b_pi b_pa u_pd u_od b_ws b_hw u_la b_se b_re u_bk u_va u_su u_ce u_ho u_wy u_bt u_ps b_pt u_tg u_sn b_ip u_ic b_ah b_be b_me u_wd b_tr b_ld u_st b_wn u_id)), (b_ro, (arI G 5740 v_ro)), (b_se, (arJ G 13 v_se)), (b_re, (arJ G 400 v_re)), (b_pt, (arI G 200 v_pt)), (b_ah, (arJ G 49152 v_ah)), (b_be, (arJ G 49152 v_be)), (b_me, (arI G 1536 v_me))] s.heap.size = A at hD hT ⊢
  have hA : ∀ q : Nat, s.heap.size ≤ q → A q := fun q h => by rw [← hAe]; exact Or.inr h
  have hS : va_S A s.heap s.heap [] := va_S.rf
  have hP : va_P G.1 vwCl [(b_o, (oc12 u_th u_sa b_rf b_ro b_im b_ke u_fd b_tp u_td u_fr u_to u_so u_wo u_fa u_bd u_nc b_nl u_co b_op b_ar u_le b_pi b_pa u_pd u_od b_ws b_hw u_la b_se b_re u_bk u_va u_su u_ce u_ho u_wy u_bt u_ps b_pt u_tg u_sn b_ip u_ic b_ah b_be b_me u_wd b_tr b_ld u_st b_wn u_id)), (b_ro, (arI G 5740 v_ro)), (b_se, (arJ G 13 v_se)), (b_re, (arJ G 400 v_re)), (b_pt, (arI G 200 v_pt)), (b_ah, (arJ G 49152 v_ah)), (b_be, (arJ G 49152 v_be)), (b_me, (arI G 1536 v_me))] s.heap := hP
  have hl := lv_entry ([.ref b_o]) (n := 3) (Nat.le_of_ble_eq_true rfl)
  rw [lg_entry_eq]
  generalize (lg_sl ([.ref b_o]) ++ List.replicate (3 - (lg_sl ([.ref b_o])).length) Slot.unset).toArray = ls at hl ⊢
  have hl : lv_has ls 3 [(0, .ref b_o)] := hl
  refine lv_aload_n hx hb dX12_core_0 rfl (lv_at hl 0 rfl) ?_
  refine lv_iconst (v := 0) hx hb dX12_core_1 (by decide) ?_
  refine va_put (D := G.1) (ci := 12) (v := .int 0) (ty := .int) (C := RX12) (T := TX12) (N := 52) hx hb hts inG_X12 tyX12 tyX12_ok nmX12 hown hK hP hD hS 0 rfl rfl 0 (by decide) (hts _ fl_X12_107) (fun _ h9 => h9) rfl (by decide +kernel) rfl rfl (Nat.le_of_ble_eq_true rfl) dX12_core_2 (fun H locs hP hD hS => ?_)
  refine g5_rs [(b_o, (oc12 0 u_sa b_rf b_ro b_im b_ke u_fd b_tp u_td u_fr u_to u_so u_wo u_fa u_bd u_nc b_nl u_co b_op b_ar u_le b_pi b_pa u_pd u_od b_ws b_hw u_la b_se b_re u_bk u_va u_su u_ce u_ho u_wy u_bt u_ps b_pt u_tg u_sn b_ip u_ic b_ah b_be b_me u_wd b_tr b_ld u_st b_wn u_id)), (b_ro, (arI G 5740 v_ro)), (b_se, (arJ G 13 v_se)), (b_re, (arJ G 400 v_re)), (b_pt, (arI G 200 v_pt)), (b_ah, (arJ G 49152 v_ah)), (b_be, (arJ G 49152 v_be)), (b_me, (arI G 1536 v_me))] hP hD (fun hP hD => ?_)
  refine lv_iconst (v := 1) hx hb dX12_core_5 (by decide) ?_
  refine lv_aload_n hx hb dX12_core_6 rfl (lv_at hl 0 rfl) ?_
  refine va_get (D := G.1) (ci := 12) (v := .ref b_ro) (C := RX12) (T := TX12) (N := 52) hx hb hts inG_X12 hown hK hP 0 rfl rfl 3 (by decide) (hts _ fl_X12_13) (fun _ h9 => h9) rfl dX12_core_7 ?_
  refine lv_iconst (v := 5) hx hb dX12_core_10 (by decide) ?_
  refine va_iald hx hb hK hP 1 0 rfl rfl (i := 5) (by unfold vp_in; decide) dX12_core_11 ?_
  refine g5_ti (v := (v_ro 5)) rfl ?_
  have hr_1 : 0 ≤ (v_ro 5).toInt ∧ (v_ro 5).toInt ≤ 10 := mi_5 r_ro
  refine lv_ishl hx hb dX12_core_12 ?_
  refine lv_iconst (v := 1) hx hb dX12_core_13 (by decide) ?_
  refine lv_isub hx hb dX12_core_14 ?_
  refine lv_istore_n (lv' := [(1, .int ((1 <<< ((v_ro 5) &&& 31)) - 1)), (0, .ref b_o)]) hx hb dX12_core_15 rfl hl (by decide) rfl (fun ls hl => ?_)
  refine lv_aload_n hx hb dX12_core_16 rfl (lv_at hl 1 rfl) ?_
  refine lv_iload_n hx hb dX12_core_17 rfl (lv_at hl 0 rfl) ?_
  obtain ⟨hPc, hDc, hFc⟩ := g5_sub3 (wc := [(b_o, (oc12 0 u_sa b_rf b_ro b_im b_ke u_fd b_tp u_td u_fr u_to u_so u_wo u_fa u_bd u_nc b_nl u_co b_op b_ar u_le b_pi b_pa u_pd u_od b_ws b_hw u_la b_se b_re u_bk u_va u_su u_ce u_ho u_wy u_bt u_ps b_pt u_tg u_sn b_ip u_ic b_ah b_be b_me u_wd b_tr b_ld u_st b_wn u_id)), (b_ro, (arI G 5740 v_ro)), (b_se, (arJ G 13 v_se)), (b_re, (arJ G 400 v_re)), (b_pt, (arI G 200 v_pt)), (b_ah, (arJ G 49152 v_ah)), (b_be, (arJ G 49152 v_be)), (b_me, (arI G 1536 v_me))]) hP hD hS hA [0, 1, 2, 3, 4, 5, 6, 7] (by decide) rfl
  refine va_calli (va_runV (As := [.int ((1 <<< ((v_ro 5) &&& 31)) - 1)]) (rest := []) ⟨hx, hb, hml, hown, hts⟩ (n_canFitP l G b_o b_ro b_se b_re b_pt b_ah b_be b_me b_rf b_im b_ke b_tp b_nl b_op b_ar b_pi b_pa b_ws b_hw b_ip b_tr b_ld b_wn H.size 0 u_sa u_fd u_td u_fr u_to u_so u_fa u_bd u_nc u_co u_le u_pd u_od u_la u_bk u_ce u_ho u_wy u_bt u_ps u_tg u_sn u_ic u_wd u_id ((1 <<< ((v_ro 5) &&& 31)) - 1) u_wo u_va u_su u_st v_ro v_se v_re v_pt v_ah v_be v_me h_u_td h_u_fr h_u_to h_u_bd h_u_nc h_u_co h_u_pd h_u_la h_u_bk h_u_ce h_u_ho h_u_wy h_u_bt h_u_ps h_u_ic h_u_id (r_ro) (r_pt) (r_me)) (cwV 1 hts gV_X12_451 rfl rfl rfl hv_X12_canFit ⟨Nat.le_of_ble_eq_true rfl, Nat.le_of_ble_eq_true rfl⟩) (g5_preV hPc hK hDc hN hT hS hFc (ci := 12) (q0 := 0) rfl rfl) rfl rfl hl.1 rfl (lv_room (Nat.le_of_ble_eq_true rfl)) dX12_core_18 ⟨Nat.le_of_ble_eq_true rfl, Nat.le_of_ble_eq_true rfl⟩) hS (fun q _ h => hFc q h) hFc (fun r u t H1 locs ht hvm hw hB hz1 hk1 hS => ?_)
  obtain ⟨hP1, hD1⟩ := hB
  rw [ht] at hP1
  obtain ⟨z14, z15, z16, z17, z18, z19, z20, z21, z22, z23, z24, z25, z26, z27, z28, z29, z30, z31, z32, z33, i_2, i_3, i_4, i_5, i_6, i_7, i_8, i_9, i_10, i_11, i_12, i_13, y34, rfl⟩ := hw
  have i_2 : 0 ≤ z14.toInt ∧ z14.toInt ≤ 1 := i_2
  have i_3 : 0 ≤ z15.toInt ∧ z15.toInt ≤ 4840 := i_3
  have i_4 : 0 ≤ z16.toInt ∧ z16.toInt ≤ 1 := i_4
  have i_5 : 0 ≤ z19.toInt ∧ z19.toInt ≤ 63 := i_5
  have i_6 : 0 ≤ z20.toInt ∧ z20.toInt ≤ 23 := i_6
  have i_7 : 0 ≤ z21.toInt ∧ z21.toInt ≤ 3 := i_7
  have i_8 : 0 ≤ z22.toInt ∧ z22.toInt ≤ 1000000 := i_8
  have i_9 : 0 ≤ z23.toInt ∧ z23.toInt ≤ 200 := i_9
  have i_10 : PTI z30 := i_10
  have i_11 : 0 ≤ z26.toInt ∧ z26.toInt ≤ 1 := i_11
  have i_12 : MEI z33 := i_12
  have i_13 : AH0 z31 z33 := i_13
  obtain ⟨hP, hD⟩ := va_join (wr := []) hP hD [0, 1, 2, 3, 4, 5, 6, 7] [] rfl rfl (by decide) (by decide) hk1 hFc hP1 hD1
  generalize H1 = H at hP hS ⊢
  refine g5_rs [(b_o, (oc12 0 u_sa b_rf b_ro b_im b_ke u_fd b_tp u_td u_fr u_to u_so u_wo u_fa u_bd u_nc b_nl u_co b_op b_ar u_le b_pi b_pa u_pd u_od b_ws b_hw z15 b_se b_re z16 z17 z18 z19 z20 z21 z22 z23 b_pt z24 z25 b_ip z26 b_ah b_be b_me z27 b_tr b_ld u_st b_wn u_id)), (b_ro, (arI G 5740 v_ro)), (b_se, (arJ G 13 z28)), (b_re, (arJ G 400 z29)), (b_pt, (arI G 200 z30)), (b_ah, (arJ G 49152 z31)), (b_be, (arJ G 49152 z32)), (b_me, (arI G 1536 z33))] hP hD (fun hP hD => ?_)
  refine g5_ti (v := z14) y34 ?_
  refine lv_if_eq (tgt := 26) hx hb dX12_core_21 (by decide) (fun c_35 => ?_) (fun c_35 => ?_)
  ·
    have i_35 : z14.toInt = 0 := by have z := g5_eq (a := z14.toInt) (b := 0) (by rfl) (by decide) c_35; omega
    refine lv_aload_n hx hb dX12_core_26 rfl (lv_at hl 1 rfl) ?_
    refine lv_iconst (v := 0) hx hb dX12_core_27 (by decide) ?_
    obtain ⟨hPc, hDc, hFc⟩ := g5_sub3 (wc := [(b_o, (oc12 0 u_sa b_rf b_ro b_im b_ke u_fd b_tp u_td u_fr u_to u_so u_wo u_fa u_bd u_nc b_nl u_co b_op b_ar u_le b_pi b_pa u_pd u_od b_ws b_hw z15 b_se b_re z16 z17 z18 z19 z20 z21 z22 z23 b_pt z24 z25 b_ip z26 b_ah b_be b_me z27 b_tr b_ld u_st b_wn u_id)), (b_ro, (arI G 5740 v_ro)), (b_se, (arJ G 13 z28)), (b_re, (arJ G 400 z29)), (b_pt, (arI G 200 z30)), (b_ah, (arJ G 49152 z31)), (b_be, (arJ G 49152 z32)), (b_me, (arI G 1536 z33))]) hP hD hS hA [0, 1, 2, 3, 4, 5, 6, 7] (by decide) rfl
    refine va_calli (va_runV (As := [.int 0]) (rest := []) ⟨hx, hb, hml, hown, hts⟩ (n_canFitP l G b_o b_ro b_se b_re b_pt b_ah b_be b_me b_rf b_im b_ke b_tp b_nl b_op b_ar b_pi b_pa b_ws b_hw b_ip b_tr b_ld b_wn H.size 0 u_sa u_fd u_td u_fr u_to u_so u_fa u_bd u_nc u_co u_le u_pd u_od z15 z16 z19 z20 z21 z22 z23 z24 z25 z26 z27 u_id 0 u_wo z17 z18 u_st v_ro z28 z29 z30 z31 z32 z33 h_u_td h_u_fr h_u_to h_u_bd h_u_nc h_u_co h_u_pd i_3 i_4 i_5 i_6 i_7 i_8 i_9 i_11 h_u_id (r_ro) (i_10) (i_12)) (cwV 1 hts gV_X12_451 rfl rfl rfl hv_X12_canFit ⟨Nat.le_of_ble_eq_true rfl, Nat.le_of_ble_eq_true rfl⟩) (g5_preV hPc hK hDc hN hT hS hFc (ci := 12) (q0 := 0) rfl rfl) rfl rfl hl.1 rfl (lv_room (Nat.le_of_ble_eq_true rfl)) dX12_core_28 ⟨Nat.le_of_ble_eq_true rfl, Nat.le_of_ble_eq_true rfl⟩) hS (fun q _ h => hFc q h) hFc (fun r u t H1 locs ht hvm hw hB hz1 hk1 hS => ?_)
    obtain ⟨hP1, hD1⟩ := hB
    rw [ht] at hP1
    obtain ⟨z48, z49, z50, z51, z52, z53, z54, z55, z56, z57, z58, z59, z60, z61, z62, z63, z64, z65, z66, z67, i_36, i_37, i_38, i_39, i_40, i_41, i_42, i_43, i_44, i_45, i_46, i_47, y68, rfl⟩ := hw
    have i_36 : 0 ≤ z48.toInt ∧ z48.toInt ≤ 1 := i_36
    have i_37 : 0 ≤ z49.toInt ∧ z49.toInt ≤ 4840 := i_37
    have i_38 : 0 ≤ z50.toInt ∧ z50.toInt ≤ 1 := i_38
    have i_39 : 0 ≤ z53.toInt ∧ z53.toInt ≤ 63 := i_39
    have i_40 : 0 ≤ z54.toInt ∧ z54.toInt ≤ 23 := i_40
    have i_41 : 0 ≤ z55.toInt ∧ z55.toInt ≤ 3 := i_41
    have i_42 : 0 ≤ z56.toInt ∧ z56.toInt ≤ 1000000 := i_42
    have i_43 : 0 ≤ z57.toInt ∧ z57.toInt ≤ 200 := i_43
    have i_44 : PTI z64 := i_44
    have i_45 : 0 ≤ z60.toInt ∧ z60.toInt ≤ 1 := i_45
    have i_46 : MEI z67 := i_46
    have i_47 : AH0 z65 z67 := i_47
    obtain ⟨hP, hD⟩ := va_join (wr := []) hP hD [0, 1, 2, 3, 4, 5, 6, 7] [] rfl rfl (by decide) (by decide) hk1 hFc hP1 hD1
    generalize H1 = H at hP hS ⊢
    refine g5_rs [(b_o, (oc12 0 u_sa b_rf b_ro b_im b_ke u_fd b_tp u_td u_fr u_to u_so u_wo u_fa u_bd u_nc b_nl u_co b_op b_ar u_le b_pi b_pa u_pd u_od b_ws b_hw z49 b_se b_re z50 z51 z52 z53 z54 z55 z56 z57 b_pt z58 z59 b_ip z60 b_ah b_be b_me z61 b_tr b_ld u_st b_wn u_id)), (b_ro, (arI G 5740 v_ro)), (b_se, (arJ G 13 z62)), (b_re, (arJ G 400 z63)), (b_pt, (arI G 200 z64)), (b_ah, (arJ G 49152 z65)), (b_be, (arJ G 49152 z66)), (b_me, (arI G 1536 z67))] hP hD (fun hP hD => ?_)
    refine g5_ti (v := z48) y68 ?_
    refine lv_if_ne (tgt := 36) hx hb dX12_core_31 (by decide) (fun c_69 => ?_) (fun c_69 => ?_)
    ·
      have n_69 : gNe (z48.toInt) (0) := by have z := g5_ne (a := z48.toInt) (b := 0) (by rfl) (by decide) c_69; unfold gNe; omega
      have i_69 : z48.toInt ≥ 1 := by have z := g5_ne (a := z48.toInt) (b := 0) (by rfl) (by decide) c_69; omega
      refine lv_iconst (v := 0) hx hb dX12_core_36 (by decide) ?_
      refine lv_istore_n (lv' := [(2, .int 0), (1, .int ((1 <<< ((v_ro 5) &&& 31)) - 1)), (0, .ref b_o)]) hx hb dX12_core_37 rfl hl (by decide) rfl (fun ls hl => ?_)
      refine g5_loop (α := (Int32) × (Int32) × (Int32) × (Int32) × (Int64) × (Int64) × (Int32) × (Int32) × (Int32) × (Int32) × (Int32) × (Int32) × (Int32) × (Int32) × (Int32) × (Nat → Int64) × (Nat → Int64) × (Nat → Int32) × (Nat → Int64) × (Nat → Int64) × (Nat → Int32)) (fun (q : (Int32) × (Int32) × (Int32) × (Int32) × (Int64) × (Int64) × (Int32) × (Int32) × (Int32) × (Int32) × (Int32) × (Int32) × (Int32) × (Int32) × (Int32) × (Nat → Int64) × (Nat → Int64) × (Nat → Int32) × (Nat → Int64) × (Nat → Int64) × (Nat → Int32)) (ls : Array Slot) (H : Heap) (locs : List Loc) => match q with | (k38_2, k38_1, k38_la, k38_bk, k38_va, k38_su, k38_ce, k38_ho, k38_wy, k38_bt, k38_ps, k38_tg, k38_sn, k38_ic, k38_wd, k38_se, k38_re, k38_pt, k38_ah, k38_be, k38_me) => lv_has ls 3 [(1, .int k38_1), (2, .int k38_2), (0, .ref b_o)] ∧ va_P G.1 vwCl [(b_o, (oc12 0 u_sa b_rf b_ro b_im b_ke u_fd b_tp u_td u_fr u_to u_so u_wo u_fa u_bd u_nc b_nl u_co b_op b_ar u_le b_pi b_pa u_pd u_od b_ws b_hw k38_la b_se b_re k38_bk k38_va k38_su k38_ce k38_ho k38_wy k38_bt k38_ps b_pt k38_tg k38_sn b_ip k38_ic b_ah b_be b_me k38_wd b_tr b_ld u_st b_wn u_id)), (b_ro, (arI G 5740 v_ro)), (b_se, (arJ G 13 k38_se)), (b_re, (arJ G 400 k38_re)), (b_pt, (arI G 200 k38_pt)), (b_ah, (arJ G 49152 k38_ah)), (b_be, (arJ G 49152 k38_be)), (b_me, (arI G 1536 k38_me))] H ∧ va_D A [(b_o, (oc12 0 u_sa b_rf b_ro b_im b_ke u_fd b_tp u_td u_fr u_to u_so u_wo u_fa u_bd u_nc b_nl u_co b_op b_ar u_le b_pi b_pa u_pd u_od b_ws b_hw k38_la b_se b_re k38_bk k38_va k38_su k38_ce k38_ho k38_wy k38_bt k38_ps b_pt k38_tg k38_sn b_ip k38_ic b_ah b_be b_me k38_wd b_tr b_ld u_st b_wn u_id)), (b_ro, (arI G 5740 v_ro)), (b_se, (arJ G 13 k38_se)), (b_re, (arJ G 400 k38_re)), (b_pt, (arI G 200 k38_pt)), (b_ah, (arJ G 49152 k38_ah)), (b_be, (arJ G 49152 k38_be)), (b_me, (arI G 1536 k38_me))] ∧ va_S A s.heap H locs ∧ (0 ≤ k38_2.toInt ∧ k38_2.toInt ≤ 10) ∧ (0 ≤ k38_la.toInt ∧ k38_la.toInt ≤ 4840) ∧ (0 ≤ k38_bk.toInt ∧ k38_bk.toInt ≤ 1) ∧ (0 ≤ k38_ce.toInt ∧ k38_ce.toInt ≤ 63) ∧ (0 ≤ k38_ho.toInt ∧ k38_ho.toInt ≤ 23) ∧ (0 ≤ k38_wy.toInt ∧ k38_wy.toInt ≤ 3) ∧ (0 ≤ k38_bt.toInt ∧ k38_bt.toInt ≤ 1000000) ∧ (0 ≤ k38_ps.toInt ∧ k38_ps.toInt ≤ 200) ∧ (0 ≤ k38_ic.toInt ∧ k38_ic.toInt ≤ 1) ∧ (PTI k38_pt) ∧ (MEI k38_me) ∧ (AH0 k38_ah k38_me)) (fun (q : (Int32) × (Int32) × (Int32) × (Int32) × (Int64) × (Int64) × (Int32) × (Int32) × (Int32) × (Int32) × (Int32) × (Int32) × (Int32) × (Int32) × (Int32) × (Nat → Int64) × (Nat → Int64) × (Nat → Int32) × (Nat → Int64) × (Nat → Int64) × (Nat → Int32)) => match q with | (k38_2, k38_1, k38_la, k38_bk, k38_va, k38_su, k38_ce, k38_ho, k38_wy, k38_bt, k38_ps, k38_tg, k38_sn, k38_ic, k38_wd, k38_se, k38_re, k38_pt, k38_ah, k38_be, k38_me) => Int.toNat (10 - k38_2.toInt)) (0, ((1 <<< ((v_ro 5) &&& 31)) - 1), z49, z50, z51, z52, z53, z54, z55, z56, z57, z58, z59, z60, z61, z62, z63, z64, z65, z66, z67) ⟨lv_sub hl [1, 0, 2] rfl, hP, hD, hS, ⟨by decide, by decide⟩, i_37, i_38, i_39, i_40, i_41, i_42, i_43, i_45, i_44, i_46, i_47⟩ ?_
      rintro ⟨k38_2, k38_1, k38_la, k38_bk, k38_va, k38_su, k38_ce, k38_ho, k38_wy, k38_bt, k38_ps, k38_tg, k38_sn, k38_ic, k38_wd, k38_se, k38_re, k38_pt, k38_ah, k38_be, k38_me⟩ ls H locs ⟨hl, hP, hD, hS, i_70, i_71, i_72, i_73, i_74, i_75, i_76, i_77, i_78, i_79, i_80, i_81⟩ ih_38_82
      have hl : lv_has ls 3 [(1, .int k38_1), (2, .int k38_2), (0, .ref b_o)] := hl
      have i_70 : 0 ≤ k38_2.toInt ∧ k38_2.toInt ≤ 10 := i_70
      have i_71 : 0 ≤ k38_la.toInt ∧ k38_la.toInt ≤ 4840 := i_71
      have i_72 : 0 ≤ k38_bk.toInt ∧ k38_bk.toInt ≤ 1 := i_72
      have i_73 : 0 ≤ k38_ce.toInt ∧ k38_ce.toInt ≤ 63 := i_73
      have i_74 : 0 ≤ k38_ho.toInt ∧ k38_ho.toInt ≤ 23 := i_74
      have i_75 : 0 ≤ k38_wy.toInt ∧ k38_wy.toInt ≤ 3 := i_75
      have i_76 : 0 ≤ k38_bt.toInt ∧ k38_bt.toInt ≤ 1000000 := i_76
      have i_77 : 0 ≤ k38_ps.toInt ∧ k38_ps.toInt ≤ 200 := i_77
      have i_78 : 0 ≤ k38_ic.toInt ∧ k38_ic.toInt ≤ 1 := i_78
      have i_79 : PTI k38_pt := i_79
      have i_80 : MEI k38_me := i_80
      have i_81 : AH0 k38_ah k38_me := i_81
      refine g5_rs [(b_o, (oc12 0 u_sa b_rf b_ro b_im b_ke u_fd b_tp u_td u_fr u_to u_so u_wo u_fa u_bd u_nc b_nl u_co b_op b_ar u_le b_pi b_pa u_pd u_od b_ws b_hw k38_la b_se b_re k38_bk k38_va k38_su k38_ce k38_ho k38_wy k38_bt k38_ps b_pt k38_tg k38_sn b_ip k38_ic b_ah b_be b_me k38_wd b_tr b_ld u_st b_wn u_id)), (b_ro, (arI G 5740 v_ro)), (b_se, (arJ G 13 k38_se)), (b_re, (arJ G 400 k38_re)), (b_pt, (arI G 200 k38_pt)), (b_ah, (arJ G 49152 k38_ah)), (b_be, (arJ G 49152 k38_be)), (b_me, (arI G 1536 k38_me))] hP hD (fun hP hD => ?_)
      refine lv_iload_n hx hb dX12_core_38 rfl (lv_at hl 1 rfl) ?_
      refine lv_aload_n hx hb dX12_core_39 rfl (lv_at hl 2 rfl) ?_
      refine va_get (D := G.1) (ci := 12) (v := .ref b_ro) (C := RX12) (T := TX12) (N := 52) hx hb hts inG_X12 hown hK hP 0 rfl rfl 3 (by decide) (hts _ fl_X12_13) (fun _ h9 => h9) rfl dX12_core_40 ?_
      refine lv_iconst (v := 5) hx hb dX12_core_43 (by decide) ?_
      refine va_iald hx hb hK hP 1 0 rfl rfl (i := 5) (by unfold vp_in; decide) dX12_core_44 ?_
      refine g5_ti (v := (v_ro 5)) rfl ?_
      have hr_83 : 0 ≤ (v_ro 5).toInt ∧ (v_ro 5).toInt ≤ 10 := mi_5 r_ro
      refine lv_icmp_ge (tgt := 80) hx hb dX12_core_45 (by decide) (fun c_84 => ?_) (fun c_84 => ?_)
      ·
        have i_84 : k38_2.toInt ≥ (v_ro 5).toInt := by have z := g5_ge (a := k38_2.toInt) (b := (v_ro 5).toInt) (by rfl) (by rfl) c_84; omega
        refine lv_iload_n hx hb dX12_core_80 rfl (lv_at hl 0 rfl) ?_
        exact W.iret (v := k38_1) hx hb hr (fun t ht hW => ⟨⟨k38_1, [(b_o, (oc12 0 u_sa b_rf b_ro b_im b_ke u_fd b_tp u_td u_fr u_to u_so u_wo u_fa u_bd u_nc b_nl u_co b_op b_ar u_le b_pi b_pa u_pd u_od b_ws b_hw k38_la b_se b_re k38_bk k38_va k38_su k38_ce k38_ho k38_wy k38_bt k38_ps b_pt k38_tg k38_sn b_ip k38_ic b_ah b_be b_me k38_wd b_tr b_ld u_st b_wn u_id)), (b_ro, (arI G 5740 v_ro)), (b_se, (arJ G 13 k38_se)), (b_re, (arJ G 400 k38_re)), (b_pt, (arI G 200 k38_pt)), (b_ah, (arJ G 49152 k38_ah)), (b_be, (arJ G 49152 k38_be)), (b_me, (arI G 1536 k38_me))], rfl, ⟨k38_1, 0, k38_la, k38_bk, k38_va, k38_su, k38_ce, k38_ho, k38_wy, k38_bt, k38_ps, k38_tg, k38_sn, k38_ic, k38_wd, k38_se, k38_re, k38_pt, k38_ah, k38_be, k38_me, i_71, i_72, i_73, i_74, i_75, i_76, i_77, i_79, i_78, i_80, i_81, rfl, rfl⟩, by rw [ht]; exact hP.sub [0, 1, 2, 3, 4, 5, 6, 7] rfl, hD.sub [0, 1, 2, 3, 4, 5, 6, 7] (by decide) rfl⟩, hS.F ht⟩) hS.2.2 dX12_core_81
      ·
        have i_84 : k38_2.toInt < (v_ro 5).toInt := by have z := g5_geN (a := k38_2.toInt) (b := (v_ro 5).toInt) (by rfl) (by rfl) c_84; omega
        refine lv_aload_n hx hb dX12_core_48 rfl (lv_at hl 2 rfl) ?_
        refine lv_iload_n hx hb dX12_core_49 rfl (lv_at hl 0 rfl) ?_
        refine lv_iconst (v := 1) hx hb dX12_core_50 (by decide) ?_
        refine lv_iload_n hx hb dX12_core_51 rfl (lv_at hl 1 rfl) ?_
        refine lv_ishl hx hb dX12_core_52 ?_
        refine lv_iconst (v := (-1)) hx hb dX12_core_53 (by decide) ?_
        refine lv_ixor hx hb dX12_core_54 ?_
        refine lv_iand hx hb dX12_core_55 ?_
        obtain ⟨hPc, hDc, hFc⟩ := g5_sub3 (wc := [(b_o, (oc12 0 u_sa b_rf b_ro b_im b_ke u_fd b_tp u_td u_fr u_to u_so u_wo u_fa u_bd u_nc b_nl u_co b_op b_ar u_le b_pi b_pa u_pd u_od b_ws b_hw k38_la b_se b_re k38_bk k38_va k38_su k38_ce k38_ho k38_wy k38_bt k38_ps b_pt k38_tg k38_sn b_ip k38_ic b_ah b_be b_me k38_wd b_tr b_ld u_st b_wn u_id)), (b_ro, (arI G 5740 v_ro)), (b_se, (arJ G 13 k38_se)), (b_re, (arJ G 400 k38_re)), (b_pt, (arI G 200 k38_pt)), (b_ah, (arJ G 49152 k38_ah)), (b_be, (arJ G 49152 k38_be)), (b_me, (arI G 1536 k38_me))]) hP hD hS hA [0, 1, 2, 3, 4, 5, 6, 7] (by decide) rfl
        refine va_calli (va_runV (As := [.int (k38_1 &&& ((1 <<< (k38_2 &&& 31)) ^^^ (-1)))]) (rest := []) ⟨hx, hb, hml, hown, hts⟩ (n_canFitP l G b_o b_ro b_se b_re b_pt b_ah b_be b_me b_rf b_im b_ke b_tp b_nl b_op b_ar b_pi b_pa b_ws b_hw b_ip b_tr b_ld b_wn H.size 0 u_sa u_fd u_td u_fr u_to u_so u_fa u_bd u_nc u_co u_le u_pd u_od k38_la k38_bk k38_ce k38_ho k38_wy k38_bt k38_ps k38_tg k38_sn k38_ic k38_wd u_id (k38_1 &&& ((1 <<< (k38_2 &&& 31)) ^^^ (-1))) u_wo k38_va k38_su u_st v_ro k38_se k38_re k38_pt k38_ah k38_be k38_me h_u_td h_u_fr h_u_to h_u_bd h_u_nc h_u_co h_u_pd i_71 i_72 i_73 i_74 i_75 i_76 i_77 i_78 h_u_id (r_ro) (i_79) (i_80)) (cwV 1 hts gV_X12_451 rfl rfl rfl hv_X12_canFit ⟨Nat.le_of_ble_eq_true rfl, Nat.le_of_ble_eq_true rfl⟩) (g5_preV hPc hK hDc hN hT hS hFc (ci := 12) (q0 := 0) rfl rfl) rfl rfl hl.1 rfl (lv_room (Nat.le_of_ble_eq_true rfl)) dX12_core_56 ⟨Nat.le_of_ble_eq_true rfl, Nat.le_of_ble_eq_true rfl⟩) hS (fun q _ h => hFc q h) hFc (fun r u t H1 locs ht hvm hw hB hz1 hk1 hS => ?_)
        obtain ⟨hP1, hD1⟩ := hB
        rw [ht] at hP1
        obtain ⟨z97, z98, z99, z100, z101, z102, z103, z104, z105, z106, z107, z108, z109, z110, z111, z112, z113, z114, z115, z116, i_85, i_86, i_87, i_88, i_89, i_90, i_91, i_92, i_93, i_94, i_95, i_96, y117, rfl⟩ := hw
        have i_85 : 0 ≤ z97.toInt ∧ z97.toInt ≤ 1 := i_85
        have i_86 : 0 ≤ z98.toInt ∧ z98.toInt ≤ 4840 := i_86
        have i_87 : 0 ≤ z99.toInt ∧ z99.toInt ≤ 1 := i_87
        have i_88 : 0 ≤ z102.toInt ∧ z102.toInt ≤ 63 := i_88
        have i_89 : 0 ≤ z103.toInt ∧ z103.toInt ≤ 23 := i_89
        have i_90 : 0 ≤ z104.toInt ∧ z104.toInt ≤ 3 := i_90
        have i_91 : 0 ≤ z105.toInt ∧ z105.toInt ≤ 1000000 := i_91
        have i_92 : 0 ≤ z106.toInt ∧ z106.toInt ≤ 200 := i_92
        have i_93 : PTI z113 := i_93
        have i_94 : 0 ≤ z109.toInt ∧ z109.toInt ≤ 1 := i_94
        have i_95 : MEI z116 := i_95
        have i_96 : AH0 z114 z116 := i_96
        obtain ⟨hP, hD⟩ := va_join (wr := []) hP hD [0, 1, 2, 3, 4, 5, 6, 7] [] rfl rfl (by decide) (by decide) hk1 hFc hP1 hD1
        generalize H1 = H at hP hS ⊢
        refine g5_rs [(b_o, (oc12 0 u_sa b_rf b_ro b_im b_ke u_fd b_tp u_td u_fr u_to u_so u_wo u_fa u_bd u_nc b_nl u_co b_op b_ar u_le b_pi b_pa u_pd u_od b_ws b_hw z98 b_se b_re z99 z100 z101 z102 z103 z104 z105 z106 b_pt z107 z108 b_ip z109 b_ah b_be b_me z110 b_tr b_ld u_st b_wn u_id)), (b_ro, (arI G 5740 v_ro)), (b_se, (arJ G 13 z111)), (b_re, (arJ G 400 z112)), (b_pt, (arI G 200 z113)), (b_ah, (arJ G 49152 z114)), (b_be, (arJ G 49152 z115)), (b_me, (arI G 1536 z116))] hP hD (fun hP hD => ?_)
        refine g5_ti (v := z97) y117 ?_
        refine lv_if_eq (tgt := 66) hx hb dX12_core_59 (by decide) (fun c_118 => ?_) (fun c_118 => ?_)
        ·
          have i_118 : z97.toInt = 0 := by have z := g5_eq (a := z97.toInt) (b := 0) (by rfl) (by decide) c_118; omega
          refine lv_iload_n hx hb dX12_core_66 rfl (lv_at hl 0 rfl) ?_
          refine lv_iconst (v := 1) hx hb dX12_core_67 (by decide) ?_
          refine lv_iload_n hx hb dX12_core_68 rfl (lv_at hl 1 rfl) ?_
          refine lv_ishl hx hb dX12_core_69 ?_
          refine lv_iconst (v := (-1)) hx hb dX12_core_70 (by decide) ?_
          refine lv_ixor hx hb dX12_core_71 ?_
          refine lv_iand hx hb dX12_core_72 ?_
          refine lv_istore_n (lv' := [(1, .int (k38_1 &&& ((1 <<< (k38_2 &&& 31)) ^^^ (-1)))), (2, .int k38_2), (0, .ref b_o)]) hx hb dX12_core_73 rfl hl (by decide) rfl (fun ls hl => ?_)
          refine lv_iinc (v := (k38_2 + 1)) (lv' := [(2, .int (k38_2 + 1)), (1, .int (k38_1 &&& ((1 <<< (k38_2 &&& 31)) ^^^ (-1)))), (0, .ref b_o)]) hx hb dX12_core_74 hl (k := 1) rfl rfl (by decide) rfl (fun ls hl => ?_)
          have t_119 : (k38_2 + 1).toInt = k38_2.toInt + 1 := g5_iadd (a := k38_2.toInt) (b := 1) rfl (by decide) (by omega) (by omega)
          refine lv_goto (tgt := 38) hx hb dX12_core_77 (by decide) ?_
          exact ih_38_82 ((k38_2 + 1), (k38_1 &&& ((1 <<< (k38_2 &&& 31)) ^^^ (-1))), z98, z99, z100, z101, z102, z103, z104, z105, z106, z107, z108, z109, z110, z111, z112, z113, z114, z115, z116) ls H locs (show Int.toNat (10 - (k38_2 + 1).toInt) < Int.toNat (10 - k38_2.toInt) from g_up (show k38_2.toInt < (k38_2 + 1).toInt by omega) (show k38_2.toInt < 10 by omega)) ⟨lv_sub hl [1, 0, 2] rfl, hP, hD, hS, ⟨by omega, by omega⟩, i_86, i_87, i_88, i_89, i_90, i_91, i_92, i_94, i_93, i_95, i_96⟩
        ·
          have n_118 : gNe (z97.toInt) (0) := by have z := g5_eqN (a := z97.toInt) (b := 0) (by rfl) (by decide) c_118; unfold gNe; omega
          have i_118 : z97.toInt ≥ 1 := by have z := g5_eqN (a := z97.toInt) (b := 0) (by rfl) (by decide) c_118; omega
          refine lv_iload_n hx hb dX12_core_62 rfl (lv_at hl 0 rfl) ?_
          refine lv_goto (tgt := 73) hx hb dX12_core_63 (by decide) ?_
          refine lv_istore_n (lv' := [(1, .int k38_1), (2, .int k38_2), (0, .ref b_o)]) hx hb dX12_core_73 rfl hl (by decide) rfl (fun ls hl => ?_)
          refine lv_iinc (v := (k38_2 + 1)) (lv' := [(2, .int (k38_2 + 1)), (1, .int k38_1), (0, .ref b_o)]) hx hb dX12_core_74 hl (k := 1) rfl rfl (by decide) rfl (fun ls hl => ?_)
          have t_120 : (k38_2 + 1).toInt = k38_2.toInt + 1 := g5_iadd (a := k38_2.toInt) (b := 1) rfl (by decide) (by omega) (by omega)
          refine lv_goto (tgt := 38) hx hb dX12_core_77 (by decide) ?_
          exact ih_38_82 ((k38_2 + 1), k38_1, z98, z99, z100, z101, z102, z103, z104, z105, z106, z107, z108, z109, z110, z111, z112, z113, z114, z115, z116) ls H locs (show Int.toNat (10 - (k38_2 + 1).toInt) < Int.toNat (10 - k38_2.toInt) from g_up (show k38_2.toInt < (k38_2 + 1).toInt by omega) (show k38_2.toInt < 10 by omega)) ⟨lv_sub hl [1, 0, 2] rfl, hP, hD, hS, ⟨by omega, by omega⟩, i_86, i_87, i_88, i_89, i_90, i_91, i_92, i_94, i_93, i_95, i_96⟩
    ·
      have i_69 : z48.toInt = 0 := by have z := g5_neN (a := z48.toInt) (b := 0) (by rfl) (by decide) c_69; omega
      refine lv_iconst (v := (-1)) hx hb dX12_core_34 (by decide) ?_
      exact W.iret (v := (-1)) hx hb hr (fun t ht hW => ⟨⟨(-1), [(b_o, (oc12 0 u_sa b_rf b_ro b_im b_ke u_fd b_tp u_td u_fr u_to u_so u_wo u_fa u_bd u_nc b_nl u_co b_op b_ar u_le b_pi b_pa u_pd u_od b_ws b_hw z49 b_se b_re z50 z51 z52 z53 z54 z55 z56 z57 b_pt z58 z59 b_ip z60 b_ah b_be b_me z61 b_tr b_ld u_st b_wn u_id)), (b_ro, (arI G 5740 v_ro)), (b_se, (arJ G 13 z62)), (b_re, (arJ G 400 z63)), (b_pt, (arI G 200 z64)), (b_ah, (arJ G 49152 z65)), (b_be, (arJ G 49152 z66)), (b_me, (arI G 1536 z67))], rfl, ⟨(-1), 0, z49, z50, z51, z52, z53, z54, z55, z56, z57, z58, z59, z60, z61, z62, z63, z64, z65, z66, z67, i_37, i_38, i_39, i_40, i_41, i_42, i_43, i_44, i_45, i_46, i_47, rfl, rfl⟩, by rw [ht]; exact hP.sub [0, 1, 2, 3, 4, 5, 6, 7] rfl, hD.sub [0, 1, 2, 3, 4, 5, 6, 7] (by decide) rfl⟩, hS.F ht⟩) hS.2.2 dX12_core_35
  ·
    have n_35 : gNe (z14.toInt) (0) := by have z := g5_eqN (a := z14.toInt) (b := 0) (by rfl) (by decide) c_35; unfold gNe; omega
    have i_35 : z14.toInt ≥ 1 := by have z := g5_eqN (a := z14.toInt) (b := 0) (by rfl) (by decide) c_35; omega
    refine lv_iconst (v := 0) hx hb dX12_core_24 (by decide) ?_
    exact W.iret (v := 0) hx hb hr (fun t ht hW => ⟨⟨0, [(b_o, (oc12 0 u_sa b_rf b_ro b_im b_ke u_fd b_tp u_td u_fr u_to u_so u_wo u_fa u_bd u_nc b_nl u_co b_op b_ar u_le b_pi b_pa u_pd u_od b_ws b_hw z15 b_se b_re z16 z17 z18 z19 z20 z21 z22 z23 b_pt z24 z25 b_ip z26 b_ah b_be b_me z27 b_tr b_ld u_st b_wn u_id)), (b_ro, (arI G 5740 v_ro)), (b_se, (arJ G 13 z28)), (b_re, (arJ G 400 z29)), (b_pt, (arI G 200 z30)), (b_ah, (arJ G 49152 z31)), (b_be, (arJ G 49152 z32)), (b_me, (arI G 1536 z33))], rfl, ⟨0, 0, z15, z16, z17, z18, z19, z20, z21, z22, z23, z24, z25, z26, z27, z28, z29, z30, z31, z32, z33, i_3, i_4, i_5, i_6, i_7, i_8, i_9, i_10, i_11, i_12, i_13, rfl, rfl⟩, by rw [ht]; exact hP.sub [0, 1, 2, 3, 4, 5, 6, 7] rfl, hD.sub [0, 1, 2, 3, 4, 5, 6, 7] (by decide) rfl⟩, hS.F ht⟩) hS.2.2 dX12_core_25
set_option maxHeartbeats 4000000 in
set_option maxRecDepth 100000 in
theorem n_tellsP (l : Launch) (G : g5_G) (b_o b_ro b_se b_re b_pt b_ah b_be b_me b_rf b_im b_ke b_tp b_nl b_op b_ar b_pi b_pa b_ws b_hw b_ip b_tr b_ld b_wn : Nat) (sz : Nat) (u_th : Int32) (u_sa : Int32) (u_fd : Int32) (u_td : Int32) (u_fr : Int32) (u_to : Int32) (u_so : Int32) (u_fa : Int32) (u_bd : Int32) (u_nc : Int32) (u_co : Int32) (u_le : Int32) (u_pd : Int32) (u_od : Int32) (u_la : Int32) (u_bk : Int32) (u_ce : Int32) (u_ho : Int32) (u_wy : Int32) (u_bt : Int32) (u_ps : Int32) (u_tg : Int32) (u_sn : Int32) (u_ic : Int32) (u_wd : Int32) (u_id : Int32) (p_1 : Int32) (p_2 : Int32) (p_3 : Int32) (u_wo : Int64) (u_va : Int64) (u_su : Int64) (u_st : Int64) (v_ro : Nat → Int32) (v_se : Nat → Int64) (v_re : Nat → Int64) (v_pt : Nat → Int32) (v_ah : Nat → Int64) (v_be : Nat → Int64) (v_me : Nat → Int32) (h_u_td : 0 ≤ u_td.toInt ∧ u_td.toInt ≤ 400) (h_u_fr : 0 ≤ u_fr.toInt ∧ u_fr.toInt ≤ 400) (h_u_to : 0 ≤ u_to.toInt ∧ u_to.toInt ≤ 400) (h_u_bd : 0 ≤ u_bd.toInt ∧ u_bd.toInt ≤ 1) (h_u_nc : 0 ≤ u_nc.toInt ∧ u_nc.toInt ≤ 12) (h_u_co : 0 ≤ u_co.toInt ∧ u_co.toInt ≤ 400) (h_u_pd : 0 ≤ u_pd.toInt ∧ u_pd.toInt ≤ 400) (h_u_la : 0 ≤ u_la.toInt ∧ u_la.toInt ≤ 4840) (h_u_bk : 0 ≤ u_bk.toInt ∧ u_bk.toInt ≤ 1) (h_u_ce : 0 ≤ u_ce.toInt ∧ u_ce.toInt ≤ 63) (h_u_ho : 0 ≤ u_ho.toInt ∧ u_ho.toInt ≤ 23) (h_u_wy : 0 ≤ u_wy.toInt ∧ u_wy.toInt ≤ 3) (h_u_bt : 0 ≤ u_bt.toInt ∧ u_bt.toInt ≤ 1000000) (h_u_ps : 0 ≤ u_ps.toInt ∧ u_ps.toInt ≤ 200) (h_u_ic : 0 ≤ u_ic.toInt ∧ u_ic.toInt ≤ 1) (h_u_id : 0 ≤ u_id.toInt ∧ u_id.toInt ≤ 1) (r_ro : MI v_ro) (r_pt : PTI v_pt) (r_me : MEI v_me) (e_ah : AH0 v_ah v_me) : Met l yX12_tells (wsG yX12_tells cX12_tells 6 (some .long)) ({ frames := 10, cells := 0, slots := 0, locals := 251 }) (va_Pc [.ref b_o, .int p_1, .int p_2, .int p_3] (g5_P G [(b_o, (oc12 u_th u_sa b_rf b_ro b_im b_ke u_fd b_tp u_td u_fr u_to u_so u_wo u_fa u_bd u_nc b_nl u_co b_op b_ar u_le b_pi b_pa u_pd u_od b_ws b_hw u_la b_se b_re u_bk u_va u_su u_ce u_ho u_wy u_bt u_ps b_pt u_tg u_sn b_ip u_ic b_ah b_be b_me u_wd b_tr b_ld u_st b_wn u_id)), (b_ro, (arI G 5740 v_ro)), (b_se, (arJ G 13 v_se)), (b_re, (arJ G 400 v_re)), (b_pt, (arI G 200 v_pt)), (b_ah, (arJ G 49152 v_ah)), (b_be, (arJ G 49152 v_be)), (b_me, (arI G 1536 v_me))] sz)) (va_Ql (fun (r : Int64) (u : va_W) => (∃ (o_r : Int64) (o_th : Int32) (o_la : Int32) (o_bk : Int32) (o_va : Int64) (o_su : Int64) (o_ce : Int32) (o_ho : Int32) (o_wy : Int32) (o_bt : Int32) (o_ps : Int32) (o_tg : Int32) (o_sn : Int32) (o_ic : Int32) (o_wd : Int32) (o_se : Nat → Int64) (o_re : Nat → Int64) (o_pt : Nat → Int32) (o_ah : Nat → Int64) (o_be : Nat → Int64) (o_me : Nat → Int32), (0 ≤ o_la.toInt ∧ o_la.toInt ≤ 4840) ∧ (0 ≤ o_bk.toInt ∧ o_bk.toInt ≤ 1) ∧ (0 ≤ o_ce.toInt ∧ o_ce.toInt ≤ 63) ∧ (0 ≤ o_ho.toInt ∧ o_ho.toInt ≤ 23) ∧ (0 ≤ o_wy.toInt ∧ o_wy.toInt ≤ 3) ∧ (0 ≤ o_bt.toInt ∧ o_bt.toInt ≤ 1000000) ∧ (0 ≤ o_ps.toInt ∧ o_ps.toInt ≤ 200) ∧ (PTI o_pt) ∧ (0 ≤ o_ic.toInt ∧ o_ic.toInt ≤ 1) ∧ (MEI o_me) ∧ (AH0 o_ah o_me) ∧ (r = o_r) ∧ (u = [(b_o, (oc12 o_th u_sa b_rf b_ro b_im b_ke u_fd b_tp u_td u_fr u_to u_so u_wo u_fa u_bd u_nc b_nl u_co b_op b_ar u_le b_pi b_pa u_pd u_od b_ws b_hw o_la b_se b_re o_bk o_va o_su o_ce o_ho o_wy o_bt o_ps b_pt o_tg o_sn b_ip o_ic b_ah b_be b_me o_wd b_tr b_ld u_st b_wn u_id)), (b_ro, (arI G 5740 v_ro)), (b_se, (arJ G 13 o_se)), (b_re, (arJ G 400 o_re)), (b_pt, (arI G 200 o_pt)), (b_ah, (arJ G 49152 o_ah)), (b_be, (arJ G 49152 o_be)), (b_me, (arI G 1536 o_me))]))) (g5_B G (va_A [(b_o, (oc12 u_th u_sa b_rf b_ro b_im b_ke u_fd b_tp u_td u_fr u_to u_so u_wo u_fa u_bd u_nc b_nl u_co b_op b_ar u_le b_pi b_pa u_pd u_od b_ws b_hw u_la b_se b_re u_bk u_va u_su u_ce u_ho u_wy u_bt u_ps b_pt u_tg u_sn b_ip u_ic b_ah b_be b_me u_wd b_tr b_ld u_st b_wn u_id)), (b_ro, (arI G 5740 v_ro)), (b_se, (arJ G 13 v_se)), (b_re, (arJ G 400 v_re)), (b_pt, (arI G 200 v_pt)), (b_ah, (arJ G 49152 v_ah)), (b_be, (arJ G 49152 v_be)), (b_me, (arI G 1536 v_me))] sz)) (va_A [(b_o, (oc12 u_th u_sa b_rf b_ro b_im b_ke u_fd b_tp u_td u_fr u_to u_so u_wo u_fa u_bd u_nc b_nl u_co b_op b_ar u_le b_pi b_pa u_pd u_od b_ws b_hw u_la b_se b_re u_bk u_va u_su u_ce u_ho u_wy u_bt u_ps b_pt u_tg u_sn b_ip u_ic b_ah b_be b_me u_wd b_tr b_ld u_st b_wn u_id)), (b_ro, (arI G 5740 v_ro)), (b_se, (arJ G 13 v_se)), (b_re, (arJ G 400 v_re)), (b_pt, (arI G 200 v_pt)), (b_ah, (arJ G 49152 v_ah)), (b_be, (arJ G 49152 v_be)), (b_me, (arI G 1536 v_me))] sz)) 0 0 (va_A [(b_o, (oc12 u_th u_sa b_rf b_ro b_im b_ke u_fd b_tp u_td u_fr u_to u_so u_wo u_fa u_bd u_nc b_nl u_co b_op b_ar u_le b_pi b_pa u_pd u_od b_ws b_hw u_la b_se b_re u_bk u_va u_su u_ce u_ho u_wy u_bt u_ps b_pt u_tg u_sn b_ip u_ic b_ah b_be b_me u_wd b_tr b_ld u_st b_wn u_id)), (b_ro, (arI G 5740 v_ro)), (b_se, (arJ G 13 v_se)), (b_re, (arJ G 400 v_re)), (b_pt, (arI G 200 v_pt)), (b_ah, (arJ G 49152 v_ah)), (b_be, (arJ G 49152 v_be)), (b_me, (arI G 1536 v_me))] sz) := by
  refine Met.ofW (cc := cX12_tells) (maxL := 6) (ret := (some .long)) (by decide) rfl ?_
  intro p e s m args below meth c s₁ B hml hv
  obtain ⟨rfl, hsz, hP, hK, hD0, hN, hT⟩ := hv
  have hx := B.exec
  have hb := B.bytes
  have hr := B.returns
  have hts : ∀ w ∈ tblG, w.before _ s = true := fun w h => atoms_spec (ws := (wsG yX12_tells cX12_tells 6 (some .long))) B.pre w (List.mem_cons_of_mem _ h)
  have hown : s.vm.findClass RX12 = some m.cls := findClass_of_methodNamed B.named
  have hlocks := B.notSynchronized
  subst hsz
  have hD := hD0.self (sz := s.heap.size)
  generalize hAe : va_A [(b_o, (oc12 u_th u_sa b_rf b_ro b_im b_ke u_fd b_tp u_td u_fr u_to u_so u_wo u_fa u_bd u_nc b_nl u_co b_op b_ar u_le b_pi b_pa u_pd u_od b_ws b_hw u_la b_se b_re u_bk u_va u_su u_ce u_ho u_wy u_bt u_ps b_pt u_tg u_sn b_ip u_ic b_ah b_be b_me u_wd b_tr b_ld u_st b_wn u_id)), (b_ro, (arI G 5740 v_ro)), (b_se, (arJ G 13 v_se)), (b_re, (arJ G 400 v_re)), (b_pt, (arI G 200 v_pt)), (b_ah, (arJ G 49152 v_ah)), (b_be, (arJ G 49152 v_be)), (b_me, (arI G 1536 v_me))] s.heap.size = A at hD hT ⊢
  have hA : ∀ q : Nat, s.heap.size ≤ q → A q := fun q h => by rw [← hAe]; exact Or.inr h
  have hS : va_S A s.heap s.heap [] := va_S.rf
  have hP : va_P G.1 vwCl [(b_o, (oc12 u_th u_sa b_rf b_ro b_im b_ke u_fd b_tp u_td u_fr u_to u_so u_wo u_fa u_bd u_nc b_nl u_co b_op b_ar u_le b_pi b_pa u_pd u_od b_ws b_hw u_la b_se b_re u_bk u_va u_su u_ce u_ho u_wy u_bt u_ps b_pt u_tg u_sn b_ip u_ic b_ah b_be b_me u_wd b_tr b_ld u_st b_wn u_id)), (b_ro, (arI G 5740 v_ro)), (b_se, (arJ G 13 v_se)), (b_re, (arJ G 400 v_re)), (b_pt, (arI G 200 v_pt)), (b_ah, (arJ G 49152 v_ah)), (b_be, (arJ G 49152 v_be)), (b_me, (arI G 1536 v_me))] s.heap := hP
  have hl := lv_entry ([.ref b_o, .int p_1, .int p_2, .int p_3]) (n := 6) (Nat.le_of_ble_eq_true rfl)
  rw [lg_entry_eq]
  generalize (lg_sl ([.ref b_o, .int p_1, .int p_2, .int p_3]) ++ List.replicate (6 - (lg_sl ([.ref b_o, .int p_1, .int p_2, .int p_3])).length) Slot.unset).toArray = ls at hl ⊢
  have hl : lv_has ls 6 [(0, .ref b_o), (1, .int p_1), (2, .int p_2), (3, .int p_3)] := hl
  refine lv_aload_n hx hb dX12_tells_0 rfl (lv_at hl 0 rfl) ?_
  refine lv_iconst (v := 0) hx hb dX12_tells_1 (by decide) ?_
  refine va_put (D := G.1) (ci := 12) (v := .int 0) (ty := .int) (C := RX12) (T := TX12) (N := 52) hx hb hts inG_X12 tyX12 tyX12_ok nmX12 hown hK hP hD hS 0 rfl rfl 0 (by decide) (hts _ fl_X12_107) (fun _ h9 => h9) rfl (by decide +kernel) rfl rfl (Nat.le_of_ble_eq_true rfl) dX12_tells_2 (fun H locs hP hD hS => ?_)
  refine g5_rs [(b_o, (oc12 0 u_sa b_rf b_ro b_im b_ke u_fd b_tp u_td u_fr u_to u_so u_wo u_fa u_bd u_nc b_nl u_co b_op b_ar u_le b_pi b_pa u_pd u_od b_ws b_hw u_la b_se b_re u_bk u_va u_su u_ce u_ho u_wy u_bt u_ps b_pt u_tg u_sn b_ip u_ic b_ah b_be b_me u_wd b_tr b_ld u_st b_wn u_id)), (b_ro, (arI G 5740 v_ro)), (b_se, (arJ G 13 v_se)), (b_re, (arJ G 400 v_re)), (b_pt, (arI G 200 v_pt)), (b_ah, (arJ G 49152 v_ah)), (b_be, (arJ G 49152 v_be)), (b_me, (arI G 1536 v_me))] hP hD (fun hP hD => ?_)
  refine lv_iload_n hx hb dX12_tells_5 rfl (lv_at hl 1 rfl) ?_
  refine lv_iload_n hx hb dX12_tells_6 rfl (lv_at hl 2 rfl) ?_
  refine lv_iload_n hx hb dX12_tells_7 rfl (lv_at hl 3 rfl) ?_
  obtain ⟨hPc, hDc, hFc⟩ := g5_sub3 (wc := []) hP hD hS hA [] (by decide) rfl
  refine va_calli (va_runS (As := [.int p_1, .int p_2, .int p_3]) (rest := []) ⟨hx, hb, hml, hown, hts⟩ (n_isLook l G H.size p_1 p_2 p_3) (va_cwS 3 hts gS_X12_397 rfl rfl rfl hs_X12_isLook ⟨Nat.le_of_ble_eq_true rfl, Nat.le_of_ble_eq_true rfl⟩) (g5_preS hPc hK hDc hN hT hS hFc) rfl rfl hl.1 rfl (lv_room (Nat.le_of_ble_eq_true rfl)) dX12_tells_8 ⟨Nat.le_of_ble_eq_true rfl, Nat.le_of_ble_eq_true rfl⟩) hS (fun q _ h => hFc q h) hFc (fun r u t H1 locs ht hvm hw hB hz1 hk1 hS => ?_)
  obtain ⟨hP1, hD1⟩ := hB
  rw [ht] at hP1
  rcases hw with ⟨i_1, i_2, i_3, rfl, rfl⟩ | ⟨rfl, rfl⟩
  ·
    have i_1 : 0 ≤ p_1.toInt ∧ p_1.toInt ≤ 63 := i_1
    have i_2 : 0 ≤ p_2.toInt ∧ p_2.toInt ≤ 3 := i_2
    have i_3 : 0 ≤ p_3.toInt ∧ p_3.toInt ≤ 23 := i_3
    have hP := g5_same hP hk1
    generalize H1 = H at hP hS ⊢
    refine lv_if_ne (tgt := 18) hx hb dX12_tells_11 (by decide) (fun c_4 => ?_) (fun c_4 => ?_)
    ·
      refine lv_aload_n hx hb dX12_tells_18 rfl (lv_at hl 0 rfl) ?_
      refine lv_sipush (v := 1023) hx hb dX12_tells_19 (by decide) ?_
      refine lv_iload_n hx hb dX12_tells_22 rfl (lv_at hl 1 rfl) ?_
      refine lv_iload_n hx hb dX12_tells_23 rfl (lv_at hl 2 rfl) ?_
      refine lv_iload_n hx hb dX12_tells_24 rfl (lv_at hl 3 rfl) ?_
      obtain ⟨hPc, hDc, hFc⟩ := g5_sub3 (wc := [(b_o, (oc12 0 u_sa b_rf b_ro b_im b_ke u_fd b_tp u_td u_fr u_to u_so u_wo u_fa u_bd u_nc b_nl u_co b_op b_ar u_le b_pi b_pa u_pd u_od b_ws b_hw u_la b_se b_re u_bk u_va u_su u_ce u_ho u_wy u_bt u_ps b_pt u_tg u_sn b_ip u_ic b_ah b_be b_me u_wd b_tr b_ld u_st b_wn u_id)), (b_ro, (arI G 5740 v_ro)), (b_se, (arJ G 13 v_se)), (b_re, (arJ G 400 v_re)), (b_pt, (arI G 200 v_pt)), (b_ah, (arJ G 49152 v_ah)), (b_be, (arJ G 49152 v_be)), (b_me, (arI G 1536 v_me))]) hP hD hS hA [0, 1, 2, 3, 4, 5, 6, 7] (by decide) rfl
      refine va_callv (va_runV (As := [.int 1023, .int p_1, .int p_2, .int p_3]) (rest := []) ⟨hx, hb, hml, hown, hts⟩ (n_countForP l G b_o b_ro b_se b_re b_pt b_ah b_be b_me b_rf b_im b_ke b_tp b_nl b_op b_ar b_pi b_pa b_ws b_hw b_ip b_tr b_ld b_wn H.size 0 u_sa u_fd u_td u_fr u_to u_so u_fa u_bd u_nc u_co u_le u_pd u_od u_la u_bk u_ce u_ho u_wy u_bt u_ps u_tg u_sn u_ic u_wd u_id 1023 p_1 p_2 p_3 u_wo u_va u_su u_st v_ro v_se v_re v_pt v_ah v_be v_me h_u_td h_u_fr h_u_to h_u_bd h_u_nc h_u_co h_u_pd h_u_la h_u_bk h_u_ce h_u_ho h_u_wy h_u_bt h_u_ps h_u_ic h_u_id i_1 ⟨by omega, by omega⟩ i_3 (r_ro) (r_pt) (r_me)) (cwV 4 hts gV_X12_425 rfl rfl rfl hv_X12_countFor ⟨Nat.le_of_ble_eq_true rfl, Nat.le_of_ble_eq_true rfl⟩) (g5_preV hPc hK hDc hN hT hS hFc (ci := 12) (q0 := 0) rfl rfl) rfl rfl hl.1 rfl (lv_room (Nat.le_of_ble_eq_true rfl)) dX12_tells_25 ⟨Nat.le_of_ble_eq_true rfl, Nat.le_of_ble_eq_true rfl⟩) hS (fun q _ h => hFc q h) hFc (fun u t H1 locs ht hvm hw hB hz1 hk1 hS => ?_)
      obtain ⟨hP1, hD1⟩ := hB
      rw [ht] at hP1
      obtain ⟨z16, z17, z18, z19, z20, z21, z22, z23, z24, z25, z26, z27, z28, z29, z30, z31, z32, z33, z34, i_5, i_6, i_7, i_8, i_9, i_10, i_11, i_12, i_13, i_14, i_15, rfl⟩ := hw
      have i_5 : 0 ≤ z16.toInt ∧ z16.toInt ≤ 4840 := i_5
      have i_6 : 0 ≤ z17.toInt ∧ z17.toInt ≤ 1 := i_6
      have i_7 : 0 ≤ z20.toInt ∧ z20.toInt ≤ 63 := i_7
      have i_8 : 0 ≤ z21.toInt ∧ z21.toInt ≤ 23 := i_8
      have i_9 : 0 ≤ z22.toInt ∧ z22.toInt ≤ 3 := i_9
      have i_10 : 0 ≤ z23.toInt ∧ z23.toInt ≤ 1000000 := i_10
      have i_11 : 0 ≤ z24.toInt ∧ z24.toInt ≤ 200 := i_11
      have i_12 : PTI z31 := i_12
      have i_13 : 0 ≤ z27.toInt ∧ z27.toInt ≤ 1 := i_13
      have i_14 : MEI z34 := i_14
      have i_15 : AH0 z32 z34 := i_15
      obtain ⟨hP, hD⟩ := va_join (wr := []) hP hD [0, 1, 2, 3, 4, 5, 6, 7] [] rfl rfl (by decide) (by decide) hk1 hFc hP1 hD1
      generalize H1 = H at hP hS ⊢
      refine g5_rs [(b_o, (oc12 0 u_sa b_rf b_ro b_im b_ke u_fd b_tp u_td u_fr u_to u_so u_wo u_fa u_bd u_nc b_nl u_co b_op b_ar u_le b_pi b_pa u_pd u_od b_ws b_hw z16 b_se b_re z17 z18 z19 z20 z21 z22 z23 z24 b_pt z25 z26 b_ip z27 b_ah b_be b_me z28 b_tr b_ld u_st b_wn u_id)), (b_ro, (arI G 5740 v_ro)), (b_se, (arJ G 13 z29)), (b_re, (arJ G 400 z30)), (b_pt, (arI G 200 z31)), (b_ah, (arJ G 49152 z32)), (b_be, (arJ G 49152 z33)), (b_me, (arI G 1536 z34))] hP hD (fun hP hD => ?_)
      refine lv_aload_n hx hb dX12_tells_28 rfl (lv_at hl 0 rfl) ?_
      obtain ⟨hPc, hDc, hFc⟩ := g5_sub3 (wc := [(b_o, (oc12 0 u_sa b_rf b_ro b_im b_ke u_fd b_tp u_td u_fr u_to u_so u_wo u_fa u_bd u_nc b_nl u_co b_op b_ar u_le b_pi b_pa u_pd u_od b_ws b_hw z16 b_se b_re z17 z18 z19 z20 z21 z22 z23 z24 b_pt z25 z26 b_ip z27 b_ah b_be b_me z28 b_tr b_ld u_st b_wn u_id)), (b_ah, (arJ G 49152 z32)), (b_be, (arJ G 49152 z33))]) hP hD hS hA [0, 5, 6] (by decide) rfl
      refine va_calll (va_runV (As := []) (rest := []) ⟨hx, hb, hml, hown, hts⟩ (n_allRows l G b_o b_ah b_be b_rf b_ro b_im b_ke b_tp b_nl b_op b_ar b_pi b_pa b_ws b_hw b_se b_re b_pt b_ip b_me b_tr b_ld b_wn H.size 0 u_sa u_fd u_td u_fr u_to u_so u_fa u_bd u_nc u_co u_le u_pd u_od z16 z17 z20 z21 z22 z23 z24 z25 z26 z27 z28 u_id u_wo z18 z19 u_st z32 z33 h_u_td h_u_fr h_u_to h_u_bd h_u_nc h_u_co h_u_pd i_5 i_6 i_7 i_8 i_9 i_10 i_11 i_13 h_u_id) (cwV 0 hts gV_X12_447 rfl rfl rfl hv_X12_allRows ⟨Nat.le_of_ble_eq_true rfl, Nat.le_of_ble_eq_true rfl⟩) (g5_preV hPc hK hDc hN hT hS hFc (ci := 12) (q0 := 0) rfl rfl) rfl rfl hl.1 rfl (lv_room (Nat.le_of_ble_eq_true rfl)) dX12_tells_29 ⟨Nat.le_of_ble_eq_true rfl, Nat.le_of_ble_eq_true rfl⟩) hS (fun q _ h => hFc q h) hFc (fun r u t H1 locs ht hvm hw hB hz1 hk1 hS => ?_)
      obtain ⟨hP1, hD1⟩ := hB
      rw [ht] at hP1
      obtain ⟨z35, y36, rfl⟩ := hw
      obtain ⟨hP, hD⟩ := va_join (wr := [(b_ro, (arI G 5740 v_ro)), (b_se, (arJ G 13 z29)), (b_re, (arJ G 400 z30)), (b_pt, (arI G 200 z31)), (b_me, (arI G 1536 z34))]) hP hD [0, 5, 6] [1, 2, 3, 4, 7] rfl rfl (by decide) (by decide) hk1 hFc hP1 hD1
      generalize H1 = H at hP hS ⊢
      refine g5_rs [(b_ro, (arI G 5740 v_ro)), (b_se, (arJ G 13 z29)), (b_re, (arJ G 400 z30)), (b_pt, (arI G 200 z31)), (b_me, (arI G 1536 z34)), (b_o, (oc12 0 u_sa b_rf b_ro b_im b_ke u_fd b_tp u_td u_fr u_to u_so u_wo u_fa u_bd u_nc b_nl u_co b_op b_ar u_le b_pi b_pa u_pd u_od b_ws b_hw z16 b_se b_re z17 z18 z19 z20 z21 z22 z23 z24 b_pt z25 z26 b_ip z27 b_ah b_be b_me z28 b_tr b_ld u_st b_wn u_id)), (b_ah, (arJ G 49152 z32)), (b_be, (arJ G 49152 z33))] hP hD (fun hP hD => ?_)
      refine g5_tl (v := z35) y36 ?_
      refine lv_lstore (lv' := [(4, .long z35), (0, .ref b_o), (1, .int p_1), (2, .int p_2), (3, .int p_3)]) hx hb dX12_tells_32 hl (by decide) rfl (fun ls hl => ?_)
      refine lv_aload_n hx hb dX12_tells_34 rfl (lv_at hl 1 rfl) ?_
      obtain ⟨hPc, hDc, hFc⟩ := g5_sub3 (wc := [(b_o, (oc12 0 u_sa b_rf b_ro b_im b_ke u_fd b_tp u_td u_fr u_to u_so u_wo u_fa u_bd u_nc b_nl u_co b_op b_ar u_le b_pi b_pa u_pd u_od b_ws b_hw z16 b_se b_re z17 z18 z19 z20 z21 z22 z23 z24 b_pt z25 z26 b_ip z27 b_ah b_be b_me z28 b_tr b_ld u_st b_wn u_id)), (b_ro, (arI G 5740 v_ro)), (b_se, (arJ G 13 z29)), (b_re, (arJ G 400 z30)), (b_pt, (arI G 200 z31)), (b_ah, (arJ G 49152 z32)), (b_be, (arJ G 49152 z33)), (b_me, (arI G 1536 z34))]) hP hD hS hA [5, 0, 1, 2, 3, 6, 7, 4] (by decide) rfl
      refine va_callv (va_runV (As := []) (rest := []) ⟨hx, hb, hml, hown, hts⟩ (n_countRowsP l G b_o b_ro b_se b_re b_pt b_ah b_be b_me b_rf b_im b_ke b_tp b_nl b_op b_ar b_pi b_pa b_ws b_hw b_ip b_tr b_ld b_wn H.size 0 u_sa u_fd u_td u_fr u_to u_so u_fa u_bd u_nc u_co u_le u_pd u_od z16 z17 z20 z21 z22 z23 z24 z25 z26 z27 z28 u_id u_wo z18 z19 u_st v_ro z29 z30 z31 z32 z33 z34 h_u_td h_u_fr h_u_to h_u_bd h_u_nc h_u_co h_u_pd i_5 i_6 i_7 i_8 i_9 i_10 i_11 i_13 h_u_id (r_ro) (i_12) (i_14) (i_15)) (cwV 0 hts gV_X12_444 rfl rfl rfl hv_X12_countRows ⟨Nat.le_of_ble_eq_true rfl, Nat.le_of_ble_eq_true rfl⟩) (g5_preV hPc hK hDc hN hT hS hFc (ci := 12) (q0 := 0) rfl rfl) rfl rfl hl.1 rfl (lv_room (Nat.le_of_ble_eq_true rfl)) dX12_tells_35 ⟨Nat.le_of_ble_eq_true rfl, Nat.le_of_ble_eq_true rfl⟩) hS (fun q _ h => hFc q h) hFc (fun u t H1 locs ht hvm hw hB hz1 hk1 hS => ?_)
      obtain ⟨hP1, hD1⟩ := hB
      rw [ht] at hP1
      obtain ⟨z48, z49, z50, z51, z52, z53, z54, z55, z56, z57, z58, z59, z60, z61, z62, z63, z64, z65, z66, i_37, i_38, i_39, i_40, i_41, i_42, i_43, i_44, i_45, i_46, i_47, rfl⟩ := hw
      have i_37 : 0 ≤ z48.toInt ∧ z48.toInt ≤ 4840 := i_37
      have i_38 : 0 ≤ z49.toInt ∧ z49.toInt ≤ 1 := i_38
      have i_39 : 0 ≤ z52.toInt ∧ z52.toInt ≤ 63 := i_39
      have i_40 : 0 ≤ z53.toInt ∧ z53.toInt ≤ 23 := i_40
      have i_41 : 0 ≤ z54.toInt ∧ z54.toInt ≤ 3 := i_41
      have i_42 : 0 ≤ z55.toInt ∧ z55.toInt ≤ 1000000 := i_42
      have i_43 : 0 ≤ z56.toInt ∧ z56.toInt ≤ 200 := i_43
      have i_44 : PTI z63 := i_44
      have i_45 : 0 ≤ z59.toInt ∧ z59.toInt ≤ 1 := i_45
      have i_46 : MEI z66 := i_46
      have i_47 : AH0 z64 z66 := i_47
      obtain ⟨hP, hD⟩ := va_join (wr := []) hP hD [5, 0, 1, 2, 3, 6, 7, 4] [] rfl rfl (by decide) (by decide) hk1 hFc hP1 hD1
      generalize H1 = H at hP hS ⊢
      refine g5_rs [(b_o, (oc12 0 u_sa b_rf b_ro b_im b_ke u_fd b_tp u_td u_fr u_to u_so u_wo u_fa u_bd u_nc b_nl u_co b_op b_ar u_le b_pi b_pa u_pd u_od b_ws b_hw z48 b_se b_re z49 z50 z51 z52 z53 z54 z55 z56 b_pt z57 z58 b_ip z59 b_ah b_be b_me z60 b_tr b_ld u_st b_wn u_id)), (b_ro, (arI G 5740 v_ro)), (b_se, (arJ G 13 z61)), (b_re, (arJ G 400 z62)), (b_pt, (arI G 200 z63)), (b_ah, (arJ G 49152 z64)), (b_be, (arJ G 49152 z65)), (b_me, (arI G 1536 z66))] hP hD (fun hP hD => ?_)
      refine lv_aload_n hx hb dX12_tells_38 rfl (lv_at hl 1 rfl) ?_
      obtain ⟨hPc, hDc, hFc⟩ := g5_sub3 (wc := [(b_o, (oc12 0 u_sa b_rf b_ro b_im b_ke u_fd b_tp u_td u_fr u_to u_so u_wo u_fa u_bd u_nc b_nl u_co b_op b_ar u_le b_pi b_pa u_pd u_od b_ws b_hw z48 b_se b_re z49 z50 z51 z52 z53 z54 z55 z56 b_pt z57 z58 b_ip z59 b_ah b_be b_me z60 b_tr b_ld u_st b_wn u_id)), (b_ah, (arJ G 49152 z64)), (b_be, (arJ G 49152 z65))]) hP hD hS hA [0, 5, 6] (by decide) rfl
      refine va_calll (va_runV (As := []) (rest := []) ⟨hx, hb, hml, hown, hts⟩ (n_allRows l G b_o b_ah b_be b_rf b_ro b_im b_ke b_tp b_nl b_op b_ar b_pi b_pa b_ws b_hw b_se b_re b_pt b_ip b_me b_tr b_ld b_wn H.size 0 u_sa u_fd u_td u_fr u_to u_so u_fa u_bd u_nc u_co u_le u_pd u_od z48 z49 z52 z53 z54 z55 z56 z57 z58 z59 z60 u_id u_wo z50 z51 u_st z64 z65 h_u_td h_u_fr h_u_to h_u_bd h_u_nc h_u_co h_u_pd i_37 i_38 i_39 i_40 i_41 i_42 i_43 i_45 h_u_id) (cwV 0 hts gV_X12_447 rfl rfl rfl hv_X12_allRows ⟨Nat.le_of_ble_eq_true rfl, Nat.le_of_ble_eq_true rfl⟩) (g5_preV hPc hK hDc hN hT hS hFc (ci := 12) (q0 := 0) rfl rfl) rfl rfl hl.1 rfl (lv_room (Nat.le_of_ble_eq_true rfl)) dX12_tells_39 ⟨Nat.le_of_ble_eq_true rfl, Nat.le_of_ble_eq_true rfl⟩) hS (fun q _ h => hFc q h) hFc (fun r u t H1 locs ht hvm hw hB hz1 hk1 hS => ?_)
      obtain ⟨hP1, hD1⟩ := hB
      rw [ht] at hP1
      obtain ⟨z67, y68, rfl⟩ := hw
      obtain ⟨hP, hD⟩ := va_join (wr := [(b_ro, (arI G 5740 v_ro)), (b_se, (arJ G 13 z61)), (b_re, (arJ G 400 z62)), (b_pt, (arI G 200 z63)), (b_me, (arI G 1536 z66))]) hP hD [0, 5, 6] [1, 2, 3, 4, 7] rfl rfl (by decide) (by decide) hk1 hFc hP1 hD1
      generalize H1 = H at hP hS ⊢
      refine g5_rs [(b_ro, (arI G 5740 v_ro)), (b_se, (arJ G 13 z61)), (b_re, (arJ G 400 z62)), (b_pt, (arI G 200 z63)), (b_me, (arI G 1536 z66)), (b_o, (oc12 0 u_sa b_rf b_ro b_im b_ke u_fd b_tp u_td u_fr u_to u_so u_wo u_fa u_bd u_nc b_nl u_co b_op b_ar u_le b_pi b_pa u_pd u_od b_ws b_hw z48 b_se b_re z49 z50 z51 z52 z53 z54 z55 z56 b_pt z57 z58 b_ip z59 b_ah b_be b_me z60 b_tr b_ld u_st b_wn u_id)), (b_ah, (arJ G 49152 z64)), (b_be, (arJ G 49152 z65))] hP hD (fun hP hD => ?_)
      refine g5_tl (v := z67) y68 ?_
      refine lv_lload hx hb dX12_tells_42 (lv_at hl 0 rfl) ?_
      refine lv_lsub hx hb dX12_tells_44 ?_
      exact W.lret (v := (z67 - z35)) hx hb hr (fun t ht hW => ⟨⟨(z67 - z35), [(b_o, (oc12 0 u_sa b_rf b_ro b_im b_ke u_fd b_tp u_td u_fr u_to u_so u_wo u_fa u_bd u_nc b_nl u_co b_op b_ar u_le b_pi b_pa u_pd u_od b_ws b_hw z48 b_se b_re z49 z50 z51 z52 z53 z54 z55 z56 b_pt z57 z58 b_ip z59 b_ah b_be b_me z60 b_tr b_ld u_st b_wn u_id)), (b_ro, (arI G 5740 v_ro)), (b_se, (arJ G 13 z61)), (b_re, (arJ G 400 z62)), (b_pt, (arI G 200 z63)), (b_ah, (arJ G 49152 z64)), (b_be, (arJ G 49152 z65)), (b_me, (arI G 1536 z66))], rfl, ⟨(z67 - z35), 0, z48, z49, z50, z51, z52, z53, z54, z55, z56, z57, z58, z59, z60, z61, z62, z63, z64, z65, z66, i_37, i_38, i_39, i_40, i_41, i_42, i_43, i_44, i_45, i_46, i_47, rfl, rfl⟩, by rw [ht]; exact hP.sub [5, 0, 1, 2, 3, 6, 7, 4] rfl, hD.sub [5, 0, 1, 2, 3, 6, 7, 4] (by decide) rfl⟩, hS.F ht⟩) hS.2.2 dX12_tells_45
    ·
      exact absurd c_4 (by decide)
  ·
    have hP := g5_same hP hk1
    generalize H1 = H at hP hS ⊢
    refine lv_if_ne (tgt := 18) hx hb dX12_tells_11 (by decide) (fun c_69 => ?_) (fun c_69 => ?_)
    ·
      exact absurd c_69 (by decide)
    ·
      refine lv_ldc2 (v := (-1)) hx hb hown (hts _ kl_X12_178) dX12_tells_14 ?_
      exact W.lret (v := (-1)) hx hb hr (fun t ht hW => ⟨⟨(-1), [(b_o, (oc12 0 u_sa b_rf b_ro b_im b_ke u_fd b_tp u_td u_fr u_to u_so u_wo u_fa u_bd u_nc b_nl u_co b_op b_ar u_le b_pi b_pa u_pd u_od b_ws b_hw u_la b_se b_re u_bk u_va u_su u_ce u_ho u_wy u_bt u_ps b_pt u_tg u_sn b_ip u_ic b_ah b_be b_me u_wd b_tr b_ld u_st b_wn u_id)), (b_ro, (arI G 5740 v_ro)), (b_se, (arJ G 13 v_se)), (b_re, (arJ G 400 v_re)), (b_pt, (arI G 200 v_pt)), (b_ah, (arJ G 49152 v_ah)), (b_be, (arJ G 49152 v_be)), (b_me, (arI G 1536 v_me))], rfl, ⟨(-1), 0, u_la, u_bk, u_va, u_su, u_ce, u_ho, u_wy, u_bt, u_ps, u_tg, u_sn, u_ic, u_wd, v_se, v_re, v_pt, v_ah, v_be, v_me, h_u_la, h_u_bk, h_u_ce, h_u_ho, h_u_wy, h_u_bt, h_u_ps, r_pt, h_u_ic, r_me, e_ah, rfl, rfl⟩, by rw [ht]; exact hP.sub [0, 1, 2, 3, 4, 5, 6, 7] rfl, hD.sub [0, 1, 2, 3, 4, 5, 6, 7] (by decide) rfl⟩, hS.F ht⟩) hS.2.2 dX12_tells_17
