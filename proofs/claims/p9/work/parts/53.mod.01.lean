set_option maxHeartbeats 4000000 in
set_option maxRecDepth 100000 in
theorem n_countForP (l : Launch) (G : g5_G) (b_o b_ro b_se b_re b_pt b_ah b_be b_me b_rf b_im b_ke b_tp b_nl b_op b_ar b_pi b_pa b_ws b_hw b_ip b_tr b_ld b_wn : Nat) (sz : Nat) (u_th : Int32) (u_sa : Int32) (u_fd : Int32) (u_td : Int32) (u_fr : Int32) (u_to : Int32) (u_so : Int32) (u_fa : Int32) (u_bd : Int32) (u_nc : Int32) (u_co : Int32) (u_le : Int32) (u_pd : Int32) (u_od : Int32) (u_la : Int32) (u_bk : Int32) (u_ce : Int32) (u_ho : Int32) (u_wy : Int32) (u_bt : Int32) (u_ps : Int32) (u_tg : Int32) (u_sn : Int32) (u_ic : Int32) (u_wd : Int32) (u_id : Int32) (p_1 : Int32) (p_2 : Int32) (p_3 : Int32) (p_4 : Int32) (u_wo : Int64) (u_va : Int64) (u_su : Int64) (u_st : Int64) (v_ro : Nat → Int32) (v_se : Nat → Int64) (v_re : Nat → Int64) (v_pt : Nat → Int32) (v_ah : Nat → Int64) (v_be : Nat → Int64) (v_me : Nat → Int32) (h_u_td : 0 ≤ u_td.toInt ∧ u_td.toInt ≤ 400) (h_u_fr : 0 ≤ u_fr.toInt ∧ u_fr.toInt ≤ 400) (h_u_to : 0 ≤ u_to.toInt ∧ u_to.toInt ≤ 400) (h_u_bd : 0 ≤ u_bd.toInt ∧ u_bd.toInt ≤ 1) (h_u_nc : 0 ≤ u_nc.toInt ∧ u_nc.toInt ≤ 12) (h_u_co : 0 ≤ u_co.toInt ∧ u_co.toInt ≤ 400) (h_u_pd : 0 ≤ u_pd.toInt ∧ u_pd.toInt ≤ 400) (h_u_la : 0 ≤ u_la.toInt ∧ u_la.toInt ≤ 4840) (h_u_bk : 0 ≤ u_bk.toInt ∧ u_bk.toInt ≤ 1) (h_u_ce : 0 ≤ u_ce.toInt ∧ u_ce.toInt ≤ 63) (h_u_ho : 0 ≤ u_ho.toInt ∧ u_ho.toInt ≤ 23) (h_u_wy : 0 ≤ u_wy.toInt ∧ u_wy.toInt ≤ 3) (h_u_bt : 0 ≤ u_bt.toInt ∧ u_bt.toInt ≤ 1000000) (h_u_ps : 0 ≤ u_ps.toInt ∧ u_ps.toInt ≤ 200) (h_u_ic : 0 ≤ u_ic.toInt ∧ u_ic.toInt ≤ 1) (h_u_id : 0 ≤ u_id.toInt ∧ u_id.toInt ≤ 1) (h_p_2 : 0 ≤ p_2.toInt ∧ p_2.toInt ≤ 63) (h_p_3 : (-1) ≤ p_3.toInt ∧ p_3.toInt ≤ 3) (h_p_4 : 0 ≤ p_4.toInt ∧ p_4.toInt ≤ 23) (r_ro : MI v_ro) (r_pt : PTI v_pt) (r_me : MEI v_me) : Met l yX12_countFor (wsG yX12_countFor cX12_countFor 7 none) ({ frames := 8, cells := 0, slots := 0, locals := 205 }) (va_Pc [.ref b_o, .int p_1, .int p_2, .int p_3, .int p_4] (g5_P G [(b_o, (oc12 u_th u_sa b_rf b_ro b_im b_ke u_fd b_tp u_td u_fr u_to u_so u_wo u_fa u_bd u_nc b_nl u_co b_op b_ar u_le b_pi b_pa u_pd u_od b_ws b_hw u_la b_se b_re u_bk u_va u_su u_ce u_ho u_wy u_bt u_ps b_pt u_tg u_sn b_ip u_ic b_ah b_be b_me u_wd b_tr b_ld u_st b_wn u_id)), (b_ro, (arI G 5740 v_ro)), (b_se, (arJ G 13 v_se)), (b_re, (arJ G 400 v_re)), (b_pt, (arI G 200 v_pt)), (b_ah, (arJ G 49152 v_ah)), (b_be, (arJ G 49152 v_be)), (b_me, (arI G 1536 v_me))] sz)) (va_Qv (fun (u : va_W) => (∃ (o_la : Int32) (o_bk : Int32) (o_va : Int64) (o_su : Int64) (o_ce : Int32) (o_ho : Int32) (o_wy : Int32) (o_bt : Int32) (o_ps : Int32) (o_tg : Int32) (o_sn : Int32) (o_ic : Int32) (o_wd : Int32) (o_se : Nat → Int64) (o_re : Nat → Int64) (o_pt : Nat → Int32) (o_ah : Nat → Int64) (o_be : Nat → Int64) (o_me : Nat → Int32), (0 ≤ o_la.toInt ∧ o_la.toInt ≤ 4840) ∧ (0 ≤ o_bk.toInt ∧ o_bk.toInt ≤ 1) ∧ (0 ≤ o_ce.toInt ∧ o_ce.toInt ≤ 63) ∧ (0 ≤ o_ho.toInt ∧ o_ho.toInt ≤ 23) ∧ (0 ≤ o_wy.toInt ∧ o_wy.toInt ≤ 3) ∧ (0 ≤ o_bt.toInt ∧ o_bt.toInt ≤ 1000000) ∧ (0 ≤ o_ps.toInt ∧ o_ps.toInt ≤ 200) ∧ (PTI o_pt) ∧ (0 ≤ o_ic.toInt ∧ o_ic.toInt ≤ 1) ∧ (MEI o_me) ∧ (AH0 o_ah o_me) ∧ (u = [(b_o, (oc12 u_th u_sa b_rf b_ro b_im b_ke u_fd b_tp u_td u_fr u_to u_so u_wo u_fa u_bd u_nc b_nl u_co b_op b_ar u_le b_pi b_pa u_pd u_od b_ws b_hw o_la b_se b_re o_bk o_va o_su o_ce o_ho o_wy o_bt o_ps b_pt o_tg o_sn b_ip o_ic b_ah b_be b_me o_wd b_tr b_ld u_st b_wn u_id)), (b_ro, (arI G 5740 v_ro)), (b_se, (arJ G 13 o_se)), (b_re, (arJ G 400 o_re)), (b_pt, (arI G 200 o_pt)), (b_ah, (arJ G 49152 o_ah)), (b_be, (arJ G 49152 o_be)), (b_me, (arI G 1536 o_me))]))) (g5_B G (va_A [(b_o, (oc12 u_th u_sa b_rf b_ro b_im b_ke u_fd b_tp u_td u_fr u_to u_so u_wo u_fa u_bd u_nc b_nl u_co b_op b_ar u_le b_pi b_pa u_pd u_od b_ws b_hw u_la b_se b_re u_bk u_va u_su u_ce u_ho u_wy u_bt u_ps b_pt u_tg u_sn b_ip u_ic b_ah b_be b_me u_wd b_tr b_ld u_st b_wn u_id)), (b_ro, (arI G 5740 v_ro)), (b_se, (arJ G 13 v_se)), (b_re, (arJ G 400 v_re)), (b_pt, (arI G 200 v_pt)), (b_ah, (arJ G 49152 v_ah)), (b_be, (arJ G 49152 v_be)), (b_me, (arI G 1536 v_me))] sz)) (va_A [(b_o, (oc12 u_th u_sa b_rf b_ro b_im b_ke u_fd b_tp u_td u_fr u_to u_so u_wo u_fa u_bd u_nc b_nl u_co b_op b_ar u_le b_pi b_pa u_pd u_od b_ws b_hw u_la b_se b_re u_bk u_va u_su u_ce u_ho u_wy u_bt u_ps b_pt u_tg u_sn b_ip u_ic b_ah b_be b_me u_wd b_tr b_ld u_st b_wn u_id)), (b_ro, (arI G 5740 v_ro)), (b_se, (arJ G 13 v_se)), (b_re, (arJ G 400 v_re)), (b_pt, (arI G 200 v_pt)), (b_ah, (arJ G 49152 v_ah)), (b_be, (arJ G 49152 v_be)), (b_me, (arI G 1536 v_me))] sz)) 0 0 (va_A [(b_o, (oc12 u_th u_sa b_rf b_ro b_im b_ke u_fd b_tp u_td u_fr u_to u_so u_wo u_fa u_bd u_nc b_nl u_co b_op b_ar u_le b_pi b_pa u_pd u_od b_ws b_hw u_la b_se b_re u_bk u_va u_su u_ce u_ho u_wy u_bt u_ps b_pt u_tg u_sn b_ip u_ic b_ah b_be b_me u_wd b_tr b_ld u_st b_wn u_id)), (b_ro, (arI G 5740 v_ro)), (b_se, (arJ G 13 v_se)), (b_re, (arJ G 400 v_re)), (b_pt, (arI G 200 v_pt)), (b_ah, (arJ G 49152 v_ah)), (b_be, (arJ G 49152 v_be)), (b_me, (arI G 1536 v_me))] sz) := by
  refine Met.ofW (cc := cX12_countFor) (maxL := 7) (ret := none) (by decide) rfl ?_
  intro p e s m args below meth c s₁ B hml hv
  obtain ⟨rfl, hsz, hP, hK, hD0, hN, hT⟩ := hv
  have hx := B.exec
  have hb := B.bytes
  have hr := B.returns
  have hts : ∀ w ∈ tblG, w.before _ s = true := fun w h => atoms_spec (ws := (wsG yX12_countFor cX12_countFor 7 none)) B.pre w (List.mem_cons_of_mem _ h)
  have hown : s.vm.findClass RX12 = some m.cls := findClass_of_methodNamed B.named
  have hlocks := B.notSynchronized
  subst hsz
  have hD := hD0.self (sz := s.heap.size)
  generalize hAe : va_A [(b_o, (oc12 u_th u_sa b_rf b_ro b_im b_ke u_fd b_tp u_td u_fr u_to u_so u_wo u_fa u_bd u_nc b_nl u_co b_op b_ar u_le b_pi b_pa u_pd u_od b_ws b_hw u_la b_se b_re u_bk u_va u_su u_ce u_ho u_wy u_bt u_ps b_pt u_tg u_sn b_ip u_ic b_ah b_be b_me u_wd b_tr b_ld u_st b_wn u_id)), (b_ro, (arI G 5740 v_ro)), (b_se, (arJ G 13 v_se)), (b_re, (arJ G 400 v_re)), (b_pt, (arI G 200 v_pt)), (b_ah, (arJ G 49152 v_ah)), (b_be, (arJ G 49152 v_be)), (b_me, (arI G 1536 v_me))] s.heap.size = A at hD hT ⊢
  have hA : ∀ q : Nat, s.heap.size ≤ q → A q := fun q h => by rw [← hAe]; exact Or.inr h
  have hS : va_S A s.heap s.heap [] := va_S.rf
  have hP : va_P G.1 vwCl [(b_o, (oc12 u_th u_sa b_rf b_ro b_im b_ke u_fd b_tp u_td u_fr u_to u_so u_wo u_fa u_bd u_nc b_nl u_co b_op b_ar u_le b_pi b_pa u_pd u_od b_ws b_hw u_la b_se b_re u_bk u_va u_su u_ce u_ho u_wy u_bt u_ps b_pt u_tg u_sn b_ip u_ic b_ah b_be b_me u_wd b_tr b_ld u_st b_wn u_id)), (b_ro, (arI G 5740 v_ro)), (b_se, (arJ G 13 v_se)), (b_re, (arJ G 400 v_re)), (b_pt, (arI G 200 v_pt)), (b_ah, (arJ G 49152 v_ah)), (b_be, (arJ G 49152 v_be)), (b_me, (arI G 1536 v_me))] s.heap := hP
  have hl := lv_entry ([.ref b_o, .int p_1, .int p_2, .int p_3, .int p_4]) (n := 7) (Nat.le_of_ble_eq_true rfl)
  rw [lg_entry_eq]
  generalize (lg_sl ([.ref b_o, .int p_1, .int p_2, .int p_3, .int p_4]) ++ List.replicate (7 - (lg_sl ([.ref b_o, .int p_1, .int p_2, .int p_3, .int p_4])).length) Slot.unset).toArray = ls at hl ⊢
  have hl : lv_has ls 7 [(0, .ref b_o), (1, .int p_1), (2, .int p_2), (3, .int p_3), (4, .int p_4)] := hl
  refine lv_aload_n hx hb dX12_countFor_0 rfl (lv_at hl 0 rfl) ?_
  refine lv_iconst (v := 0) hx hb dX12_countFor_1 (by decide) ?_
  refine va_put (D := G.1) (ci := 12) (v := .int 0) (ty := .boolean) (C := RX12) (T := TX12) (N := 52) hx hb hts inG_X12 tyX12 tyX12_ok nmX12 hown hK hP hD hS 0 rfl rfl 42 (by decide) (hts _ fl_X12_113) (fun _ h9 => h9) rfl (by decide +kernel) rfl rfl (Nat.le_of_ble_eq_true rfl) dX12_countFor_2 (fun H locs hP hD hS => ?_)
  refine g5_rs [(b_o, (oc12 u_th u_sa b_rf b_ro b_im b_ke u_fd b_tp u_td u_fr u_to u_so u_wo u_fa u_bd u_nc b_nl u_co b_op b_ar u_le b_pi b_pa u_pd u_od b_ws b_hw u_la b_se b_re u_bk u_va u_su u_ce u_ho u_wy u_bt u_ps b_pt u_tg u_sn b_ip 0 b_ah b_be b_me u_wd b_tr b_ld u_st b_wn u_id)), (b_ro, (arI G 5740 v_ro)), (b_se, (arJ G 13 v_se)), (b_re, (arJ G 400 v_re)), (b_pt, (arI G 200 v_pt)), (b_ah, (arJ G 49152 v_ah)), (b_be, (arJ G 49152 v_be)), (b_me, (arI G 1536 v_me))] hP hD (fun hP hD => ?_)
  refine lv_aload_n hx hb dX12_countFor_5 rfl (lv_at hl 0 rfl) ?_
  refine lv_iload_n hx hb dX12_countFor_6 rfl (lv_at hl 1 rfl) ?_
  refine lv_iload_n hx hb dX12_countFor_7 rfl (lv_at hl 2 rfl) ?_
  refine lv_iload_n hx hb dX12_countFor_8 rfl (lv_at hl 3 rfl) ?_
  refine lv_iload hx hb dX12_countFor_9 (lv_at hl 4 rfl) ?_
  obtain ⟨hPc, hDc, hFc⟩ := g5_sub3 (wc := [(b_o, (oc12 u_th u_sa b_rf b_ro b_im b_ke u_fd b_tp u_td u_fr u_to u_so u_wo u_fa u_bd u_nc b_nl u_co b_op b_ar u_le b_pi b_pa u_pd u_od b_ws b_hw u_la b_se b_re u_bk u_va u_su u_ce u_ho u_wy u_bt u_ps b_pt u_tg u_sn b_ip 0 b_ah b_be b_me u_wd b_tr b_ld u_st b_wn u_id)), (b_ro, (arI G 5740 v_ro)), (b_se, (arJ G 13 v_se)), (b_re, (arJ G 400 v_re)), (b_pt, (arI G 200 v_pt)), (b_me, (arI G 1536 v_me))]) hP hD hS hA [0, 1, 2, 3, 4, 7] (by decide) rfl
  refine va_callv (va_runV (As := [.int p_1, .int p_2, .int p_3, .int p_4]) (rest := []) ⟨hx, hb, hml, hown, hts⟩ (n_findMeets l G b_o b_ro b_se b_re b_pt b_me b_rf b_im b_ke b_tp b_nl b_op b_ar b_pi b_pa b_ws b_hw b_ip b_ah b_be b_tr b_ld b_wn H.size u_th u_sa u_fd u_td u_fr u_to u_so u_fa u_bd u_nc u_co u_le u_pd u_od u_la u_bk u_ce u_ho u_wy u_bt u_ps u_tg u_sn 0 u_wd u_id p_1 p_2 p_3 p_4 u_wo u_va u_su u_st v_ro v_se v_re v_pt v_me h_u_td h_u_fr h_u_to h_u_bd h_u_nc h_u_co h_u_pd h_u_la h_u_bk h_u_ce h_u_ho h_u_wy h_u_bt h_u_ps ⟨by decide, by decide⟩ h_u_id h_p_2 h_p_3 h_p_4 (r_ro) (r_pt) (r_me)) (cwV 4 hts gV_X12_428 rfl rfl rfl hv_X12_findMeets ⟨Nat.le_of_ble_eq_true rfl, Nat.le_of_ble_eq_true rfl⟩) (g5_preV hPc hK hDc hN hT hS hFc (ci := 12) (q0 := 0) rfl rfl) rfl rfl hl.1 rfl (lv_room (Nat.le_of_ble_eq_true rfl)) dX12_countFor_11 ⟨Nat.le_of_ble_eq_true rfl, Nat.le_of_ble_eq_true rfl⟩) hS (fun q _ h => hFc q h) hFc (fun u t H1 locs ht hvm hw hB hz1 hk1 hS => ?_)
  obtain ⟨hP1, hD1⟩ := hB
  rw [ht] at hP1
  obtain ⟨z10, z11, z12, z13, z14, z15, z16, z17, z18, z19, z20, z21, z22, z23, z24, z25, i_1, i_2, i_3, i_4, i_5, i_6, i_7, i_8, i_9, rfl⟩ := hw
  have i_1 : 0 ≤ z10.toInt ∧ z10.toInt ≤ 4840 := i_1
  have i_2 : 0 ≤ z11.toInt ∧ z11.toInt ≤ 1 := i_2
  have i_3 : 0 ≤ z14.toInt ∧ z14.toInt ≤ 63 := i_3
  have i_4 : 0 ≤ z15.toInt ∧ z15.toInt ≤ 23 := i_4
  have i_5 : 0 ≤ z16.toInt ∧ z16.toInt ≤ 3 := i_5
  have i_6 : 0 ≤ z17.toInt ∧ z17.toInt ≤ 1000000 := i_6
  have i_7 : 0 ≤ z18.toInt ∧ z18.toInt ≤ 200 := i_7
  have i_8 : PTI z24 := i_8
  have i_9 : MEI z25 := i_9
  obtain ⟨hP, hD⟩ := va_join (wr := [(b_ah, (arJ G 49152 v_ah)), (b_be, (arJ G 49152 v_be))]) hP hD [0, 1, 2, 3, 4, 7] [5, 6] rfl rfl (by decide) (by decide) hk1 hFc hP1 hD1
  generalize H1 = H at hP hS ⊢
  refine g5_rs [(b_ah, (arJ G 49152 v_ah)), (b_be, (arJ G 49152 v_be)), (b_o, (oc12 u_th u_sa b_rf b_ro b_im b_ke u_fd b_tp u_td u_fr u_to u_so u_wo u_fa u_bd u_nc b_nl u_co b_op b_ar u_le b_pi b_pa u_pd u_od b_ws b_hw z10 b_se b_re z11 z12 z13 z14 z15 z16 z17 z18 b_pt z19 z20 b_ip 0 b_ah b_be b_me z21 b_tr b_ld u_st b_wn u_id)), (b_ro, (arI G 5740 v_ro)), (b_se, (arJ G 13 z22)), (b_re, (arJ G 400 z23)), (b_pt, (arI G 200 z24)), (b_me, (arI G 1536 z25))] hP hD (fun hP hD => ?_)
  refine lv_iconst (v := 0) hx hb dX12_countFor_14 (by decide) ?_
  refine lv_istore (lv' := [(5, .int 0), (0, .ref b_o), (1, .int p_1), (2, .int p_2), (3, .int p_3), (4, .int p_4)]) hx hb dX12_countFor_15 hl (by decide) rfl (fun ls hl => ?_)
  refine g5_loop (α := (Int32) × (Nat → Int64) × (Nat → Int64)) (fun (q : (Int32) × (Nat → Int64) × (Nat → Int64)) (ls : Array Slot) (H : Heap) (locs : List Loc) => match q with | (k17_5, k17_ah, k17_be) => lv_has ls 7 [(5, .int k17_5), (0, .ref b_o), (1, .int p_1), (2, .int p_2), (3, .int p_3), (4, .int p_4)] ∧ va_P G.1 vwCl [(b_ah, (arJ G 49152 k17_ah)), (b_be, (arJ G 49152 k17_be)), (b_o, (oc12 u_th u_sa b_rf b_ro b_im b_ke u_fd b_tp u_td u_fr u_to u_so u_wo u_fa u_bd u_nc b_nl u_co b_op b_ar u_le b_pi b_pa u_pd u_od b_ws b_hw z10 b_se b_re z11 z12 z13 z14 z15 z16 z17 z18 b_pt z19 z20 b_ip 0 b_ah b_be b_me z21 b_tr b_ld u_st b_wn u_id)), (b_ro, (arI G 5740 v_ro)), (b_se, (arJ G 13 z22)), (b_re, (arJ G 400 z23)), (b_pt, (arI G 200 z24)), (b_me, (arI G 1536 z25))] H ∧ va_D A [(b_ah, (arJ G 49152 k17_ah)), (b_be, (arJ G 49152 k17_be)), (b_o, (oc12 u_th u_sa b_rf b_ro b_im b_ke u_fd b_tp u_td u_fr u_to u_so u_wo u_fa u_bd u_nc b_nl u_co b_op b_ar u_le b_pi b_pa u_pd u_od b_ws b_hw z10 b_se b_re z11 z12 z13 z14 z15 z16 z17 z18 b_pt z19 z20 b_ip 0 b_ah b_be b_me z21 b_tr b_ld u_st b_wn u_id)), (b_ro, (arI G 5740 v_ro)), (b_se, (arJ G 13 z22)), (b_re, (arJ G 400 z23)), (b_pt, (arI G 200 z24)), (b_me, (arI G 1536 z25))] ∧ va_S A s.heap H locs ∧ (0 ≤ k17_5.toInt ∧ k17_5.toInt ≤ 49152) ∧ (∀ j : Nat, (j : Int) < k17_5.toInt → k17_ah j = 0)) (fun (q : (Int32) × (Nat → Int64) × (Nat → Int64)) => match q with | (k17_5, k17_ah, k17_be) => Int.toNat (49152 - k17_5.toInt)) (0, v_ah, v_be) ⟨lv_sub hl [0, 1, 2, 3, 4, 5] rfl, hP, hD, hS, ⟨by decide, by decide⟩, fun j h => absurd h (by have z : (0 : Int32).toInt = 0 := (by decide); omega)⟩ ?_
  rintro ⟨k17_5, k17_ah, k17_be⟩ ls H locs ⟨hl, hP, hD, hS, i_26, i_27⟩ ih_17_28
  have hl : lv_has ls 7 [(5, .int k17_5), (0, .ref b_o), (1, .int p_1), (2, .int p_2), (3, .int p_3), (4, .int p_4)] := hl
  have i_26 : 0 ≤ k17_5.toInt ∧ k17_5.toInt ≤ 49152 := i_26
  have i_27 : ∀ j : Nat, (j : Int) < k17_5.toInt → k17_ah j = 0 := i_27
  refine g5_rs [(b_ah, (arJ G 49152 k17_ah)), (b_be, (arJ G 49152 k17_be)), (b_o, (oc12 u_th u_sa b_rf b_ro b_im b_ke u_fd b_tp u_td u_fr u_to u_so u_wo u_fa u_bd u_nc b_nl u_co b_op b_ar u_le b_pi b_pa u_pd u_od b_ws b_hw z10 b_se b_re z11 z12 z13 z14 z15 z16 z17 z18 b_pt z19 z20 b_ip 0 b_ah b_be b_me z21 b_tr b_ld u_st b_wn u_id)), (b_ro, (arI G 5740 v_ro)), (b_se, (arJ G 13 z22)), (b_re, (arJ G 400 z23)), (b_pt, (arI G 200 z24)), (b_me, (arI G 1536 z25))] hP hD (fun hP hD => ?_)
  refine lv_iload hx hb dX12_countFor_17 (lv_at hl 0 rfl) ?_
  refine lv_ldc (v := 49152) hx hb hown (hts _ ki_X12_88) dX12_countFor_19 ?_
  refine lv_icmp_ge (tgt := 46) hx hb dX12_countFor_21 (by decide) (fun c_29 => ?_) (fun c_29 => ?_)
  ·
    have i_29 : k17_5.toInt ≥ 49152 := by have z := g5_ge (a := k17_5.toInt) (b := 49152) (by rfl) (by decide) c_29; omega
    refine lv_iconst (v := 0) hx hb dX12_countFor_46 (by decide) ?_
    refine lv_istore (lv' := [(5, .int 0), (0, .ref b_o), (1, .int p_1), (2, .int p_2), (3, .int p_3), (4, .int p_4)]) hx hb dX12_countFor_47 hl (by decide) rfl (fun ls hl => ?_)
    refine g5_loop (α := (Int32) × (Nat → Int64) × (Nat → Int64)) (fun (q : (Int32) × (Nat → Int64) × (Nat → Int64)) (ls : Array Slot) (H : Heap) (locs : List Loc) => match q with | (k49_5, k49_ah, k49_be) => lv_has ls 7 [(5, .int k49_5), (0, .ref b_o), (1, .int p_1), (2, .int p_2), (3, .int p_3), (4, .int p_4)] ∧ va_P G.1 vwCl [(b_ah, (arJ G 49152 k49_ah)), (b_be, (arJ G 49152 k49_be)), (b_o, (oc12 u_th u_sa b_rf b_ro b_im b_ke u_fd b_tp u_td u_fr u_to u_so u_wo u_fa u_bd u_nc b_nl u_co b_op b_ar u_le b_pi b_pa u_pd u_od b_ws b_hw z10 b_se b_re z11 z12 z13 z14 z15 z16 z17 z18 b_pt z19 z20 b_ip 0 b_ah b_be b_me z21 b_tr b_ld u_st b_wn u_id)), (b_ro, (arI G 5740 v_ro)), (b_se, (arJ G 13 z22)), (b_re, (arJ G 400 z23)), (b_pt, (arI G 200 z24)), (b_me, (arI G 1536 z25))] H ∧ va_D A [(b_ah, (arJ G 49152 k49_ah)), (b_be, (arJ G 49152 k49_be)), (b_o, (oc12 u_th u_sa b_rf b_ro b_im b_ke u_fd b_tp u_td u_fr u_to u_so u_wo u_fa u_bd u_nc b_nl u_co b_op b_ar u_le b_pi b_pa u_pd u_od b_ws b_hw z10 b_se b_re z11 z12 z13 z14 z15 z16 z17 z18 b_pt z19 z20 b_ip 0 b_ah b_be b_me z21 b_tr b_ld u_st b_wn u_id)), (b_ro, (arI G 5740 v_ro)), (b_se, (arJ G 13 z22)), (b_re, (arJ G 400 z23)), (b_pt, (arI G 200 z24)), (b_me, (arI G 1536 z25))] ∧ va_S A s.heap H locs ∧ (0 ≤ k49_5.toInt ∧ k49_5.toInt ≤ 64) ∧ (AH0 k49_ah z25)) (fun (q : (Int32) × (Nat → Int64) × (Nat → Int64)) => match q with | (k49_5, k49_ah, k49_be) => Int.toNat (64 - k49_5.toInt)) (0, k17_ah, k17_be) ⟨lv_sub hl [0, 1, 2, 3, 4, 5] rfl, hP, hD, hS, ⟨by decide, by decide⟩, ah0_zero i_27 (by omega)⟩ ?_
    rintro ⟨k49_5, k49_ah, k49_be⟩ ls H locs ⟨hl, hP, hD, hS, i_30, i_31⟩ ih_49_32
    have hl : lv_has ls 7 [(5, .int k49_5), (0, .ref b_o), (1, .int p_1), (2, .int p_2), (3, .int p_3), (4, .int p_4)] := hl
    have i_30 : 0 ≤ k49_5.toInt ∧ k49_5.toInt ≤ 64 := i_30
    have i_31 : AH0 k49_ah z25 := i_31
    refine g5_rs [(b_ah, (arJ G 49152 k49_ah)), (b_be, (arJ G 49152 k49_be)), (b_o, (oc12 u_th u_sa b_rf b_ro b_im b_ke u_fd b_tp u_td u_fr u_to u_so u_wo u_fa u_bd u_nc b_nl u_co b_op b_ar u_le b_pi b_pa u_pd u_od b_ws b_hw z10 b_se b_re z11 z12 z13 z14 z15 z16 z17 z18 b_pt z19 z20 b_ip 0 b_ah b_be b_me z21 b_tr b_ld u_st b_wn u_id)), (b_ro, (arI G 5740 v_ro)), (b_se, (arJ G 13 z22)), (b_re, (arJ G 400 z23)), (b_pt, (arI G 200 z24)), (b_me, (arI G 1536 z25))] hP hD (fun hP hD => ?_)
    refine lv_iload hx hb dX12_countFor_49 (lv_at hl 0 rfl) ?_
    refine lv_bipush (v := 64) hx hb dX12_countFor_51 (by decide) ?_
    refine lv_icmp_ge (tgt := 163) hx hb dX12_countFor_53 (by decide) (fun c_33 => ?_) (fun c_33 => ?_)
    ·
      have i_33 : k49_5.toInt ≥ 64 := by have z := g5_ge (a := k49_5.toInt) (b := 64) (by rfl) (by decide) c_33; omega
      refine lv_iconst (v := 0) hx hb dX12_countFor_163 (by decide) ?_
      refine lv_istore (lv' := [(5, .int 0), (0, .ref b_o), (1, .int p_1), (2, .int p_2), (3, .int p_3), (4, .int p_4)]) hx hb dX12_countFor_164 hl (by decide) rfl (fun ls hl => ?_)
      refine g5_loop (α := (Int32) × (Nat → Int64)) (fun (q : (Int32) × (Nat → Int64)) (ls : Array Slot) (H : Heap) (locs : List Loc) => match q with | (k166_5, k166_ah) => lv_has ls 7 [(5, .int k166_5), (0, .ref b_o), (1, .int p_1), (2, .int p_2), (3, .int p_3), (4, .int p_4)] ∧ va_P G.1 vwCl [(b_ah, (arJ G 49152 k166_ah)), (b_be, (arJ G 49152 k49_be)), (b_o, (oc12 u_th u_sa b_rf b_ro b_im b_ke u_fd b_tp u_td u_fr u_to u_so u_wo u_fa u_bd u_nc b_nl u_co b_op b_ar u_le b_pi b_pa u_pd u_od b_ws b_hw z10 b_se b_re z11 z12 z13 z14 z15 z16 z17 z18 b_pt z19 z20 b_ip 0 b_ah b_be b_me z21 b_tr b_ld u_st b_wn u_id)), (b_ro, (arI G 5740 v_ro)), (b_se, (arJ G 13 z22)), (b_re, (arJ G 400 z23)), (b_pt, (arI G 200 z24)), (b_me, (arI G 1536 z25))] H ∧ va_D A [(b_ah, (arJ G 49152 k166_ah)), (b_be, (arJ G 49152 k49_be)), (b_o, (oc12 u_th u_sa b_rf b_ro b_im b_ke u_fd b_tp u_td u_fr u_to u_so u_wo u_fa u_bd u_nc b_nl u_co b_op b_ar u_le b_pi b_pa u_pd u_od b_ws b_hw z10 b_se b_re z11 z12 z13 z14 z15 z16 z17 z18 b_pt z19 z20 b_ip 0 b_ah b_be b_me z21 b_tr b_ld u_st b_wn u_id)), (b_ro, (arI G 5740 v_ro)), (b_se, (arJ G 13 z22)), (b_re, (arJ G 400 z23)), (b_pt, (arI G 200 z24)), (b_me, (arI G 1536 z25))] ∧ va_S A s.heap H locs ∧ (0 ≤ k166_5.toInt ∧ k166_5.toInt ≤ 23) ∧ (AH0 k166_ah z25)) (fun (q : (Int32) × (Nat → Int64)) => match q with | (k166_5, k166_ah) => Int.toNat (23 - k166_5.toInt)) (0, k49_ah) ⟨lv_sub hl [0, 1, 2, 3, 4, 5] rfl, hP, hD, hS, ⟨by decide, by decide⟩, i_31⟩ ?_
      rintro ⟨k166_5, k166_ah⟩ ls H locs ⟨hl, hP, hD, hS, i_34, i_35⟩ ih_166_36
      have hl : lv_has ls 7 [(5, .int k166_5), (0, .ref b_o), (1, .int p_1), (2, .int p_2), (3, .int p_3), (4, .int p_4)] := hl
      have i_34 : 0 ≤ k166_5.toInt ∧ k166_5.toInt ≤ 23 := i_34
      have i_35 : AH0 k166_ah z25 := i_35
      refine g5_rs [(b_ah, (arJ G 49152 k166_ah)), (b_be, (arJ G 49152 k49_be)), (b_o, (oc12 u_th u_sa b_rf b_ro b_im b_ke u_fd b_tp u_td u_fr u_to u_so u_wo u_fa u_bd u_nc b_nl u_co b_op b_ar u_le b_pi b_pa u_pd u_od b_ws b_hw z10 b_se b_re z11 z12 z13 z14 z15 z16 z17 z18 b_pt z19 z20 b_ip 0 b_ah b_be b_me z21 b_tr b_ld u_st b_wn u_id)), (b_ro, (arI G 5740 v_ro)), (b_se, (arJ G 13 z22)), (b_re, (arJ G 400 z23)), (b_pt, (arI G 200 z24)), (b_me, (arI G 1536 z25))] hP hD (fun hP hD => ?_)
      refine lv_iload hx hb dX12_countFor_166 (lv_at hl 0 rfl) ?_
      refine lv_bipush (v := 23) hx hb dX12_countFor_168 (by decide) ?_
      refine lv_icmp_ge (tgt := 203) hx hb dX12_countFor_170 (by decide) (fun c_37 => ?_) (fun c_37 => ?_)
      ·
        have i_37 : k166_5.toInt ≥ 23 := by have z := g5_ge (a := k166_5.toInt) (b := 23) (by rfl) (by decide) c_37; omega
        refine lv_bipush (v := 22) hx hb dX12_countFor_203 (by decide) ?_
        refine lv_istore (lv' := [(5, .int 22), (0, .ref b_o), (1, .int p_1), (2, .int p_2), (3, .int p_3), (4, .int p_4)]) hx hb dX12_countFor_205 hl (by decide) rfl (fun ls hl => ?_)
        refine g5_loop (α := (Int32) × (Nat → Int64)) (fun (q : (Int32) × (Nat → Int64)) (ls : Array Slot) (H : Heap) (locs : List Loc) => match q with | (k207_5, k207_be) => lv_has ls 7 [(5, .int k207_5), (0, .ref b_o), (1, .int p_1), (2, .int p_2), (3, .int p_3), (4, .int p_4)] ∧ va_P G.1 vwCl [(b_ah, (arJ G 49152 k166_ah)), (b_be, (arJ G 49152 k207_be)), (b_o, (oc12 u_th u_sa b_rf b_ro b_im b_ke u_fd b_tp u_td u_fr u_to u_so u_wo u_fa u_bd u_nc b_nl u_co b_op b_ar u_le b_pi b_pa u_pd u_od b_ws b_hw z10 b_se b_re z11 z12 z13 z14 z15 z16 z17 z18 b_pt z19 z20 b_ip 0 b_ah b_be b_me z21 b_tr b_ld u_st b_wn u_id)), (b_ro, (arI G 5740 v_ro)), (b_se, (arJ G 13 z22)), (b_re, (arJ G 400 z23)), (b_pt, (arI G 200 z24)), (b_me, (arI G 1536 z25))] H ∧ va_D A [(b_ah, (arJ G 49152 k166_ah)), (b_be, (arJ G 49152 k207_be)), (b_o, (oc12 u_th u_sa b_rf b_ro b_im b_ke u_fd b_tp u_td u_fr u_to u_so u_wo u_fa u_bd u_nc b_nl u_co b_op b_ar u_le b_pi b_pa u_pd u_od b_ws b_hw z10 b_se b_re z11 z12 z13 z14 z15 z16 z17 z18 b_pt z19 z20 b_ip 0 b_ah b_be b_me z21 b_tr b_ld u_st b_wn u_id)), (b_ro, (arI G 5740 v_ro)), (b_se, (arJ G 13 z22)), (b_re, (arJ G 400 z23)), (b_pt, (arI G 200 z24)), (b_me, (arI G 1536 z25))] ∧ va_S A s.heap H locs ∧ ((-1) ≤ k207_5.toInt ∧ k207_5.toInt ≤ 22)) (fun (q : (Int32) × (Nat → Int64)) => match q with | (k207_5, k207_be) => Int.toNat (k207_5.toInt + 1)) (22, k49_be) ⟨lv_sub hl [0, 1, 2, 3, 4, 5] rfl, hP, hD, hS, ⟨by decide, by decide⟩⟩ ?_
        rintro ⟨k207_5, k207_be⟩ ls H locs ⟨hl, hP, hD, hS, i_38⟩ ih_207_39
        have hl : lv_has ls 7 [(5, .int k207_5), (0, .ref b_o), (1, .int p_1), (2, .int p_2), (3, .int p_3), (4, .int p_4)] := hl
        have i_38 : (-1) ≤ k207_5.toInt ∧ k207_5.toInt ≤ 22 := i_38
        refine g5_rs [(b_ah, (arJ G 49152 k166_ah)), (b_be, (arJ G 49152 k207_be)), (b_o, (oc12 u_th u_sa b_rf b_ro b_im b_ke u_fd b_tp u_td u_fr u_to u_so u_wo u_fa u_bd u_nc b_nl u_co b_op b_ar u_le b_pi b_pa u_pd u_od b_ws b_hw z10 b_se b_re z11 z12 z13 z14 z15 z16 z17 z18 b_pt z19 z20 b_ip 0 b_ah b_be b_me z21 b_tr b_ld u_st b_wn u_id)), (b_ro, (arI G 5740 v_ro)), (b_se, (arJ G 13 z22)), (b_re, (arJ G 400 z23)), (b_pt, (arI G 200 z24)), (b_me, (arI G 1536 z25))] hP hD (fun hP hD => ?_)
        refine lv_iload hx hb dX12_countFor_207 (lv_at hl 0 rfl) ?_
        refine lv_if_lt (tgt := 242) hx hb dX12_countFor_209 (by decide) (fun c_40 => ?_) (fun c_40 => ?_)
        ·
          have i_40 : k207_5.toInt < 0 := by have z := g5_lt (a := k207_5.toInt) (b := 0) (by rfl) (by decide) c_40; omega
          exact W.vret hx hb hr (fun t ht hW => ⟨⟨[(b_o, (oc12 u_th u_sa b_rf b_ro b_im b_ke u_fd b_tp u_td u_fr u_to u_so u_wo u_fa u_bd u_nc b_nl u_co b_op b_ar u_le b_pi b_pa u_pd u_od b_ws b_hw z10 b_se b_re z11 z12 z13 z14 z15 z16 z17 z18 b_pt z19 z20 b_ip 0 b_ah b_be b_me z21 b_tr b_ld u_st b_wn u_id)), (b_ro, (arI G 5740 v_ro)), (b_se, (arJ G 13 z22)), (b_re, (arJ G 400 z23)), (b_pt, (arI G 200 z24)), (b_ah, (arJ G 49152 k166_ah)), (b_be, (arJ G 49152 k207_be)), (b_me, (arI G 1536 z25))], rfl, ⟨z10, z11, z12, z13, z14, z15, z16, z17, z18, z19, z20, 0, z21, z22, z23, z24, k166_ah, k207_be, z25, i_1, i_2, i_3, i_4, i_5, i_6, i_7, i_8, ⟨by have zc_o_ic : (0 : Int32).toInt = 0 := (by decide); omega, by have zc_o_ic : (0 : Int32).toInt = 0 := (by decide); omega⟩, i_9, i_35, rfl⟩, by rw [ht]; exact hP.sub [2, 3, 4, 5, 6, 0, 1, 7] rfl, hD.sub [2, 3, 4, 5, 6, 0, 1, 7] (by decide) rfl⟩, hS.F ht⟩) hS.2.2 dX12_countFor_242
        ·
          have i_40 : k207_5.toInt ≥ 0 := by have z := g5_ltN (a := k207_5.toInt) (b := 0) (by rfl) (by decide) c_40; omega
          refine lv_iconst (v := 0) hx hb dX12_countFor_212 (by decide) ?_
          refine lv_istore (lv' := [(6, .int 0), (5, .int k207_5), (0, .ref b_o), (1, .int p_1), (2, .int p_2), (3, .int p_3), (4, .int p_4)]) hx hb dX12_countFor_213 hl (by decide) rfl (fun ls hl => ?_)
          refine g5_loop (α := (Int32) × (Nat → Int64)) (fun (q : (Int32) × (Nat → Int64)) (ls : Array Slot) (H : Heap) (locs : List Loc) => match q with | (k215_6, k215_be) => lv_has ls 7 [(6, .int k215_6), (5, .int k207_5), (0, .ref b_o), (1, .int p_1), (2, .int p_2), (3, .int p_3), (4, .int p_4)] ∧ va_P G.1 vwCl [(b_ah, (arJ G 49152 k166_ah)), (b_be, (arJ G 49152 k215_be)), (b_o, (oc12 u_th u_sa b_rf b_ro b_im b_ke u_fd b_tp u_td u_fr u_to u_so u_wo u_fa u_bd u_nc b_nl u_co b_op b_ar u_le b_pi b_pa u_pd u_od b_ws b_hw z10 b_se b_re z11 z12 z13 z14 z15 z16 z17 z18 b_pt z19 z20 b_ip 0 b_ah b_be b_me z21 b_tr b_ld u_st b_wn u_id)), (b_ro, (arI G 5740 v_ro)), (b_se, (arJ G 13 z22)), (b_re, (arJ G 400 z23)), (b_pt, (arI G 200 z24)), (b_me, (arI G 1536 z25))] H ∧ va_D A [(b_ah, (arJ G 49152 k166_ah)), (b_be, (arJ G 49152 k215_be)), (b_o, (oc12 u_th u_sa b_rf b_ro b_im b_ke u_fd b_tp u_td u_fr u_to u_so u_wo u_fa u_bd u_nc b_nl u_co b_op b_ar u_le b_pi b_pa u_pd u_od b_ws b_hw z10 b_se b_re z11 z12 z13 z14 z15 z16 z17 z18 b_pt z19 z20 b_ip 0 b_ah b_be b_me z21 b_tr b_ld u_st b_wn u_id)), (b_ro, (arI G 5740 v_ro)), (b_se, (arJ G 13 z22)), (b_re, (arJ G 400 z23)), (b_pt, (arI G 200 z24)), (b_me, (arI G 1536 z25))] ∧ va_S A s.heap H locs ∧ (0 ≤ k215_6.toInt ∧ k215_6.toInt ≤ 64)) (fun (q : (Int32) × (Nat → Int64)) => match q with | (k215_6, k215_be) => Int.toNat (64 - k215_6.toInt)) (0, k207_be) ⟨lv_sub hl [0, 1, 2, 3, 4, 5, 6] rfl, hP, hD, hS, ⟨by decide, by decide⟩⟩ ?_
          rintro ⟨k215_6, k215_be⟩ ls H locs ⟨hl, hP, hD, hS, i_41⟩ ih_215_42
          have hl : lv_has ls 7 [(6, .int k215_6), (5, .int k207_5), (0, .ref b_o), (1, .int p_1), (2, .int p_2), (3, .int p_3), (4, .int p_4)] := hl
          have i_41 : 0 ≤ k215_6.toInt ∧ k215_6.toInt ≤ 64 := i_41
          refine g5_rs [(b_ah, (arJ G 49152 k166_ah)), (b_be, (arJ G 49152 k215_be)), (b_o, (oc12 u_th u_sa b_rf b_ro b_im b_ke u_fd b_tp u_td u_fr u_to u_so u_wo u_fa u_bd u_nc b_nl u_co b_op b_ar u_le b_pi b_pa u_pd u_od b_ws b_hw z10 b_se b_re z11 z12 z13 z14 z15 z16 z17 z18 b_pt z19 z20 b_ip 0 b_ah b_be b_me z21 b_tr b_ld u_st b_wn u_id)), (b_ro, (arI G 5740 v_ro)), (b_se, (arJ G 13 z22)), (b_re, (arJ G 400 z23)), (b_pt, (arI G 200 z24)), (b_me, (arI G 1536 z25))] hP hD (fun hP hD => ?_)
          refine lv_iload hx hb dX12_countFor_215 (lv_at hl 0 rfl) ?_
          refine lv_bipush (v := 64) hx hb dX12_countFor_217 (by decide) ?_
          refine lv_icmp_ge (tgt := 236) hx hb dX12_countFor_219 (by decide) (fun c_43 => ?_) (fun c_43 => ?_)
          ·
            have i_43 : k215_6.toInt ≥ 64 := by have z := g5_ge (a := k215_6.toInt) (b := 64) (by rfl) (by decide) c_43; omega
            obtain ⟨y44, hy_44, t_44⟩ := g_incN k207_5 (-1) (by decide) (by omega) (by omega)
            have t_44 : y44.toInt = k207_5.toInt + (-1) := t_44
            refine lv_iinc (v := y44) (lv' := [(5, .int y44), (6, .int k215_6), (0, .ref b_o), (1, .int p_1), (2, .int p_2), (3, .int p_3), (4, .int p_4)]) hx hb dX12_countFor_236 hl (k := 1) rfl hy_44 (by decide) rfl (fun ls hl => ?_)
            refine lv_goto (tgt := 207) hx hb dX12_countFor_239 (by decide) ?_
            exact ih_207_39 (y44, k215_be) ls H locs (show Int.toNat (y44.toInt + 1) < Int.toNat (k207_5.toInt + 1) from g_dn (show y44.toInt < k207_5.toInt by omega) (show 0 ≤ k207_5.toInt by omega)) ⟨lv_sub hl [0, 2, 3, 4, 5, 6] rfl, hP, hD, hS, ⟨by omega, by omega⟩⟩
          ·
            have i_43 : k215_6.toInt < 64 := by have z := g5_geN (a := k215_6.toInt) (b := 64) (by rfl) (by decide) c_43; omega
            refine lv_aload_n hx hb dX12_countFor_222 rfl (lv_at hl 2 rfl) ?_
            refine lv_iload hx hb dX12_countFor_223 (lv_at hl 1 rfl) ?_
            refine lv_iload hx hb dX12_countFor_225 (lv_at hl 0 rfl) ?_
            obtain ⟨hPc, hDc, hFc⟩ := g5_sub3 (wc := [(b_o, (oc12 u_th u_sa b_rf b_ro b_im b_ke u_fd b_tp u_td u_fr u_to u_so u_wo u_fa u_bd u_nc b_nl u_co b_op b_ar u_le b_pi b_pa u_pd u_od b_ws b_hw z10 b_se b_re z11 z12 z13 z14 z15 z16 z17 z18 b_pt z19 z20 b_ip 0 b_ah b_be b_me z21 b_tr b_ld u_st b_wn u_id)), (b_be, (arJ G 49152 k215_be)), (b_me, (arI G 1536 z25))]) hP hD hS hA [2, 1, 7] (by decide) rfl
            refine va_callv (va_runV (As := [.int k207_5, .int k215_6]) (rest := []) ⟨hx, hb, hml, hown, hts⟩ (n_comesFrom l G b_o b_be b_me b_rf b_ro b_im b_ke b_tp b_nl b_op b_ar b_pi b_pa b_ws b_hw b_se b_re b_pt b_ip b_ah b_tr b_ld b_wn H.size u_th u_sa u_fd u_td u_fr u_to u_so u_fa u_bd u_nc u_co u_le u_pd u_od z10 z11 z14 z15 z16 z17 z18 z19 z20 0 z21 u_id k207_5 k215_6 u_wo z12 z13 u_st k215_be z25 h_u_td h_u_fr h_u_to h_u_bd h_u_nc h_u_co h_u_pd i_1 i_2 i_3 i_4 i_5 i_6 i_7 ⟨by decide, by decide⟩ h_u_id ⟨by omega, by omega⟩ ⟨by omega, by omega⟩ (i_9)) (cwV 2 hts gV_X12_434 rfl rfl rfl hv_X12_comesFrom ⟨Nat.le_of_ble_eq_true rfl, Nat.le_of_ble_eq_true rfl⟩) (g5_preV hPc hK hDc hN hT hS hFc (ci := 12) (q0 := 0) rfl rfl) rfl rfl hl.1 rfl (lv_room (Nat.le_of_ble_eq_true rfl)) dX12_countFor_227 ⟨Nat.le_of_ble_eq_true rfl, Nat.le_of_ble_eq_true rfl⟩) hS (fun q _ h => hFc q h) hFc (fun u t H1 locs ht hvm hw hB hz1 hk1 hS => ?_)
            obtain ⟨hP1, hD1⟩ := hB
            rw [ht] at hP1
            obtain ⟨z45, rfl⟩ := hw
            obtain ⟨hP, hD⟩ := va_join (wr := [(b_ah, (arJ G 49152 k166_ah)), (b_ro, (arI G 5740 v_ro)), (b_se, (arJ G 13 z22)), (b_re, (arJ G 400 z23)), (b_pt, (arI G 200 z24))]) hP hD [2, 1, 7] [0, 3, 4, 5, 6] rfl rfl (by decide) (by decide) hk1 hFc hP1 hD1
            generalize H1 = H at hP hS ⊢
            refine g5_rs [(b_ah, (arJ G 49152 k166_ah)), (b_ro, (arI G 5740 v_ro)), (b_se, (arJ G 13 z22)), (b_re, (arJ G 400 z23)), (b_pt, (arI G 200 z24)), (b_o, (oc12 u_th u_sa b_rf b_ro b_im b_ke u_fd b_tp u_td u_fr u_to u_so u_wo u_fa u_bd u_nc b_nl u_co b_op b_ar u_le b_pi b_pa u_pd u_od b_ws b_hw z10 b_se b_re z11 z12 z13 z14 z15 z16 z17 z18 b_pt z19 z20 b_ip 0 b_ah b_be b_me z21 b_tr b_ld u_st b_wn u_id)), (b_be, (arJ G 49152 z45)), (b_me, (arI G 1536 z25))] hP hD (fun hP hD => ?_)
            refine lv_iinc (v := (k215_6 + 1)) (lv' := [(6, .int (k215_6 + 1)), (5, .int k207_5), (0, .ref b_o), (1, .int p_1), (2, .int p_2), (3, .int p_3), (4, .int p_4)]) hx hb dX12_countFor_230 hl (k := 0) rfl rfl (by decide) rfl (fun ls hl => ?_)
            have t_46 : (k215_6 + 1).toInt = k215_6.toInt + 1 := g5_iadd (a := k215_6.toInt) (b := 1) rfl (by decide) (by omega) (by omega)
            refine lv_goto (tgt := 215) hx hb dX12_countFor_233 (by decide) ?_
            exact ih_215_42 ((k215_6 + 1), z45) ls H locs (show Int.toNat (64 - (k215_6 + 1).toInt) < Int.toNat (64 - k215_6.toInt) from g_up (show k215_6.toInt < (k215_6 + 1).toInt by omega) (show k215_6.toInt < 64 by omega)) ⟨lv_sub hl [0, 1, 2, 3, 4, 5, 6] rfl, hP.sub [0, 6, 5, 1, 2, 3, 4, 7] rfl, hD.sub [0, 6, 5, 1, 2, 3, 4, 7] (by decide) rfl, hS, ⟨by omega, by omega⟩⟩
      ·
        have i_37 : k166_5.toInt < 23 := by have z := g5_geN (a := k166_5.toInt) (b := 23) (by rfl) (by decide) c_37; omega
        refine lv_iconst (v := 0) hx hb dX12_countFor_173 (by decide) ?_
        refine lv_istore (lv' := [(6, .int 0), (5, .int k166_5), (0, .ref b_o), (1, .int p_1), (2, .int p_2), (3, .int p_3), (4, .int p_4)]) hx hb dX12_countFor_174 hl (by decide) rfl (fun ls hl => ?_)
        refine g5_loop (α := (Int32) × (Nat → Int64)) (fun (q : (Int32) × (Nat → Int64)) (ls : Array Slot) (H : Heap) (locs : List Loc) => match q with | (k176_6, k176_ah) => lv_has ls 7 [(6, .int k176_6), (5, .int k166_5), (0, .ref b_o), (1, .int p_1), (2, .int p_2), (3, .int p_3), (4, .int p_4)] ∧ va_P G.1 vwCl [(b_ah, (arJ G 49152 k176_ah)), (b_be, (arJ G 49152 k49_be)), (b_o, (oc12 u_th u_sa b_rf b_ro b_im b_ke u_fd b_tp u_td u_fr u_to u_so u_wo u_fa u_bd u_nc b_nl u_co b_op b_ar u_le b_pi b_pa u_pd u_od b_ws b_hw z10 b_se b_re z11 z12 z13 z14 z15 z16 z17 z18 b_pt z19 z20 b_ip 0 b_ah b_be b_me z21 b_tr b_ld u_st b_wn u_id)), (b_ro, (arI G 5740 v_ro)), (b_se, (arJ G 13 z22)), (b_re, (arJ G 400 z23)), (b_pt, (arI G 200 z24)), (b_me, (arI G 1536 z25))] H ∧ va_D A [(b_ah, (arJ G 49152 k176_ah)), (b_be, (arJ G 49152 k49_be)), (b_o, (oc12 u_th u_sa b_rf b_ro b_im b_ke u_fd b_tp u_td u_fr u_to u_so u_wo u_fa u_bd u_nc b_nl u_co b_op b_ar u_le b_pi b_pa u_pd u_od b_ws b_hw z10 b_se b_re z11 z12 z13 z14 z15 z16 z17 z18 b_pt z19 z20 b_ip 0 b_ah b_be b_me z21 b_tr b_ld u_st b_wn u_id)), (b_ro, (arI G 5740 v_ro)), (b_se, (arJ G 13 z22)), (b_re, (arJ G 400 z23)), (b_pt, (arI G 200 z24)), (b_me, (arI G 1536 z25))] ∧ va_S A s.heap H locs ∧ (0 ≤ k176_6.toInt ∧ k176_6.toInt ≤ 64) ∧ (AH0 k176_ah z25)) (fun (q : (Int32) × (Nat → Int64)) => match q with | (k176_6, k176_ah) => Int.toNat (64 - k176_6.toInt)) (0, k166_ah) ⟨lv_sub hl [0, 1, 2, 3, 4, 5, 6] rfl, hP, hD, hS, ⟨by decide, by decide⟩, i_35⟩ ?_
        rintro ⟨k176_6, k176_ah⟩ ls H locs ⟨hl, hP, hD, hS, i_47, i_48⟩ ih_176_49
        have hl : lv_has ls 7 [(6, .int k176_6), (5, .int k166_5), (0, .ref b_o), (1, .int p_1), (2, .int p_2), (3, .int p_3), (4, .int p_4)] := hl
        have i_47 : 0 ≤ k176_6.toInt ∧ k176_6.toInt ≤ 64 := i_47
        have i_48 : AH0 k176_ah z25 := i_48
        refine g5_rs [(b_ah, (arJ G 49152 k176_ah)), (b_be, (arJ G 49152 k49_be)), (b_o, (oc12 u_th u_sa b_rf b_ro b_im b_ke u_fd b_tp u_td u_fr u_to u_so u_wo u_fa u_bd u_nc b_nl u_co b_op b_ar u_le b_pi b_pa u_pd u_od b_ws b_hw z10 b_se b_re z11 z12 z13 z14 z15 z16 z17 z18 b_pt z19 z20 b_ip 0 b_ah b_be b_me z21 b_tr b_ld u_st b_wn u_id)), (b_ro, (arI G 5740 v_ro)), (b_se, (arJ G 13 z22)), (b_re, (arJ G 400 z23)), (b_pt, (arI G 200 z24)), (b_me, (arI G 1536 z25))] hP hD (fun hP hD => ?_)
        refine lv_iload hx hb dX12_countFor_176 (lv_at hl 0 rfl) ?_
        refine lv_bipush (v := 64) hx hb dX12_countFor_178 (by decide) ?_
        refine lv_icmp_ge (tgt := 197) hx hb dX12_countFor_180 (by decide) (fun c_50 => ?_) (fun c_50 => ?_)
        ·
          have i_50 : k176_6.toInt ≥ 64 := by have z := g5_ge (a := k176_6.toInt) (b := 64) (by rfl) (by decide) c_50; omega
          refine lv_iinc (v := (k166_5 + 1)) (lv' := [(5, .int (k166_5 + 1)), (6, .int k176_6), (0, .ref b_o), (1, .int p_1), (2, .int p_2), (3, .int p_3), (4, .int p_4)]) hx hb dX12_countFor_197 hl (k := 1) rfl rfl (by decide) rfl (fun ls hl => ?_)
          have t_51 : (k166_5 + 1).toInt = k166_5.toInt + 1 := g5_iadd (a := k166_5.toInt) (b := 1) rfl (by decide) (by omega) (by omega)
          refine lv_goto (tgt := 166) hx hb dX12_countFor_200 (by decide) ?_
          exact ih_166_36 ((k166_5 + 1), k176_ah) ls H locs (show Int.toNat (23 - (k166_5 + 1).toInt) < Int.toNat (23 - k166_5.toInt) from g_up (show k166_5.toInt < (k166_5 + 1).toInt by omega) (show k166_5.toInt < 23 by omega)) ⟨lv_sub hl [0, 2, 3, 4, 5, 6] rfl, hP, hD, hS, ⟨by omega, by omega⟩, i_48⟩
        ·
          have i_50 : k176_6.toInt < 64 := by have z := g5_geN (a := k176_6.toInt) (b := 64) (by rfl) (by decide) c_50; omega
          refine lv_aload_n hx hb dX12_countFor_183 rfl (lv_at hl 2 rfl) ?_
          refine lv_iload hx hb dX12_countFor_184 (lv_at hl 1 rfl) ?_
          refine lv_iload hx hb dX12_countFor_186 (lv_at hl 0 rfl) ?_
          obtain ⟨hPc, hDc, hFc⟩ := g5_sub3 (wc := [(b_o, (oc12 u_th u_sa b_rf b_ro b_im b_ke u_fd b_tp u_td u_fr u_to u_so u_wo u_fa u_bd u_nc b_nl u_co b_op b_ar u_le b_pi b_pa u_pd u_od b_ws b_hw z10 b_se b_re z11 z12 z13 z14 z15 z16 z17 z18 b_pt z19 z20 b_ip 0 b_ah b_be b_me z21 b_tr b_ld u_st b_wn u_id)), (b_ah, (arJ G 49152 k176_ah)), (b_me, (arI G 1536 z25))]) hP hD hS hA [2, 0, 7] (by decide) rfl
          refine va_callv (va_runV (As := [.int k166_5, .int k176_6]) (rest := []) ⟨hx, hb, hml, hown, hts⟩ (n_goesOnP l G b_o b_ah b_me b_rf b_ro b_im b_ke b_tp b_nl b_op b_ar b_pi b_pa b_ws b_hw b_se b_re b_pt b_ip b_be b_tr b_ld b_wn H.size u_th u_sa u_fd u_td u_fr u_to u_so u_fa u_bd u_nc u_co u_le u_pd u_od z10 z11 z14 z15 z16 z17 z18 z19 z20 0 z21 u_id k166_5 k176_6 u_wo z12 z13 u_st k176_ah z25 h_u_td h_u_fr h_u_to h_u_bd h_u_nc h_u_co h_u_pd i_1 i_2 i_3 i_4 i_5 i_6 i_7 ⟨by decide, by decide⟩ h_u_id ⟨by omega, by omega⟩ ⟨by omega, by omega⟩ (i_9)) (cwV 2 hts gV_X12_431 rfl rfl rfl hv_X12_goesOn ⟨Nat.le_of_ble_eq_true rfl, Nat.le_of_ble_eq_true rfl⟩) (g5_preV hPc hK hDc hN hT hS hFc (ci := 12) (q0 := 0) rfl rfl) rfl rfl hl.1 rfl (lv_room (Nat.le_of_ble_eq_true rfl)) dX12_countFor_188 ⟨Nat.le_of_ble_eq_true rfl, Nat.le_of_ble_eq_true rfl⟩) hS (fun q _ h => hFc q h) hFc (fun u t H1 locs ht hvm hw hB hz1 hk1 hS => ?_)
          obtain ⟨hP1, hD1⟩ := hB
          rw [ht] at hP1
          obtain ⟨z53, i_52, rfl⟩ := hw
          have i_52 : AHK z53 k176_ah := i_52
          obtain ⟨hP, hD⟩ := va_join (wr := [(b_be, (arJ G 49152 k49_be)), (b_ro, (arI G 5740 v_ro)), (b_se, (arJ G 13 z22)), (b_re, (arJ G 400 z23)), (b_pt, (arI G 200 z24))]) hP hD [2, 0, 7] [1, 3, 4, 5, 6] rfl rfl (by decide) (by decide) hk1 hFc hP1 hD1
          generalize H1 = H at hP hS ⊢
          refine g5_rs [(b_be, (arJ G 49152 k49_be)), (b_ro, (arI G 5740 v_ro)), (b_se, (arJ G 13 z22)), (b_re, (arJ G 400 z23)), (b_pt, (arI G 200 z24)), (b_o, (oc12 u_th u_sa b_rf b_ro b_im b_ke u_fd b_tp u_td u_fr u_to u_so u_wo u_fa u_bd u_nc b_nl u_co b_op b_ar u_le b_pi b_pa u_pd u_od b_ws b_hw z10 b_se b_re z11 z12 z13 z14 z15 z16 z17 z18 b_pt z19 z20 b_ip 0 b_ah b_be b_me z21 b_tr b_ld u_st b_wn u_id)), (b_ah, (arJ G 49152 z53)), (b_me, (arI G 1536 z25))] hP hD (fun hP hD => ?_)
          refine lv_iinc (v := (k176_6 + 1)) (lv' := [(6, .int (k176_6 + 1)), (5, .int k166_5), (0, .ref b_o), (1, .int p_1), (2, .int p_2), (3, .int p_3), (4, .int p_4)]) hx hb dX12_countFor_191 hl (k := 0) rfl rfl (by decide) rfl (fun ls hl => ?_)
          have t_54 : (k176_6 + 1).toInt = k176_6.toInt + 1 := g5_iadd (a := k176_6.toInt) (b := 1) rfl (by decide) (by omega) (by omega)
          refine lv_goto (tgt := 176) hx hb dX12_countFor_194 (by decide) ?_
          exact ih_176_49 ((k176_6 + 1), z53) ls H locs (show Int.toNat (64 - (k176_6 + 1).toInt) < Int.toNat (64 - k176_6.toInt) from g_up (show k176_6.toInt < (k176_6 + 1).toInt by omega) (show k176_6.toInt < 64 by omega)) ⟨lv_sub hl [0, 1, 2, 3, 4, 5, 6] rfl, hP.sub [6, 0, 5, 1, 2, 3, 4, 7] rfl, hD.sub [6, 0, 5, 1, 2, 3, 4, 7] (by decide) rfl, hS, ⟨by omega, by omega⟩, ah0_k i_48 i_52⟩
    ·
      have i_33 : k49_5.toInt < 64 := by have z := g5_geN (a := k49_5.toInt) (b := 64) (by rfl) (by decide) c_33; omega
      refine lv_aload_n hx hb dX12_countFor_56 rfl (lv_at hl 1 rfl) ?_
      refine va_get (D := G.1) (ci := 12) (v := .ref b_me) (C := RX12) (T := TX12) (N := 52) hx hb hts inG_X12 hown hK hP 2 rfl rfl 45 (by decide) (hts _ fl_X12_95) (fun _ h9 => h9) rfl dX12_countFor_57 ?_
      refine lv_iload hx hb dX12_countFor_60 (lv_at hl 0 rfl) ?_
      refine va_iald hx hb hK hP 7 0 rfl rfl (i := k49_5) (vp_in_iff.mpr ⟨by omega, by omega⟩) dX12_countFor_62 ?_
      have hr_55 : 0 ≤ (z25 k49_5.toNatClampNeg).toInt ∧ ((z25 k49_5.toNatClampNeg).toInt < 32 ∨ 64 ≤ (z25 k49_5.toNatClampNeg).toInt) ∧ (z25 k49_5.toNatClampNeg).toInt ≤ 127 := i_9 (k49_5.toNatClampNeg)
      refine lv_bipush (v := 64) hx hb dX12_countFor_63 (by decide) ?_
      refine lv_icmp_ge (tgt := 110) hx hb dX12_countFor_65 (by decide) (fun c_56 => ?_) (fun c_56 => ?_)
      ·
        have i_56 : (z25 k49_5.toNatClampNeg).toInt ≥ 64 := by have z := g5_ge (a := (z25 k49_5.toNatClampNeg).toInt) (b := 64) (by rfl) (by decide) c_56; omega
        refine lv_iconst (v := 0) hx hb dX12_countFor_110 (by decide) ?_
        refine lv_istore (lv' := [(6, .int 0), (5, .int k49_5), (0, .ref b_o), (1, .int p_1), (2, .int p_2), (3, .int p_3), (4, .int p_4)]) hx hb dX12_countFor_111 hl (by decide) rfl (fun ls hl => ?_)
        refine g5_loop (α := (Int32) × (Nat → Int64)) (fun (q : (Int32) × (Nat → Int64)) (ls : Array Slot) (H : Heap) (locs : List Loc) => match q with | (k113_6, k113_be) => lv_has ls 7 [(6, .int k113_6), (5, .int k49_5), (0, .ref b_o), (1, .int p_1), (2, .int p_2), (3, .int p_3), (4, .int p_4)] ∧ va_P G.1 vwCl [(b_ah, (arJ G 49152 k49_ah)), (b_be, (arJ G 49152 k113_be)), (b_o, (oc12 u_th u_sa b_rf b_ro b_im b_ke u_fd b_tp u_td u_fr u_to u_so u_wo u_fa u_bd u_nc b_nl u_co b_op b_ar u_le b_pi b_pa u_pd u_od b_ws b_hw z10 b_se b_re z11 z12 z13 z14 z15 z16 z17 z18 b_pt z19 z20 b_ip 0 b_ah b_be b_me z21 b_tr b_ld u_st b_wn u_id)), (b_ro, (arI G 5740 v_ro)), (b_se, (arJ G 13 z22)), (b_re, (arJ G 400 z23)), (b_pt, (arI G 200 z24)), (b_me, (arI G 1536 z25))] H ∧ va_D A [(b_ah, (arJ G 49152 k49_ah)), (b_be, (arJ G 49152 k113_be)), (b_o, (oc12 u_th u_sa b_rf b_ro b_im b_ke u_fd b_tp u_td u_fr u_to u_so u_wo u_fa u_bd u_nc b_nl u_co b_op b_ar u_le b_pi b_pa u_pd u_od b_ws b_hw z10 b_se b_re z11 z12 z13 z14 z15 z16 z17 z18 b_pt z19 z20 b_ip 0 b_ah b_be b_me z21 b_tr b_ld u_st b_wn u_id)), (b_ro, (arI G 5740 v_ro)), (b_se, (arJ G 13 z22)), (b_re, (arJ G 400 z23)), (b_pt, (arI G 200 z24)), (b_me, (arI G 1536 z25))] ∧ va_S A s.heap H locs ∧ (0 ≤ k113_6.toInt ∧ k113_6.toInt ≤ 32)) (fun (q : (Int32) × (Nat → Int64)) => match q with | (k113_6, k113_be) => Int.toNat (32 - k113_6.toInt)) (0, k49_be) ⟨lv_sub hl [0, 1, 2, 3, 4, 5, 6] rfl, hP, hD, hS, ⟨by decide, by decide⟩⟩ ?_
        rintro ⟨k113_6, k113_be⟩ ls H locs ⟨hl, hP, hD, hS, i_57⟩ ih_113_58
        have hl : lv_has ls 7 [(6, .int k113_6), (5, .int k49_5), (0, .ref b_o), (1, .int p_1), (2, .int p_2), (3, .int p_3), (4, .int p_4)] := hl
        have i_57 : 0 ≤ k113_6.toInt ∧ k113_6.toInt ≤ 32 := i_57
        refine g5_rs [(b_ah, (arJ G 49152 k49_ah)), (b_be, (arJ G 49152 k113_be)), (b_o, (oc12 u_th u_sa b_rf b_ro b_im b_ke u_fd b_tp u_td u_fr u_to u_so u_wo u_fa u_bd u_nc b_nl u_co b_op b_ar u_le b_pi b_pa u_pd u_od b_ws b_hw z10 b_se b_re z11 z12 z13 z14 z15 z16 z17 z18 b_pt z19 z20 b_ip 0 b_ah b_be b_me z21 b_tr b_ld u_st b_wn u_id)), (b_ro, (arI G 5740 v_ro)), (b_se, (arJ G 13 z22)), (b_re, (arJ G 400 z23)), (b_pt, (arI G 200 z24)), (b_me, (arI G 1536 z25))] hP hD (fun hP hD => ?_)
        refine lv_iload hx hb dX12_countFor_113 (lv_at hl 0 rfl) ?_
        refine lv_bipush (v := 32) hx hb dX12_countFor_115 (by decide) ?_
        refine lv_icmp_ge (tgt := 157) hx hb dX12_countFor_117 (by decide) (fun c_59 => ?_) (fun c_59 => ?_)
        ·
          have i_59 : k113_6.toInt ≥ 32 := by have z := g5_ge (a := k113_6.toInt) (b := 32) (by rfl) (by decide) c_59; omega
          refine lv_iinc (v := (k49_5 + 1)) (lv' := [(5, .int (k49_5 + 1)), (6, .int k113_6), (0, .ref b_o), (1, .int p_1), (2, .int p_2), (3, .int p_3), (4, .int p_4)]) hx hb dX12_countFor_157 hl (k := 1) rfl rfl (by decide) rfl (fun ls hl => ?_)
          have t_60 : (k49_5 + 1).toInt = k49_5.toInt + 1 := g5_iadd (a := k49_5.toInt) (b := 1) rfl (by decide) (by omega) (by omega)
          refine lv_goto (tgt := 49) hx hb dX12_countFor_160 (by decide) ?_
          exact ih_49_32 ((k49_5 + 1), k49_ah, k113_be) ls H locs (show Int.toNat (64 - (k49_5 + 1).toInt) < Int.toNat (64 - k49_5.toInt) from g_up (show k49_5.toInt < (k49_5 + 1).toInt by omega) (show k49_5.toInt < 64 by omega)) ⟨lv_sub hl [0, 2, 3, 4, 5, 6] rfl, hP, hD, hS, ⟨by omega, by omega⟩, i_31⟩
        ·
          have i_59 : k113_6.toInt < 32 := by have z := g5_geN (a := k113_6.toInt) (b := 32) (by rfl) (by decide) c_59; omega
          refine lv_aload_n hx hb dX12_countFor_120 rfl (lv_at hl 2 rfl) ?_
          refine va_get (D := G.1) (ci := 12) (v := .ref b_be) (C := RX12) (T := TX12) (N := 52) hx hb hts inG_X12 hown hK hP 2 rfl rfl 44 (by decide) (hts _ fl_X12_92) (fun _ h9 => h9) rfl dX12_countFor_121 ?_
          refine lv_bipush (v := 32) hx hb dX12_countFor_124 (by decide) ?_
          refine lv_sipush (v := 1472) hx hb dX12_countFor_126 (by decide) ?_
          refine lv_iload hx hb dX12_countFor_129 (lv_at hl 1 rfl) ?_
          refine lv_iadd hx hb dX12_countFor_131 ?_
          have t_61 : (1472 + k49_5).toInt = 1472 + k49_5.toInt := g5_iadd (a := 1472) (b := k49_5.toInt) (by decide) (by rfl) (by omega) (by omega)
          refine lv_imul hx hb dX12_countFor_132 ?_
          have t_62 : (32 * (1472 + k49_5)).toInt = 32 * (1472 + k49_5).toInt := g5_imul (a := 32) (b := (1472 + k49_5).toInt) (by decide) (by rfl) (by omega) (by omega)
          refine lv_iload hx hb dX12_countFor_133 (lv_at hl 0 rfl) ?_
          refine lv_iadd hx hb dX12_countFor_135 ?_
          have t_63 : ((32 * (1472 + k49_5)) + k113_6).toInt = (32 * (1472 + k49_5)).toInt + k113_6.toInt := g5_iadd (a := (32 * (1472 + k49_5)).toInt) (b := k113_6.toInt) (by rfl) (by rfl) (by omega) (by omega)
          refine lv_iload hx hb dX12_countFor_136 (lv_at hl 0 rfl) ?_
          refine lv_aload_n hx hb dX12_countFor_138 rfl (lv_at hl 2 rfl) ?_
          refine va_get (D := G.1) (ci := 12) (v := .int z21) (C := RX12) (T := TX12) (N := 52) hx hb hts inG_X12 hown hK hP 2 rfl rfl 46 (by decide) (hts _ fl_X12_422) (fun _ h9 => h9) rfl dX12_countFor_139 ?_
          refine lv_icmp_ne (tgt := 149) hx hb dX12_countFor_142 (by decide) (fun c_64 => ?_) (fun c_64 => ?_)
          ·
            have n_64 : gNe (k113_6.toInt) (z21.toInt) := by have z := g5_ne (a := k113_6.toInt) (b := z21.toInt) (by rfl) (by rfl) c_64; unfold gNe; omega
            refine lv_lconst (v := 0) hx hb dX12_countFor_149 (by decide) ?_
            refine va_last hx hb hK hP hD hS 1 1 rfl rfl (i := ((32 * (1472 + k49_5)) + k113_6)) (x := 0) (vp_in_iff.mpr ⟨by omega, by omega⟩) dX12_countFor_150 (fun H locs hP hD hS => ?_)
            refine g5_rs [(b_ah, (arJ G 49152 k49_ah)), (b_be, (arJ G 49152 (vp_updL k113_be ((32 * (1472 + k49_5)) + k113_6).toNatClampNeg 0))), (b_o, (oc12 u_th u_sa b_rf b_ro b_im b_ke u_fd b_tp u_td u_fr u_to u_so u_wo u_fa u_bd u_nc b_nl u_co b_op b_ar u_le b_pi b_pa u_pd u_od b_ws b_hw z10 b_se b_re z11 z12 z13 z14 z15 z16 z17 z18 b_pt z19 z20 b_ip 0 b_ah b_be b_me z21 b_tr b_ld u_st b_wn u_id)), (b_ro, (arI G 5740 v_ro)), (b_se, (arJ G 13 z22)), (b_re, (arJ G 400 z23)), (b_pt, (arI G 200 z24)), (b_me, (arI G 1536 z25))] hP hD (fun hP hD => ?_)
            refine lv_iinc (v := (k113_6 + 1)) (lv' := [(6, .int (k113_6 + 1)), (5, .int k49_5), (0, .ref b_o), (1, .int p_1), (2, .int p_2), (3, .int p_3), (4, .int p_4)]) hx hb dX12_countFor_151 hl (k := 0) rfl rfl (by decide) rfl (fun ls hl => ?_)
            have t_65 : (k113_6 + 1).toInt = k113_6.toInt + 1 := g5_iadd (a := k113_6.toInt) (b := 1) rfl (by decide) (by omega) (by omega)
            refine lv_goto (tgt := 113) hx hb dX12_countFor_154 (by decide) ?_
            exact ih_113_58 ((k113_6 + 1), (vp_updL k113_be ((32 * (1472 + k49_5)) + k113_6).toNatClampNeg 0)) ls H locs (show Int.toNat (32 - (k113_6 + 1).toInt) < Int.toNat (32 - k113_6.toInt) from g_up (show k113_6.toInt < (k113_6 + 1).toInt by omega) (show k113_6.toInt < 32 by omega)) ⟨lv_sub hl [0, 1, 2, 3, 4, 5, 6] rfl, hP, hD, hS, ⟨by omega, by omega⟩⟩
          ·
            have i_64 : k113_6.toInt = z21.toInt := by have z := g5_neN (a := k113_6.toInt) (b := z21.toInt) (by rfl) (by rfl) c_64; omega
            refine lv_lconst (v := 1) hx hb dX12_countFor_145 (by decide) ?_
            refine lv_goto (tgt := 150) hx hb dX12_countFor_146 (by decide) ?_
            refine va_last hx hb hK hP hD hS 1 1 rfl rfl (i := ((32 * (1472 + k49_5)) + k113_6)) (x := 1) (vp_in_iff.mpr ⟨by omega, by omega⟩) dX12_countFor_150 (fun H locs hP hD hS => ?_)
            refine g5_rs [(b_ah, (arJ G 49152 k49_ah)), (b_be, (arJ G 49152 (vp_updL k113_be ((32 * (1472 + k49_5)) + k113_6).toNatClampNeg 1))), (b_o, (oc12 u_th u_sa b_rf b_ro b_im b_ke u_fd b_tp u_td u_fr u_to u_so u_wo u_fa u_bd u_nc b_nl u_co b_op b_ar u_le b_pi b_pa u_pd u_od b_ws b_hw z10 b_se b_re z11 z12 z13 z14 z15 z16 z17 z18 b_pt z19 z20 b_ip 0 b_ah b_be b_me z21 b_tr b_ld u_st b_wn u_id)), (b_ro, (arI G 5740 v_ro)), (b_se, (arJ G 13 z22)), (b_re, (arJ G 400 z23)), (b_pt, (arI G 200 z24)), (b_me, (arI G 1536 z25))] hP hD (fun hP hD => ?_)
            refine lv_iinc (v := (k113_6 + 1)) (lv' := [(6, .int (k113_6 + 1)), (5, .int k49_5), (0, .ref b_o), (1, .int p_1), (2, .int p_2), (3, .int p_3), (4, .int p_4)]) hx hb dX12_countFor_151 hl (k := 0) rfl rfl (by decide) rfl (fun ls hl => ?_)
            have t_66 : (k113_6 + 1).toInt = k113_6.toInt + 1 := g5_iadd (a := k113_6.toInt) (b := 1) rfl (by decide) (by omega) (by omega)
            refine lv_goto (tgt := 113) hx hb dX12_countFor_154 (by decide) ?_
            exact ih_113_58 ((k113_6 + 1), (vp_updL k113_be ((32 * (1472 + k49_5)) + k113_6).toNatClampNeg 1)) ls H locs (show Int.toNat (32 - (k113_6 + 1).toInt) < Int.toNat (32 - k113_6.toInt) from g_up (show k113_6.toInt < (k113_6 + 1).toInt by omega) (show k113_6.toInt < 32 by omega)) ⟨lv_sub hl [0, 1, 2, 3, 4, 5, 6] rfl, hP, hD, hS, ⟨by omega, by omega⟩⟩
      ·
        have i_56 : (z25 k49_5.toNatClampNeg).toInt < 64 := by have z := g5_geN (a := (z25 k49_5.toNatClampNeg).toInt) (b := 64) (by rfl) (by decide) c_56; omega
        refine lv_aload_n hx hb dX12_countFor_68 rfl (lv_at hl 1 rfl) ?_
        refine va_get (D := G.1) (ci := 12) (v := .ref b_ro) (C := RX12) (T := TX12) (N := 52) hx hb hts inG_X12 hown hK hP 2 rfl rfl 3 (by decide) (hts _ fl_X12_13) (fun _ h9 => h9) rfl dX12_countFor_69 ?_
        refine lv_bipush (v := 6) hx hb dX12_countFor_72 (by decide) ?_
        refine va_iald hx hb hK hP 3 0 rfl rfl (i := 6) (by unfold vp_in; decide) dX12_countFor_74 ?_
        refine g5_ti (v := (v_ro 6)) rfl ?_
        have hr_67 : (-1) ≤ (v_ro 6).toInt ∧ (v_ro 6).toInt ≤ 63 := mi_6 r_ro
        refine lv_iconst (v := (-1)) hx hb dX12_countFor_75 (by decide) ?_
        refine lv_icmp_eq (tgt := 91) hx hb dX12_countFor_76 (by decide) (fun c_68 => ?_) (fun c_68 => ?_)
        ·
          have i_68 : (v_ro 6).toInt = (-1) := by have z := g5_eq (a := (v_ro 6).toInt) (b := (-1)) (by rfl) (by decide) c_68; omega
          refine lv_aload_n hx hb dX12_countFor_91 rfl (lv_at hl 1 rfl) ?_
          refine va_get (D := G.1) (ci := 12) (v := .ref b_ah) (C := RX12) (T := TX12) (N := 52) hx hb hts inG_X12 hown hK hP 2 rfl rfl 43 (by decide) (hts _ fl_X12_89) (fun _ h9 => h9) rfl dX12_countFor_92 ?_
          refine lv_bipush (v := 32) hx hb dX12_countFor_95 (by decide) ?_
          refine lv_iload hx hb dX12_countFor_97 (lv_at hl 0 rfl) ?_
          refine lv_imul hx hb dX12_countFor_99 ?_
          have t_69 : (32 * k49_5).toInt = 32 * k49_5.toInt := g5_imul (a := 32) (b := k49_5.toInt) (by decide) (by rfl) (by omega) (by omega)
          refine lv_aload_n hx hb dX12_countFor_100 rfl (lv_at hl 1 rfl) ?_
          refine va_get (D := G.1) (ci := 12) (v := .ref b_me) (C := RX12) (T := TX12) (N := 52) hx hb hts inG_X12 hown hK hP 2 rfl rfl 45 (by decide) (hts _ fl_X12_95) (fun _ h9 => h9) rfl dX12_countFor_101 ?_
          refine lv_iload hx hb dX12_countFor_104 (lv_at hl 0 rfl) ?_
          refine va_iald hx hb hK hP 7 0 rfl rfl (i := k49_5) (vp_in_iff.mpr ⟨by omega, by omega⟩) dX12_countFor_106 ?_
          have hr_70 : 0 ≤ (z25 k49_5.toNatClampNeg).toInt ∧ ((z25 k49_5.toNatClampNeg).toInt < 32 ∨ 64 ≤ (z25 k49_5.toNatClampNeg).toInt) ∧ (z25 k49_5.toNatClampNeg).toInt ≤ 127 := i_9 (k49_5.toNatClampNeg)
          refine lv_iadd hx hb dX12_countFor_107 ?_
          have t_71 : ((32 * k49_5) + (z25 k49_5.toNatClampNeg)).toInt = (32 * k49_5).toInt + (z25 k49_5.toNatClampNeg).toInt := g5_iadd (a := (32 * k49_5).toInt) (b := (z25 k49_5.toNatClampNeg).toInt) (by rfl) (by rfl) (by omega) (by omega)
          refine lv_lconst (v := 1) hx hb dX12_countFor_108 (by decide) ?_
          refine va_last hx hb hK hP hD hS 0 1 rfl rfl (i := ((32 * k49_5) + (z25 k49_5.toNatClampNeg))) (x := 1) (vp_in_iff.mpr ⟨by omega, by omega⟩) dX12_countFor_109 (fun H locs hP hD hS => ?_)
          refine g5_rs [(b_ah, (arJ G 49152 (vp_updL k49_ah ((32 * k49_5) + (z25 k49_5.toNatClampNeg)).toNatClampNeg 1))), (b_be, (arJ G 49152 k49_be)), (b_o, (oc12 u_th u_sa b_rf b_ro b_im b_ke u_fd b_tp u_td u_fr u_to u_so u_wo u_fa u_bd u_nc b_nl u_co b_op b_ar u_le b_pi b_pa u_pd u_od b_ws b_hw z10 b_se b_re z11 z12 z13 z14 z15 z16 z17 z18 b_pt z19 z20 b_ip 0 b_ah b_be b_me z21 b_tr b_ld u_st b_wn u_id)), (b_ro, (arI G 5740 v_ro)), (b_se, (arJ G 13 z22)), (b_re, (arJ G 400 z23)), (b_pt, (arI G 200 z24)), (b_me, (arI G 1536 z25))] hP hD (fun hP hD => ?_)
          refine lv_iconst (v := 0) hx hb dX12_countFor_110 (by decide) ?_
          refine lv_istore (lv' := [(6, .int 0), (5, .int k49_5), (0, .ref b_o), (1, .int p_1), (2, .int p_2), (3, .int p_3), (4, .int p_4)]) hx hb dX12_countFor_111 hl (by decide) rfl (fun ls hl => ?_)
          refine g5_loop (α := (Int32) × (Nat → Int64)) (fun (q : (Int32) × (Nat → Int64)) (ls : Array Slot) (H : Heap) (locs : List Loc) => match q with | (k113_6, k113_be) => lv_has ls 7 [(6, .int k113_6), (5, .int k49_5), (0, .ref b_o), (1, .int p_1), (2, .int p_2), (3, .int p_3), (4, .int p_4)] ∧ va_P G.1 vwCl [(b_ah, (arJ G 49152 (vp_updL k49_ah ((32 * k49_5) + (z25 k49_5.toNatClampNeg)).toNatClampNeg 1))), (b_be, (arJ G 49152 k113_be)), (b_o, (oc12 u_th u_sa b_rf b_ro b_im b_ke u_fd b_tp u_td u_fr u_to u_so u_wo u_fa u_bd u_nc b_nl u_co b_op b_ar u_le b_pi b_pa u_pd u_od b_ws b_hw z10 b_se b_re z11 z12 z13 z14 z15 z16 z17 z18 b_pt z19 z20 b_ip 0 b_ah b_be b_me z21 b_tr b_ld u_st b_wn u_id)), (b_ro, (arI G 5740 v_ro)), (b_se, (arJ G 13 z22)), (b_re, (arJ G 400 z23)), (b_pt, (arI G 200 z24)), (b_me, (arI G 1536 z25))] H ∧ va_D A [(b_ah, (arJ G 49152 (vp_updL k49_ah ((32 * k49_5) + (z25 k49_5.toNatClampNeg)).toNatClampNeg 1))), (b_be, (arJ G 49152 k113_be)), (b_o, (oc12 u_th u_sa b_rf b_ro b_im b_ke u_fd b_tp u_td u_fr u_to u_so u_wo u_fa u_bd u_nc b_nl u_co b_op b_ar u_le b_pi b_pa u_pd u_od b_ws b_hw z10 b_se b_re z11 z12 z13 z14 z15 z16 z17 z18 b_pt z19 z20 b_ip 0 b_ah b_be b_me z21 b_tr b_ld u_st b_wn u_id)), (b_ro, (arI G 5740 v_ro)), (b_se, (arJ G 13 z22)), (b_re, (arJ G 400 z23)), (b_pt, (arI G 200 z24)), (b_me, (arI G 1536 z25))] ∧ va_S A s.heap H locs ∧ (0 ≤ k113_6.toInt ∧ k113_6.toInt ≤ 32)) (fun (q : (Int32) × (Nat → Int64)) => match q with | (k113_6, k113_be) => Int.toNat (32 - k113_6.toInt)) (0, k49_be) ⟨lv_sub hl [0, 1, 2, 3, 4, 5, 6] rfl, hP, hD, hS, ⟨by decide, by decide⟩⟩ ?_
          rintro ⟨k113_6, k113_be⟩ ls H locs ⟨hl, hP, hD, hS, i_72⟩ ih_113_73
          have hl : lv_has ls 7 [(6, .int k113_6), (5, .int k49_5), (0, .ref b_o), (1, .int p_1), (2, .int p_2), (3, .int p_3), (4, .int p_4)] := hl
          have i_72 : 0 ≤ k113_6.toInt ∧ k113_6.toInt ≤ 32 := i_72
          refine g5_rs [(b_ah, (arJ G 49152 (vp_updL k49_ah ((32 * k49_5) + (z25 k49_5.toNatClampNeg)).toNatClampNeg 1))), (b_be, (arJ G 49152 k113_be)), (b_o, (oc12 u_th u_sa b_rf b_ro b_im b_ke u_fd b_tp u_td u_fr u_to u_so u_wo u_fa u_bd u_nc b_nl u_co b_op b_ar u_le b_pi b_pa u_pd u_od b_ws b_hw z10 b_se b_re z11 z12 z13 z14 z15 z16 z17 z18 b_pt z19 z20 b_ip 0 b_ah b_be b_me z21 b_tr b_ld u_st b_wn u_id)), (b_ro, (arI G 5740 v_ro)), (b_se, (arJ G 13 z22)), (b_re, (arJ G 400 z23)), (b_pt, (arI G 200 z24)), (b_me, (arI G 1536 z25))] hP hD (fun hP hD => ?_)
          refine lv_iload hx hb dX12_countFor_113 (lv_at hl 0 rfl) ?_
          refine lv_bipush (v := 32) hx hb dX12_countFor_115 (by decide) ?_
          refine lv_icmp_ge (tgt := 157) hx hb dX12_countFor_117 (by decide) (fun c_74 => ?_) (fun c_74 => ?_)
          ·
            have i_74 : k113_6.toInt ≥ 32 := by have z := g5_ge (a := k113_6.toInt) (b := 32) (by rfl) (by decide) c_74; omega
            refine lv_iinc (v := (k49_5 + 1)) (lv' := [(5, .int (k49_5 + 1)), (6, .int k113_6), (0, .ref b_o), (1, .int p_1), (2, .int p_2), (3, .int p_3), (4, .int p_4)]) hx hb dX12_countFor_157 hl (k := 1) rfl rfl (by decide) rfl (fun ls hl => ?_)
            have t_75 : (k49_5 + 1).toInt = k49_5.toInt + 1 := g5_iadd (a := k49_5.toInt) (b := 1) rfl (by decide) (by omega) (by omega)
            refine lv_goto (tgt := 49) hx hb dX12_countFor_160 (by decide) ?_
            exact ih_49_32 ((k49_5 + 1), (vp_updL k49_ah ((32 * k49_5) + (z25 k49_5.toNatClampNeg)).toNatClampNeg 1), k113_be) ls H locs (show Int.toNat (64 - (k49_5 + 1).toInt) < Int.toNat (64 - k49_5.toInt) from g_up (show k49_5.toInt < (k49_5 + 1).toInt by omega) (show k49_5.toInt < 64 by omega)) ⟨lv_sub hl [0, 2, 3, 4, 5, 6] rfl, hP, hD, hS, ⟨by omega, by omega⟩, ah0_set (c := k49_5) i_31 (by omega) ⟨by omega, by omega⟩ (by omega)⟩
          ·
            have i_74 : k113_6.toInt < 32 := by have z := g5_geN (a := k113_6.toInt) (b := 32) (by rfl) (by decide) c_74; omega
            refine lv_aload_n hx hb dX12_countFor_120 rfl (lv_at hl 2 rfl) ?_
            refine va_get (D := G.1) (ci := 12) (v := .ref b_be) (C := RX12) (T := TX12) (N := 52) hx hb hts inG_X12 hown hK hP 2 rfl rfl 44 (by decide) (hts _ fl_X12_92) (fun _ h9 => h9) rfl dX12_countFor_121 ?_
            refine lv_bipush (v := 32) hx hb dX12_countFor_124 (by decide) ?_
            refine lv_sipush (v := 1472) hx hb dX12_countFor_126 (by decide) ?_
            refine lv_iload hx hb dX12_countFor_129 (lv_at hl 1 rfl) ?_
            refine lv_iadd hx hb dX12_countFor_131 ?_
            have t_76 : (1472 + k49_5).toInt = 1472 + k49_5.toInt := g5_iadd (a := 1472) (b := k49_5.toInt) (by decide) (by rfl) (by omega) (by omega)
            refine lv_imul hx hb dX12_countFor_132 ?_
            have t_77 : (32 * (1472 + k49_5)).toInt = 32 * (1472 + k49_5).toInt := g5_imul (a := 32) (b := (1472 + k49_5).toInt) (by decide) (by rfl) (by omega) (by omega)
            refine lv_iload hx hb dX12_countFor_133 (lv_at hl 0 rfl) ?_
            refine lv_iadd hx hb dX12_countFor_135 ?_
            have t_78 : ((32 * (1472 + k49_5)) + k113_6).toInt = (32 * (1472 + k49_5)).toInt + k113_6.toInt := g5_iadd (a := (32 * (1472 + k49_5)).toInt) (b := k113_6.toInt) (by rfl) (by rfl) (by omega) (by omega)
            refine lv_iload hx hb dX12_countFor_136 (lv_at hl 0 rfl) ?_
            refine lv_aload_n hx hb dX12_countFor_138 rfl (lv_at hl 2 rfl) ?_
            refine va_get (D := G.1) (ci := 12) (v := .int z21) (C := RX12) (T := TX12) (N := 52) hx hb hts inG_X12 hown hK hP 2 rfl rfl 46 (by decide) (hts _ fl_X12_422) (fun _ h9 => h9) rfl dX12_countFor_139 ?_
            refine lv_icmp_ne (tgt := 149) hx hb dX12_countFor_142 (by decide) (fun c_79 => ?_) (fun c_79 => ?_)
            ·
              have n_79 : gNe (k113_6.toInt) (z21.toInt) := by have z := g5_ne (a := k113_6.toInt) (b := z21.toInt) (by rfl) (by rfl) c_79; unfold gNe; omega
              refine lv_lconst (v := 0) hx hb dX12_countFor_149 (by decide) ?_
              refine va_last hx hb hK hP hD hS 1 1 rfl rfl (i := ((32 * (1472 + k49_5)) + k113_6)) (x := 0) (vp_in_iff.mpr ⟨by omega, by omega⟩) dX12_countFor_150 (fun H locs hP hD hS => ?_)
              refine g5_rs [(b_ah, (arJ G 49152 (vp_updL k49_ah ((32 * k49_5) + (z25 k49_5.toNatClampNeg)).toNatClampNeg 1))), (b_be, (arJ G 49152 (vp_updL k113_be ((32 * (1472 + k49_5)) + k113_6).toNatClampNeg 0))), (b_o, (oc12 u_th u_sa b_rf b_ro b_im b_ke u_fd b_tp u_td u_fr u_to u_so u_wo u_fa u_bd u_nc b_nl u_co b_op b_ar u_le b_pi b_pa u_pd u_od b_ws b_hw z10 b_se b_re z11 z12 z13 z14 z15 z16 z17 z18 b_pt z19 z20 b_ip 0 b_ah b_be b_me z21 b_tr b_ld u_st b_wn u_id)), (b_ro, (arI G 5740 v_ro)), (b_se, (arJ G 13 z22)), (b_re, (arJ G 400 z23)), (b_pt, (arI G 200 z24)), (b_me, (arI G 1536 z25))] hP hD (fun hP hD => ?_)
              refine lv_iinc (v := (k113_6 + 1)) (lv' := [(6, .int (k113_6 + 1)), (5, .int k49_5), (0, .ref b_o), (1, .int p_1), (2, .int p_2), (3, .int p_3), (4, .int p_4)]) hx hb dX12_countFor_151 hl (k := 0) rfl rfl (by decide) rfl (fun ls hl => ?_)
              have t_80 : (k113_6 + 1).toInt = k113_6.toInt + 1 := g5_iadd (a := k113_6.toInt) (b := 1) rfl (by decide) (by omega) (by omega)
              refine lv_goto (tgt := 113) hx hb dX12_countFor_154 (by decide) ?_
              exact ih_113_73 ((k113_6 + 1), (vp_updL k113_be ((32 * (1472 + k49_5)) + k113_6).toNatClampNeg 0)) ls H locs (show Int.toNat (32 - (k113_6 + 1).toInt) < Int.toNat (32 - k113_6.toInt) from g_up (show k113_6.toInt < (k113_6 + 1).toInt by omega) (show k113_6.toInt < 32 by omega)) ⟨lv_sub hl [0, 1, 2, 3, 4, 5, 6] rfl, hP, hD, hS, ⟨by omega, by omega⟩⟩
            ·
              have i_79 : k113_6.toInt = z21.toInt := by have z := g5_neN (a := k113_6.toInt) (b := z21.toInt) (by rfl) (by rfl) c_79; omega
              refine lv_lconst (v := 1) hx hb dX12_countFor_145 (by decide) ?_
              refine lv_goto (tgt := 150) hx hb dX12_countFor_146 (by decide) ?_
              refine va_last hx hb hK hP hD hS 1 1 rfl rfl (i := ((32 * (1472 + k49_5)) + k113_6)) (x := 1) (vp_in_iff.mpr ⟨by omega, by omega⟩) dX12_countFor_150 (fun H locs hP hD hS => ?_)
              refine g5_rs [(b_ah, (arJ G 49152 (vp_updL k49_ah ((32 * k49_5) + (z25 k49_5.toNatClampNeg)).toNatClampNeg 1))), (b_be, (arJ G 49152 (vp_updL k113_be ((32 * (1472 + k49_5)) + k113_6).toNatClampNeg 1))), (b_o, (oc12 u_th u_sa b_rf b_ro b_im b_ke u_fd b_tp u_td u_fr u_to u_so u_wo u_fa u_bd u_nc b_nl u_co b_op b_ar u_le b_pi b_pa u_pd u_od b_ws b_hw z10 b_se b_re z11 z12 z13 z14 z15 z16 z17 z18 b_pt z19 z20 b_ip 0 b_ah b_be b_me z21 b_tr b_ld u_st b_wn u_id)), (b_ro, (arI G 5740 v_ro)), (b_se, (arJ G 13 z22)), (b_re, (arJ G 400 z23)), (b_pt, (arI G 200 z24)), (b_me, (arI G 1536 z25))] hP hD (fun hP hD => ?_)
              refine lv_iinc (v := (k113_6 + 1)) (lv' := [(6, .int (k113_6 + 1)), (5, .int k49_5), (0, .ref b_o), (1, .int p_1), (2, .int p_2), (3, .int p_3), (4, .int p_4)]) hx hb dX12_countFor_151 hl (k := 0) rfl rfl (by decide) rfl (fun ls hl => ?_)
              have t_81 : (k113_6 + 1).toInt = k113_6.toInt + 1 := g5_iadd (a := k113_6.toInt) (b := 1) rfl (by decide) (by omega) (by omega)
              refine lv_goto (tgt := 113) hx hb dX12_countFor_154 (by decide) ?_
              exact ih_113_73 ((k113_6 + 1), (vp_updL k113_be ((32 * (1472 + k49_5)) + k113_6).toNatClampNeg 1)) ls H locs (show Int.toNat (32 - (k113_6 + 1).toInt) < Int.toNat (32 - k113_6.toInt) from g_up (show k113_6.toInt < (k113_6 + 1).toInt by omega) (show k113_6.toInt < 32 by omega)) ⟨lv_sub hl [0, 1, 2, 3, 4, 5, 6] rfl, hP, hD, hS, ⟨by omega, by omega⟩⟩
        ·
          have n_68 : gNe ((v_ro 6).toInt) ((-1)) := by have z := g5_eqN (a := (v_ro 6).toInt) (b := (-1)) (by rfl) (by decide) c_68; unfold gNe; omega
          have i_68 : (v_ro 6).toInt ≥ 0 := by have z := g5_eqN (a := (v_ro 6).toInt) (b := (-1)) (by rfl) (by decide) c_68; omega
          refine lv_aload_n hx hb dX12_countFor_79 rfl (lv_at hl 1 rfl) ?_
          refine va_get (D := G.1) (ci := 12) (v := .ref b_ro) (C := RX12) (T := TX12) (N := 52) hx hb hts inG_X12 hown hK hP 2 rfl rfl 3 (by decide) (hts _ fl_X12_13) (fun _ h9 => h9) rfl dX12_countFor_80 ?_
          refine lv_bipush (v := 6) hx hb dX12_countFor_83 (by decide) ?_
          refine va_iald hx hb hK hP 3 0 rfl rfl (i := 6) (by unfold vp_in; decide) dX12_countFor_85 ?_
          refine g5_ti (v := (v_ro 6)) rfl ?_
          have hr_82 : (-1) ≤ (v_ro 6).toInt ∧ (v_ro 6).toInt ≤ 63 := mi_6 r_ro
          refine lv_iload hx hb dX12_countFor_86 (lv_at hl 0 rfl) ?_
          refine lv_icmp_ne (tgt := 110) hx hb dX12_countFor_88 (by decide) (fun c_83 => ?_) (fun c_83 => ?_)
          ·
            have n_83 : gNe ((v_ro 6).toInt) (k49_5.toInt) := by have z := g5_ne (a := (v_ro 6).toInt) (b := k49_5.toInt) (by rfl) (by rfl) c_83; unfold gNe; omega
            refine lv_iconst (v := 0) hx hb dX12_countFor_110 (by decide) ?_
            refine lv_istore (lv' := [(6, .int 0), (5, .int k49_5), (0, .ref b_o), (1, .int p_1), (2, .int p_2), (3, .int p_3), (4, .int p_4)]) hx hb dX12_countFor_111 hl (by decide) rfl (fun ls hl => ?_)
            refine g5_loop (α := (Int32) × (Nat → Int64)) (fun (q : (Int32) × (Nat → Int64)) (ls : Array Slot) (H : Heap) (locs : List Loc) => match q with | (k113_6, k113_be) => lv_has ls 7 [(6, .int k113_6), (5, .int k49_5), (0, .ref b_o), (1, .int p_1), (2, .int p_2), (3, .int p_3), (4, .int p_4)] ∧ va_P G.1 vwCl [(b_ah, (arJ G 49152 k49_ah)), (b_be, (arJ G 49152 k113_be)), (b_o, (oc12 u_th u_sa b_rf b_ro b_im b_ke u_fd b_tp u_td u_fr u_to u_so u_wo u_fa u_bd u_nc b_nl u_co b_op b_ar u_le b_pi b_pa u_pd u_od b_ws b_hw z10 b_se b_re z11 z12 z13 z14 z15 z16 z17 z18 b_pt z19 z20 b_ip 0 b_ah b_be b_me z21 b_tr b_ld u_st b_wn u_id)), (b_ro, (arI G 5740 v_ro)), (b_se, (arJ G 13 z22)), (b_re, (arJ G 400 z23)), (b_pt, (arI G 200 z24)), (b_me, (arI G 1536 z25))] H ∧ va_D A [(b_ah, (arJ G 49152 k49_ah)), (b_be, (arJ G 49152 k113_be)), (b_o, (oc12 u_th u_sa b_rf b_ro b_im b_ke u_fd b_tp u_td u_fr u_to u_so u_wo u_fa u_bd u_nc b_nl u_co b_op b_ar u_le b_pi b_pa u_pd u_od b_ws b_hw z10 b_se b_re z11 z12 z13 z14 z15 z16 z17 z18 b_pt z19 z20 b_ip 0 b_ah b_be b_me z21 b_tr b_ld u_st b_wn u_id)), (b_ro, (arI G 5740 v_ro)), (b_se, (arJ G 13 z22)), (b_re, (arJ G 400 z23)), (b_pt, (arI G 200 z24)), (b_me, (arI G 1536 z25))] ∧ va_S A s.heap H locs ∧ (0 ≤ k113_6.toInt ∧ k113_6.toInt ≤ 32)) (fun (q : (Int32) × (Nat → Int64)) => match q with | (k113_6, k113_be) => Int.toNat (32 - k113_6.toInt)) (0, k49_be) ⟨lv_sub hl [0, 1, 2, 3, 4, 5, 6] rfl, hP, hD, hS, ⟨by decide, by decide⟩⟩ ?_
            rintro ⟨k113_6, k113_be⟩ ls H locs ⟨hl, hP, hD, hS, i_84⟩ ih_113_85
            have hl : lv_has ls 7 [(6, .int k113_6), (5, .int k49_5), (0, .ref b_o), (1, .int p_1), (2, .int p_2), (3, .int p_3), (4, .int p_4)] := hl
            have i_84 : 0 ≤ k113_6.toInt ∧ k113_6.toInt ≤ 32 := i_84
            refine g5_rs [(b_ah, (arJ G 49152 k49_ah)), (b_be, (arJ G 49152 k113_be)), (b_o, (oc12 u_th u_sa b_rf b_ro b_im b_ke u_fd b_tp u_td u_fr u_to u_so u_wo u_fa u_bd u_nc b_nl u_co b_op b_ar u_le b_pi b_pa u_pd u_od b_ws b_hw z10 b_se b_re z11 z12 z13 z14 z15 z16 z17 z18 b_pt z19 z20 b_ip 0 b_ah b_be b_me z21 b_tr b_ld u_st b_wn u_id)), (b_ro, (arI G 5740 v_ro)), (b_se, (arJ G 13 z22)), (b_re, (arJ G 400 z23)), (b_pt, (arI G 200 z24)), (b_me, (arI G 1536 z25))] hP hD (fun hP hD => ?_)
            refine lv_iload hx hb dX12_countFor_113 (lv_at hl 0 rfl) ?_
            refine lv_bipush (v := 32) hx hb dX12_countFor_115 (by decide) ?_
            refine lv_icmp_ge (tgt := 157) hx hb dX12_countFor_117 (by decide) (fun c_86 => ?_) (fun c_86 => ?_)
            ·
              have i_86 : k113_6.toInt ≥ 32 := by have z := g5_ge (a := k113_6.toInt) (b := 32) (by rfl) (by decide) c_86; omega
              refine lv_iinc (v := (k49_5 + 1)) (lv' := [(5, .int (k49_5 + 1)), (6, .int k113_6), (0, .ref b_o), (1, .int p_1), (2, .int p_2), (3, .int p_3), (4, .int p_4)]) hx hb dX12_countFor_157 hl (k := 1) rfl rfl (by decide) rfl (fun ls hl => ?_)
              have t_87 : (k49_5 + 1).toInt = k49_5.toInt + 1 := g5_iadd (a := k49_5.toInt) (b := 1) rfl (by decide) (by omega) (by omega)
              refine lv_goto (tgt := 49) hx hb dX12_countFor_160 (by decide) ?_
              exact ih_49_32 ((k49_5 + 1), k49_ah, k113_be) ls H locs (show Int.toNat (64 - (k49_5 + 1).toInt) < Int.toNat (64 - k49_5.toInt) from g_up (show k49_5.toInt < (k49_5 + 1).toInt by omega) (show k49_5.toInt < 64 by omega)) ⟨lv_sub hl [0, 2, 3, 4, 5, 6] rfl, hP, hD, hS, ⟨by omega, by omega⟩, i_31⟩
            ·
              have i_86 : k113_6.toInt < 32 := by have z := g5_geN (a := k113_6.toInt) (b := 32) (by rfl) (by decide) c_86; omega
              refine lv_aload_n hx hb dX12_countFor_120 rfl (lv_at hl 2 rfl) ?_
              refine va_get (D := G.1) (ci := 12) (v := .ref b_be) (C := RX12) (T := TX12) (N := 52) hx hb hts inG_X12 hown hK hP 2 rfl rfl 44 (by decide) (hts _ fl_X12_92) (fun _ h9 => h9) rfl dX12_countFor_121 ?_
              refine lv_bipush (v := 32) hx hb dX12_countFor_124 (by decide) ?_
              refine lv_sipush (v := 1472) hx hb dX12_countFor_126 (by decide) ?_
              refine lv_iload hx hb dX12_countFor_129 (lv_at hl 1 rfl) ?_
              refine lv_iadd hx hb dX12_countFor_131 ?_
              have t_88 : (1472 + k49_5).toInt = 1472 + k49_5.toInt := g5_iadd (a := 1472) (b := k49_5.toInt) (by decide) (by rfl) (by omega) (by omega)
              refine lv_imul hx hb dX12_countFor_132 ?_
              have t_89 : (32 * (1472 + k49_5)).toInt = 32 * (1472 + k49_5).toInt := g5_imul (a := 32) (b := (1472 + k49_5).toInt) (by decide) (by rfl) (by omega) (by omega)
              refine lv_iload hx hb dX12_countFor_133 (lv_at hl 0 rfl) ?_
              refine lv_iadd hx hb dX12_countFor_135 ?_
              have t_90 : ((32 * (1472 + k49_5)) + k113_6).toInt = (32 * (1472 + k49_5)).toInt + k113_6.toInt := g5_iadd (a := (32 * (1472 + k49_5)).toInt) (b := k113_6.toInt) (by rfl) (by rfl) (by omega) (by omega)
              refine lv_iload hx hb dX12_countFor_136 (lv_at hl 0 rfl) ?_
              refine lv_aload_n hx hb dX12_countFor_138 rfl (lv_at hl 2 rfl) ?_
              refine va_get (D := G.1) (ci := 12) (v := .int z21) (C := RX12) (T := TX12) (N := 52) hx hb hts inG_X12 hown hK hP 2 rfl rfl 46 (by decide) (hts _ fl_X12_422) (fun _ h9 => h9) rfl dX12_countFor_139 ?_
              refine lv_icmp_ne (tgt := 149) hx hb dX12_countFor_142 (by decide) (fun c_91 => ?_) (fun c_91 => ?_)
              ·
                have n_91 : gNe (k113_6.toInt) (z21.toInt) := by have z := g5_ne (a := k113_6.toInt) (b := z21.toInt) (by rfl) (by rfl) c_91; unfold gNe; omega
                refine lv_lconst (v := 0) hx hb dX12_countFor_149 (by decide) ?_
                refine va_last hx hb hK hP hD hS 1 1 rfl rfl (i := ((32 * (1472 + k49_5)) + k113_6)) (x := 0) (vp_in_iff.mpr ⟨by omega, by omega⟩) dX12_countFor_150 (fun H locs hP hD hS => ?_)
                refine g5_rs [(b_ah, (arJ G 49152 k49_ah)), (b_be, (arJ G 49152 (vp_updL k113_be ((32 * (1472 + k49_5)) + k113_6).toNatClampNeg 0))), (b_o, (oc12 u_th u_sa b_rf b_ro b_im b_ke u_fd b_tp u_td u_fr u_to u_so u_wo u_fa u_bd u_nc b_nl u_co b_op b_ar u_le b_pi b_pa u_pd u_od b_ws b_hw z10 b_se b_re z11 z12 z13 z14 z15 z16 z17 z18 b_pt z19 z20 b_ip 0 b_ah b_be b_me z21 b_tr b_ld u_st b_wn u_id)), (b_ro, (arI G 5740 v_ro)), (b_se, (arJ G 13 z22)), (b_re, (arJ G 400 z23)), (b_pt, (arI G 200 z24)), (b_me, (arI G 1536 z25))] hP hD (fun hP hD => ?_)
                refine lv_iinc (v := (k113_6 + 1)) (lv' := [(6, .int (k113_6 + 1)), (5, .int k49_5), (0, .ref b_o), (1, .int p_1), (2, .int p_2), (3, .int p_3), (4, .int p_4)]) hx hb dX12_countFor_151 hl (k := 0) rfl rfl (by decide) rfl (fun ls hl => ?_)
                have t_92 : (k113_6 + 1).toInt = k113_6.toInt + 1 := g5_iadd (a := k113_6.toInt) (b := 1) rfl (by decide) (by omega) (by omega)
                refine lv_goto (tgt := 113) hx hb dX12_countFor_154 (by decide) ?_
                exact ih_113_85 ((k113_6 + 1), (vp_updL k113_be ((32 * (1472 + k49_5)) + k113_6).toNatClampNeg 0)) ls H locs (show Int.toNat (32 - (k113_6 + 1).toInt) < Int.toNat (32 - k113_6.toInt) from g_up (show k113_6.toInt < (k113_6 + 1).toInt by omega) (show k113_6.toInt < 32 by omega)) ⟨lv_sub hl [0, 1, 2, 3, 4, 5, 6] rfl, hP, hD, hS, ⟨by omega, by omega⟩⟩
              ·
                have i_91 : k113_6.toInt = z21.toInt := by have z := g5_neN (a := k113_6.toInt) (b := z21.toInt) (by rfl) (by rfl) c_91; omega
                refine lv_lconst (v := 1) hx hb dX12_countFor_145 (by decide) ?_
                refine lv_goto (tgt := 150) hx hb dX12_countFor_146 (by decide) ?_
                refine va_last hx hb hK hP hD hS 1 1 rfl rfl (i := ((32 * (1472 + k49_5)) + k113_6)) (x := 1) (vp_in_iff.mpr ⟨by omega, by omega⟩) dX12_countFor_150 (fun H locs hP hD hS => ?_)
                refine g5_rs [(b_ah, (arJ G 49152 k49_ah)), (b_be, (arJ G 49152 (vp_updL k113_be ((32 * (1472 + k49_5)) + k113_6).toNatClampNeg 1))), (b_o, (oc12 u_th u_sa b_rf b_ro b_im b_ke u_fd b_tp u_td u_fr u_to u_so u_wo u_fa u_bd u_nc b_nl u_co b_op b_ar u_le b_pi b_pa u_pd u_od b_ws b_hw z10 b_se b_re z11 z12 z13 z14 z15 z16 z17 z18 b_pt z19 z20 b_ip 0 b_ah b_be b_me z21 b_tr b_ld u_st b_wn u_id)), (b_ro, (arI G 5740 v_ro)), (b_se, (arJ G 13 z22)), (b_re, (arJ G 400 z23)), (b_pt, (arI G 200 z24)), (b_me, (arI G 1536 z25))] hP hD (fun hP hD => ?_)
                refine lv_iinc (v := (k113_6 + 1)) (lv' := [(6, .int (k113_6 + 1)), (5, .int k49_5), (0, .ref b_o), (1, .int p_1), (2, .int p_2), (3, .int p_3), (4, .int p_4)]) hx hb dX12_countFor_151 hl (k := 0) rfl rfl (by decide) rfl (fun ls hl => ?_)
                have t_93 : (k113_6 + 1).toInt = k113_6.toInt + 1 := g5_iadd (a := k113_6.toInt) (b := 1) rfl (by decide) (by omega) (by omega)
                refine lv_goto (tgt := 113) hx hb dX12_countFor_154 (by decide) ?_
                exact ih_113_85 ((k113_6 + 1), (vp_updL k113_be ((32 * (1472 + k49_5)) + k113_6).toNatClampNeg 1)) ls H locs (show Int.toNat (32 - (k113_6 + 1).toInt) < Int.toNat (32 - k113_6.toInt) from g_up (show k113_6.toInt < (k113_6 + 1).toInt by omega) (show k113_6.toInt < 32 by omega)) ⟨lv_sub hl [0, 1, 2, 3, 4, 5, 6] rfl, hP, hD, hS, ⟨by omega, by omega⟩⟩
          ·
            have i_83 : (v_ro 6).toInt = k49_5.toInt := by have z := g5_neN (a := (v_ro 6).toInt) (b := k49_5.toInt) (by rfl) (by rfl) c_83; omega
            refine lv_aload_n hx hb dX12_countFor_91 rfl (lv_at hl 1 rfl) ?_
            refine va_get (D := G.1) (ci := 12) (v := .ref b_ah) (C := RX12) (T := TX12) (N := 52) hx hb hts inG_X12 hown hK hP 2 rfl rfl 43 (by decide) (hts _ fl_X12_89) (fun _ h9 => h9) rfl dX12_countFor_92 ?_
            refine lv_bipush (v := 32) hx hb dX12_countFor_95 (by decide) ?_
            refine lv_iload hx hb dX12_countFor_97 (lv_at hl 0 rfl) ?_
            refine lv_imul hx hb dX12_countFor_99 ?_
            have t_94 : (32 * k49_5).toInt = 32 * k49_5.toInt := g5_imul (a := 32) (b := k49_5.toInt) (by decide) (by rfl) (by omega) (by omega)
            refine lv_aload_n hx hb dX12_countFor_100 rfl (lv_at hl 1 rfl) ?_
            refine va_get (D := G.1) (ci := 12) (v := .ref b_me) (C := RX12) (T := TX12) (N := 52) hx hb hts inG_X12 hown hK hP 2 rfl rfl 45 (by decide) (hts _ fl_X12_95) (fun _ h9 => h9) rfl dX12_countFor_101 ?_
            refine lv_iload hx hb dX12_countFor_104 (lv_at hl 0 rfl) ?_
            refine va_iald hx hb hK hP 7 0 rfl rfl (i := k49_5) (vp_in_iff.mpr ⟨by omega, by omega⟩) dX12_countFor_106 ?_
            have hr_95 : 0 ≤ (z25 k49_5.toNatClampNeg).toInt ∧ ((z25 k49_5.toNatClampNeg).toInt < 32 ∨ 64 ≤ (z25 k49_5.toNatClampNeg).toInt) ∧ (z25 k49_5.toNatClampNeg).toInt ≤ 127 := i_9 (k49_5.toNatClampNeg)
            refine lv_iadd hx hb dX12_countFor_107 ?_
            have t_96 : ((32 * k49_5) + (z25 k49_5.toNatClampNeg)).toInt = (32 * k49_5).toInt + (z25 k49_5.toNatClampNeg).toInt := g5_iadd (a := (32 * k49_5).toInt) (b := (z25 k49_5.toNatClampNeg).toInt) (by rfl) (by rfl) (by omega) (by omega)
            refine lv_lconst (v := 1) hx hb dX12_countFor_108 (by decide) ?_
            refine va_last hx hb hK hP hD hS 0 1 rfl rfl (i := ((32 * k49_5) + (z25 k49_5.toNatClampNeg))) (x := 1) (vp_in_iff.mpr ⟨by omega, by omega⟩) dX12_countFor_109 (fun H locs hP hD hS => ?_)
            refine g5_rs [(b_ah, (arJ G 49152 (vp_updL k49_ah ((32 * k49_5) + (z25 k49_5.toNatClampNeg)).toNatClampNeg 1))), (b_be, (arJ G 49152 k49_be)), (b_o, (oc12 u_th u_sa b_rf b_ro b_im b_ke u_fd b_tp u_td u_fr u_to u_so u_wo u_fa u_bd u_nc b_nl u_co b_op b_ar u_le b_pi b_pa u_pd u_od b_ws b_hw z10 b_se b_re z11 z12 z13 z14 z15 z16 z17 z18 b_pt z19 z20 b_ip 0 b_ah b_be b_me z21 b_tr b_ld u_st b_wn u_id)), (b_ro, (arI G 5740 v_ro)), (b_se, (arJ G 13 z22)), (b_re, (arJ G 400 z23)), (b_pt, (arI G 200 z24)), (b_me, (arI G 1536 z25))] hP hD (fun hP hD => ?_)
            refine lv_iconst (v := 0) hx hb dX12_countFor_110 (by decide) ?_
            refine lv_istore (lv' := [(6, .int 0), (5, .int k49_5), (0, .ref b_o), (1, .int p_1), (2, .int p_2), (3, .int p_3), (4, .int p_4)]) hx hb dX12_countFor_111 hl (by decide) rfl (fun ls hl => ?_)
            refine g5_loop (α := (Int32) × (Nat → Int64)) (fun (q : (Int32) × (Nat → Int64)) (ls : Array Slot) (H : Heap) (locs : List Loc) => match q with | (k113_6, k113_be) => lv_has ls 7 [(6, .int k113_6), (5, .int k49_5), (0, .ref b_o), (1, .int p_1), (2, .int p_2), (3, .int p_3), (4, .int p_4)] ∧ va_P G.1 vwCl [(b_ah, (arJ G 49152 (vp_updL k49_ah ((32 * k49_5) + (z25 k49_5.toNatClampNeg)).toNatClampNeg 1))), (b_be, (arJ G 49152 k113_be)), (b_o, (oc12 u_th u_sa b_rf b_ro b_im b_ke u_fd b_tp u_td u_fr u_to u_so u_wo u_fa u_bd u_nc b_nl u_co b_op b_ar u_le b_pi b_pa u_pd u_od b_ws b_hw z10 b_se b_re z11 z12 z13 z14 z15 z16 z17 z18 b_pt z19 z20 b_ip 0 b_ah b_be b_me z21 b_tr b_ld u_st b_wn u_id)), (b_ro, (arI G 5740 v_ro)), (b_se, (arJ G 13 z22)), (b_re, (arJ G 400 z23)), (b_pt, (arI G 200 z24)), (b_me, (arI G 1536 z25))] H ∧ va_D A [(b_ah, (arJ G 49152 (vp_updL k49_ah ((32 * k49_5) + (z25 k49_5.toNatClampNeg)).toNatClampNeg 1))), (b_be, (arJ G 49152 k113_be)), (b_o, (oc12 u_th u_sa b_rf b_ro b_im b_ke u_fd b_tp u_td u_fr u_to u_so u_wo u_fa u_bd u_nc b_nl u_co b_op b_ar u_le b_pi b_pa u_pd u_od b_ws b_hw z10 b_se b_re z11 z12 z13 z14 z15 z16 z17 z18 b_pt z19 z20 b_ip 0 b_ah b_be b_me z21 b_tr b_ld u_st b_wn u_id)), (b_ro, (arI G 5740 v_ro)), (b_se, (arJ G 13 z22)), (b_re, (arJ G 400 z23)), (b_pt, (arI G 200 z24)), (b_me, (arI G 1536 z25))] ∧ va_S A s.heap H locs ∧ (0 ≤ k113_6.toInt ∧ k113_6.toInt ≤ 32)) (fun (q : (Int32) × (Nat → Int64)) => match q with | (k113_6, k113_be) => Int.toNat (32 - k113_6.toInt)) (0, k49_be) ⟨lv_sub hl [0, 1, 2, 3, 4, 5, 6] rfl, hP, hD, hS, ⟨by decide, by decide⟩⟩ ?_
            rintro ⟨k113_6, k113_be⟩ ls H locs ⟨hl, hP, hD, hS, i_97⟩ ih_113_98
            have hl : lv_has ls 7 [(6, .int k113_6), (5, .int k49_5), (0, .ref b_o), (1, .int p_1), (2, .int p_2), (3, .int p_3), (4, .int p_4)] := hl
            have i_97 : 0 ≤ k113_6.toInt ∧ k113_6.toInt ≤ 32 := i_97
            refine g5_rs [(b_ah, (arJ G 49152 (vp_updL k49_ah ((32 * k49_5) + (z25 k49_5.toNatClampNeg)).toNatClampNeg 1))), (b_be, (arJ G 49152 k113_be)), (b_o, (oc12 u_th u_sa b_rf b_ro b_im b_ke u_fd b_tp u_td u_fr u_to u_so u_wo u_fa u_bd u_nc b_nl u_co b_op b_ar u_le b_pi b_pa u_pd u_od b_ws b_hw z10 b_se b_re z11 z12 z13 z14 z15 z16 z17 z18 b_pt z19 z20 b_ip 0 b_ah b_be b_me z21 b_tr b_ld u_st b_wn u_id)), (b_ro, (arI G 5740 v_ro)), (b_se, (arJ G 13 z22)), (b_re, (arJ G 400 z23)), (b_pt, (arI G 200 z24)), (b_me, (arI G 1536 z25))] hP hD (fun hP hD => ?_)
            refine lv_iload hx hb dX12_countFor_113 (lv_at hl 0 rfl) ?_
            refine lv_bipush (v := 32) hx hb dX12_countFor_115 (by decide) ?_
            refine lv_icmp_ge (tgt := 157) hx hb dX12_countFor_117 (by decide) (fun c_99 => ?_) (fun c_99 => ?_)
            ·
              have i_99 : k113_6.toInt ≥ 32 := by have z := g5_ge (a := k113_6.toInt) (b := 32) (by rfl) (by decide) c_99; omega
              refine lv_iinc (v := (k49_5 + 1)) (lv' := [(5, .int (k49_5 + 1)), (6, .int k113_6), (0, .ref b_o), (1, .int p_1), (2, .int p_2), (3, .int p_3), (4, .int p_4)]) hx hb dX12_countFor_157 hl (k := 1) rfl rfl (by decide) rfl (fun ls hl => ?_)
              have t_100 : (k49_5 + 1).toInt = k49_5.toInt + 1 := g5_iadd (a := k49_5.toInt) (b := 1) rfl (by decide) (by omega) (by omega)
              refine lv_goto (tgt := 49) hx hb dX12_countFor_160 (by decide) ?_
              exact ih_49_32 ((k49_5 + 1), (vp_updL k49_ah ((32 * k49_5) + (z25 k49_5.toNatClampNeg)).toNatClampNeg 1), k113_be) ls H locs (show Int.toNat (64 - (k49_5 + 1).toInt) < Int.toNat (64 - k49_5.toInt) from g_up (show k49_5.toInt < (k49_5 + 1).toInt by omega) (show k49_5.toInt < 64 by omega)) ⟨lv_sub hl [0, 2, 3, 4, 5, 6] rfl, hP, hD, hS, ⟨by omega, by omega⟩, ah0_set (c := k49_5) i_31 (by omega) ⟨by omega, by omega⟩ (by omega)⟩
            ·
              have i_99 : k113_6.toInt < 32 := by have z := g5_geN (a := k113_6.toInt) (b := 32) (by rfl) (by decide) c_99; omega
              refine lv_aload_n hx hb dX12_countFor_120 rfl (lv_at hl 2 rfl) ?_
              refine va_get (D := G.1) (ci := 12) (v := .ref b_be) (C := RX12) (T := TX12) (N := 52) hx hb hts inG_X12 hown hK hP 2 rfl rfl 44 (by decide) (hts _ fl_X12_92) (fun _ h9 => h9) rfl dX12_countFor_121 ?_
              refine lv_bipush (v := 32) hx hb dX12_countFor_124 (by decide) ?_
              refine lv_sipush (v := 1472) hx hb dX12_countFor_126 (by decide) ?_
              refine lv_iload hx hb dX12_countFor_129 (lv_at hl 1 rfl) ?_
              refine lv_iadd hx hb dX12_countFor_131 ?_
              have t_101 : (1472 + k49_5).toInt = 1472 + k49_5.toInt := g5_iadd (a := 1472) (b := k49_5.toInt) (by decide) (by rfl) (by omega) (by omega)
              refine lv_imul hx hb dX12_countFor_132 ?_
              have t_102 : (32 * (1472 + k49_5)).toInt = 32 * (1472 + k49_5).toInt := g5_imul (a := 32) (b := (1472 + k49_5).toInt) (by decide) (by rfl) (by omega) (by omega)
              refine lv_iload hx hb dX12_countFor_133 (lv_at hl 0 rfl) ?_
              refine lv_iadd hx hb dX12_countFor_135 ?_
              have t_103 : ((32 * (1472 + k49_5)) + k113_6).toInt = (32 * (1472 + k49_5)).toInt + k113_6.toInt := g5_iadd (a := (32 * (1472 + k49_5)).toInt) (b := k113_6.toInt) (by rfl) (by rfl) (by omega) (by omega)
              refine lv_iload hx hb dX12_countFor_136 (lv_at hl 0 rfl) ?_
              refine lv_aload_n hx hb dX12_countFor_138 rfl (lv_at hl 2 rfl) ?_
              refine va_get (D := G.1) (ci := 12) (v := .int z21) (C := RX12) (T := TX12) (N := 52) hx hb hts inG_X12 hown hK hP 2 rfl rfl 46 (by decide) (hts _ fl_X12_422) (fun _ h9 => h9) rfl dX12_countFor_139 ?_
              refine lv_icmp_ne (tgt := 149) hx hb dX12_countFor_142 (by decide) (fun c_104 => ?_) (fun c_104 => ?_)
              ·
                have n_104 : gNe (k113_6.toInt) (z21.toInt) := by have z := g5_ne (a := k113_6.toInt) (b := z21.toInt) (by rfl) (by rfl) c_104; unfold gNe; omega
                refine lv_lconst (v := 0) hx hb dX12_countFor_149 (by decide) ?_
                refine va_last hx hb hK hP hD hS 1 1 rfl rfl (i := ((32 * (1472 + k49_5)) + k113_6)) (x := 0) (vp_in_iff.mpr ⟨by omega, by omega⟩) dX12_countFor_150 (fun H locs hP hD hS => ?_)
                refine g5_rs [(b_ah, (arJ G 49152 (vp_updL k49_ah ((32 * k49_5) + (z25 k49_5.toNatClampNeg)).toNatClampNeg 1))), (b_be, (arJ G 49152 (vp_updL k113_be ((32 * (1472 + k49_5)) + k113_6).toNatClampNeg 0))), (b_o, (oc12 u_th u_sa b_rf b_ro b_im b_ke u_fd b_tp u_td u_fr u_to u_so u_wo u_fa u_bd u_nc b_nl u_co b_op b_ar u_le b_pi b_pa u_pd u_od b_ws b_hw z10 b_se b_re z11 z12 z13 z14 z15 z16 z17 z18 b_pt z19 z20 b_ip 0 b_ah b_be b_me z21 b_tr b_ld u_st b_wn u_id)), (b_ro, (arI G 5740 v_ro)), (b_se, (arJ G 13 z22)), (b_re, (arJ G 400 z23)), (b_pt, (arI G 200 z24)), (b_me, (arI G 1536 z25))] hP hD (fun hP hD => ?_)
                refine lv_iinc (v := (k113_6 + 1)) (lv' := [(6, .int (k113_6 + 1)), (5, .int k49_5), (0, .ref b_o), (1, .int p_1), (2, .int p_2), (3, .int p_3), (4, .int p_4)]) hx hb dX12_countFor_151 hl (k := 0) rfl rfl (by decide) rfl (fun ls hl => ?_)
                have t_105 : (k113_6 + 1).toInt = k113_6.toInt + 1 := g5_iadd (a := k113_6.toInt) (b := 1) rfl (by decide) (by omega) (by omega)
                refine lv_goto (tgt := 113) hx hb dX12_countFor_154 (by decide) ?_
                exact ih_113_98 ((k113_6 + 1), (vp_updL k113_be ((32 * (1472 + k49_5)) + k113_6).toNatClampNeg 0)) ls H locs (show Int.toNat (32 - (k113_6 + 1).toInt) < Int.toNat (32 - k113_6.toInt) from g_up (show k113_6.toInt < (k113_6 + 1).toInt by omega) (show k113_6.toInt < 32 by omega)) ⟨lv_sub hl [0, 1, 2, 3, 4, 5, 6] rfl, hP, hD, hS, ⟨by omega, by omega⟩⟩
              ·
                have i_104 : k113_6.toInt = z21.toInt := by have z := g5_neN (a := k113_6.toInt) (b := z21.toInt) (by rfl) (by rfl) c_104; omega
                refine lv_lconst (v := 1) hx hb dX12_countFor_145 (by decide) ?_
                refine lv_goto (tgt := 150) hx hb dX12_countFor_146 (by decide) ?_
                refine va_last hx hb hK hP hD hS 1 1 rfl rfl (i := ((32 * (1472 + k49_5)) + k113_6)) (x := 1) (vp_in_iff.mpr ⟨by omega, by omega⟩) dX12_countFor_150 (fun H locs hP hD hS => ?_)
                refine g5_rs [(b_ah, (arJ G 49152 (vp_updL k49_ah ((32 * k49_5) + (z25 k49_5.toNatClampNeg)).toNatClampNeg 1))), (b_be, (arJ G 49152 (vp_updL k113_be ((32 * (1472 + k49_5)) + k113_6).toNatClampNeg 1))), (b_o, (oc12 u_th u_sa b_rf b_ro b_im b_ke u_fd b_tp u_td u_fr u_to u_so u_wo u_fa u_bd u_nc b_nl u_co b_op b_ar u_le b_pi b_pa u_pd u_od b_ws b_hw z10 b_se b_re z11 z12 z13 z14 z15 z16 z17 z18 b_pt z19 z20 b_ip 0 b_ah b_be b_me z21 b_tr b_ld u_st b_wn u_id)), (b_ro, (arI G 5740 v_ro)), (b_se, (arJ G 13 z22)), (b_re, (arJ G 400 z23)), (b_pt, (arI G 200 z24)), (b_me, (arI G 1536 z25))] hP hD (fun hP hD => ?_)
                refine lv_iinc (v := (k113_6 + 1)) (lv' := [(6, .int (k113_6 + 1)), (5, .int k49_5), (0, .ref b_o), (1, .int p_1), (2, .int p_2), (3, .int p_3), (4, .int p_4)]) hx hb dX12_countFor_151 hl (k := 0) rfl rfl (by decide) rfl (fun ls hl => ?_)
                have t_106 : (k113_6 + 1).toInt = k113_6.toInt + 1 := g5_iadd (a := k113_6.toInt) (b := 1) rfl (by decide) (by omega) (by omega)
                refine lv_goto (tgt := 113) hx hb dX12_countFor_154 (by decide) ?_
                exact ih_113_98 ((k113_6 + 1), (vp_updL k113_be ((32 * (1472 + k49_5)) + k113_6).toNatClampNeg 1)) ls H locs (show Int.toNat (32 - (k113_6 + 1).toInt) < Int.toNat (32 - k113_6.toInt) from g_up (show k113_6.toInt < (k113_6 + 1).toInt by omega) (show k113_6.toInt < 32 by omega)) ⟨lv_sub hl [0, 1, 2, 3, 4, 5, 6] rfl, hP, hD, hS, ⟨by omega, by omega⟩⟩
  ·
    have i_29 : k17_5.toInt < 49152 := by have z := g5_geN (a := k17_5.toInt) (b := 49152) (by rfl) (by decide) c_29; omega
    refine lv_aload_n hx hb dX12_countFor_24 rfl (lv_at hl 1 rfl) ?_
    refine va_get (D := G.1) (ci := 12) (v := .ref b_ah) (C := RX12) (T := TX12) (N := 52) hx hb hts inG_X12 hown hK hP 2 rfl rfl 43 (by decide) (hts _ fl_X12_89) (fun _ h9 => h9) rfl dX12_countFor_25 ?_
    refine lv_iload hx hb dX12_countFor_28 (lv_at hl 0 rfl) ?_
    refine lv_lconst (v := 0) hx hb dX12_countFor_30 (by decide) ?_
    refine va_last hx hb hK hP hD hS 0 1 rfl rfl (i := k17_5) (x := 0) (vp_in_iff.mpr ⟨by omega, by omega⟩) dX12_countFor_31 (fun H locs hP hD hS => ?_)
    refine g5_rs [(b_ah, (arJ G 49152 (vp_updL k17_ah k17_5.toNatClampNeg 0))), (b_be, (arJ G 49152 k17_be)), (b_o, (oc12 u_th u_sa b_rf b_ro b_im b_ke u_fd b_tp u_td u_fr u_to u_so u_wo u_fa u_bd u_nc b_nl u_co b_op b_ar u_le b_pi b_pa u_pd u_od b_ws b_hw z10 b_se b_re z11 z12 z13 z14 z15 z16 z17 z18 b_pt z19 z20 b_ip 0 b_ah b_be b_me z21 b_tr b_ld u_st b_wn u_id)), (b_ro, (arI G 5740 v_ro)), (b_se, (arJ G 13 z22)), (b_re, (arJ G 400 z23)), (b_pt, (arI G 200 z24)), (b_me, (arI G 1536 z25))] hP hD (fun hP hD => ?_)
    refine lv_aload_n hx hb dX12_countFor_32 rfl (lv_at hl 1 rfl) ?_
    refine va_get (D := G.1) (ci := 12) (v := .ref b_be) (C := RX12) (T := TX12) (N := 52) hx hb hts inG_X12 hown hK hP 2 rfl rfl 44 (by decide) (hts _ fl_X12_92) (fun _ h9 => h9) rfl dX12_countFor_33 ?_
    refine lv_iload hx hb dX12_countFor_36 (lv_at hl 0 rfl) ?_
    refine lv_lconst (v := 0) hx hb dX12_countFor_38 (by decide) ?_
    refine va_last hx hb hK hP hD hS 1 1 rfl rfl (i := k17_5) (x := 0) (vp_in_iff.mpr ⟨by omega, by omega⟩) dX12_countFor_39 (fun H locs hP hD hS => ?_)
    refine g5_rs [(b_ah, (arJ G 49152 (vp_updL k17_ah k17_5.toNatClampNeg 0))), (b_be, (arJ G 49152 (vp_updL k17_be k17_5.toNatClampNeg 0))), (b_o, (oc12 u_th u_sa b_rf b_ro b_im b_ke u_fd b_tp u_td u_fr u_to u_so u_wo u_fa u_bd u_nc b_nl u_co b_op b_ar u_le b_pi b_pa u_pd u_od b_ws b_hw z10 b_se b_re z11 z12 z13 z14 z15 z16 z17 z18 b_pt z19 z20 b_ip 0 b_ah b_be b_me z21 b_tr b_ld u_st b_wn u_id)), (b_ro, (arI G 5740 v_ro)), (b_se, (arJ G 13 z22)), (b_re, (arJ G 400 z23)), (b_pt, (arI G 200 z24)), (b_me, (arI G 1536 z25))] hP hD (fun hP hD => ?_)
    refine lv_iinc (v := (k17_5 + 1)) (lv' := [(5, .int (k17_5 + 1)), (0, .ref b_o), (1, .int p_1), (2, .int p_2), (3, .int p_3), (4, .int p_4)]) hx hb dX12_countFor_40 hl (k := 0) rfl rfl (by decide) rfl (fun ls hl => ?_)
    have t_107 : (k17_5 + 1).toInt = k17_5.toInt + 1 := g5_iadd (a := k17_5.toInt) (b := 1) rfl (by decide) (by omega) (by omega)
    refine lv_goto (tgt := 17) hx hb dX12_countFor_43 (by decide) ?_
    exact ih_17_28 ((k17_5 + 1), (vp_updL k17_ah k17_5.toNatClampNeg 0), (vp_updL k17_be k17_5.toNatClampNeg 0)) ls H locs (show Int.toNat (49152 - (k17_5 + 1).toInt) < Int.toNat (49152 - k17_5.toInt) from g_up (show k17_5.toInt < (k17_5 + 1).toInt by omega) (show k17_5.toInt < 49152 by omega)) ⟨lv_sub hl [0, 1, 2, 3, 4, 5] rfl, hP, hD, hS, ⟨by omega, by omega⟩, az_step i_27 (by omega) (by omega)⟩
set_option maxHeartbeats 4000000 in
set_option maxRecDepth 100000 in
theorem n_countRowsP (l : Launch) (G : g5_G) (b_o b_ro b_se b_re b_pt b_ah b_be b_me b_rf b_im b_ke b_tp b_nl b_op b_ar b_pi b_pa b_ws b_hw b_ip b_tr b_ld b_wn : Nat) (sz : Nat) (u_th : Int32) (u_sa : Int32) (u_fd : Int32) (u_td : Int32) (u_fr : Int32) (u_to : Int32) (u_so : Int32) (u_fa : Int32) (u_bd : Int32) (u_nc : Int32) (u_co : Int32) (u_le : Int32) (u_pd : Int32) (u_od : Int32) (u_la : Int32) (u_bk : Int32) (u_ce : Int32) (u_ho : Int32) (u_wy : Int32) (u_bt : Int32) (u_ps : Int32) (u_tg : Int32) (u_sn : Int32) (u_ic : Int32) (u_wd : Int32) (u_id : Int32) (u_wo : Int64) (u_va : Int64) (u_su : Int64) (u_st : Int64) (v_ro : Nat → Int32) (v_se : Nat → Int64) (v_re : Nat → Int64) (v_pt : Nat → Int32) (v_ah : Nat → Int64) (v_be : Nat → Int64) (v_me : Nat → Int32) (h_u_td : 0 ≤ u_td.toInt ∧ u_td.toInt ≤ 400) (h_u_fr : 0 ≤ u_fr.toInt ∧ u_fr.toInt ≤ 400) (h_u_to : 0 ≤ u_to.toInt ∧ u_to.toInt ≤ 400) (h_u_bd : 0 ≤ u_bd.toInt ∧ u_bd.toInt ≤ 1) (h_u_nc : 0 ≤ u_nc.toInt ∧ u_nc.toInt ≤ 12) (h_u_co : 0 ≤ u_co.toInt ∧ u_co.toInt ≤ 400) (h_u_pd : 0 ≤ u_pd.toInt ∧ u_pd.toInt ≤ 400) (h_u_la : 0 ≤ u_la.toInt ∧ u_la.toInt ≤ 4840) (h_u_bk : 0 ≤ u_bk.toInt ∧ u_bk.toInt ≤ 1) (h_u_ce : 0 ≤ u_ce.toInt ∧ u_ce.toInt ≤ 63) (h_u_ho : 0 ≤ u_ho.toInt ∧ u_ho.toInt ≤ 23) (h_u_wy : 0 ≤ u_wy.toInt ∧ u_wy.toInt ≤ 3) (h_u_bt : 0 ≤ u_bt.toInt ∧ u_bt.toInt ≤ 1000000) (h_u_ps : 0 ≤ u_ps.toInt ∧ u_ps.toInt ≤ 200) (h_u_ic : 0 ≤ u_ic.toInt ∧ u_ic.toInt ≤ 1) (h_u_id : 0 ≤ u_id.toInt ∧ u_id.toInt ≤ 1) (r_ro : MI v_ro) (r_pt : PTI v_pt) (r_me : MEI v_me) (e_ah : AH0 v_ah v_me) : Met l yX12_countRows (wsG yX12_countRows cX12_countRows 1 none) ({ frames := 9, cells := 0, slots := 0, locals := 231 }) (va_Pc [.ref b_o] (g5_P G [(b_o, (oc12 u_th u_sa b_rf b_ro b_im b_ke u_fd b_tp u_td u_fr u_to u_so u_wo u_fa u_bd u_nc b_nl u_co b_op b_ar u_le b_pi b_pa u_pd u_od b_ws b_hw u_la b_se b_re u_bk u_va u_su u_ce u_ho u_wy u_bt u_ps b_pt u_tg u_sn b_ip u_ic b_ah b_be b_me u_wd b_tr b_ld u_st b_wn u_id)), (b_ro, (arI G 5740 v_ro)), (b_se, (arJ G 13 v_se)), (b_re, (arJ G 400 v_re)), (b_pt, (arI G 200 v_pt)), (b_ah, (arJ G 49152 v_ah)), (b_be, (arJ G 49152 v_be)), (b_me, (arI G 1536 v_me))] sz)) (va_Qv (fun (u : va_W) => (∃ (o_la : Int32) (o_bk : Int32) (o_va : Int64) (o_su : Int64) (o_ce : Int32) (o_ho : Int32) (o_wy : Int32) (o_bt : Int32) (o_ps : Int32) (o_tg : Int32) (o_sn : Int32) (o_ic : Int32) (o_wd : Int32) (o_se : Nat → Int64) (o_re : Nat → Int64) (o_pt : Nat → Int32) (o_ah : Nat → Int64) (o_be : Nat → Int64) (o_me : Nat → Int32), (0 ≤ o_la.toInt ∧ o_la.toInt ≤ 4840) ∧ (0 ≤ o_bk.toInt ∧ o_bk.toInt ≤ 1) ∧ (0 ≤ o_ce.toInt ∧ o_ce.toInt ≤ 63) ∧ (0 ≤ o_ho.toInt ∧ o_ho.toInt ≤ 23) ∧ (0 ≤ o_wy.toInt ∧ o_wy.toInt ≤ 3) ∧ (0 ≤ o_bt.toInt ∧ o_bt.toInt ≤ 1000000) ∧ (0 ≤ o_ps.toInt ∧ o_ps.toInt ≤ 200) ∧ (PTI o_pt) ∧ (0 ≤ o_ic.toInt ∧ o_ic.toInt ≤ 1) ∧ (MEI o_me) ∧ (AH0 o_ah o_me) ∧ (u = [(b_o, (oc12 u_th u_sa b_rf b_ro b_im b_ke u_fd b_tp u_td u_fr u_to u_so u_wo u_fa u_bd u_nc b_nl u_co b_op b_ar u_le b_pi b_pa u_pd u_od b_ws b_hw o_la b_se b_re o_bk o_va o_su o_ce o_ho o_wy o_bt o_ps b_pt o_tg o_sn b_ip o_ic b_ah b_be b_me o_wd b_tr b_ld u_st b_wn u_id)), (b_ro, (arI G 5740 v_ro)), (b_se, (arJ G 13 o_se)), (b_re, (arJ G 400 o_re)), (b_pt, (arI G 200 o_pt)), (b_ah, (arJ G 49152 o_ah)), (b_be, (arJ G 49152 o_be)), (b_me, (arI G 1536 o_me))]))) (g5_B G (va_A [(b_o, (oc12 u_th u_sa b_rf b_ro b_im b_ke u_fd b_tp u_td u_fr u_to u_so u_wo u_fa u_bd u_nc b_nl u_co b_op b_ar u_le b_pi b_pa u_pd u_od b_ws b_hw u_la b_se b_re u_bk u_va u_su u_ce u_ho u_wy u_bt u_ps b_pt u_tg u_sn b_ip u_ic b_ah b_be b_me u_wd b_tr b_ld u_st b_wn u_id)), (b_ro, (arI G 5740 v_ro)), (b_se, (arJ G 13 v_se)), (b_re, (arJ G 400 v_re)), (b_pt, (arI G 200 v_pt)), (b_ah, (arJ G 49152 v_ah)), (b_be, (arJ G 49152 v_be)), (b_me, (arI G 1536 v_me))] sz)) (va_A [(b_o, (oc12 u_th u_sa b_rf b_ro b_im b_ke u_fd b_tp u_td u_fr u_to u_so u_wo u_fa u_bd u_nc b_nl u_co b_op b_ar u_le b_pi b_pa u_pd u_od b_ws b_hw u_la b_se b_re u_bk u_va u_su u_ce u_ho u_wy u_bt u_ps b_pt u_tg u_sn b_ip u_ic b_ah b_be b_me u_wd b_tr b_ld u_st b_wn u_id)), (b_ro, (arI G 5740 v_ro)), (b_se, (arJ G 13 v_se)), (b_re, (arJ G 400 v_re)), (b_pt, (arI G 200 v_pt)), (b_ah, (arJ G 49152 v_ah)), (b_be, (arJ G 49152 v_be)), (b_me, (arI G 1536 v_me))] sz)) 0 0 (va_A [(b_o, (oc12 u_th u_sa b_rf b_ro b_im b_ke u_fd b_tp u_td u_fr u_to u_so u_wo u_fa u_bd u_nc b_nl u_co b_op b_ar u_le b_pi b_pa u_pd u_od b_ws b_hw u_la b_se b_re u_bk u_va u_su u_ce u_ho u_wy u_bt u_ps b_pt u_tg u_sn b_ip u_ic b_ah b_be b_me u_wd b_tr b_ld u_st b_wn u_id)), (b_ro, (arI G 5740 v_ro)), (b_se, (arJ G 13 v_se)), (b_re, (arJ G 400 v_re)), (b_pt, (arI G 200 v_pt)), (b_ah, (arJ G 49152 v_ah)), (b_be, (arJ G 49152 v_be)), (b_me, (arI G 1536 v_me))] sz) := by
  refine Met.ofW (cc := cX12_countRows) (maxL := 1) (ret := none) (by decide) rfl ?_
  intro p e s m args below meth c s₁ B hml hv
  obtain ⟨rfl, hsz, hP, hK, hD0, hN, hT⟩ := hv
  have hx := B.exec
  have hb := B.bytes
  have hr := B.returns
  have hts : ∀ w ∈ tblG, w.before _ s = true := fun w h => atoms_spec (ws := (wsG yX12_countRows cX12_countRows 1 none)) B.pre w (List.mem_cons_of_mem _ h)
  have hown : s.vm.findClass RX12 = some m.cls := findClass_of_methodNamed B.named
  have hlocks := B.notSynchronized
  subst hsz
  have hD := hD0.self (sz := s.heap.size)
  generalize hAe : va_A [(b_o, (oc12 u_th u_sa b_rf b_ro b_im b_ke u_fd b_tp u_td u_fr u_to u_so u_wo u_fa u_bd u_nc b_nl u_co b_op b_ar u_le b_pi b_pa u_pd u_od b_ws b_hw u_la b_se b_re u_bk u_va u_su u_ce u_ho u_wy u_bt u_ps b_pt u_tg u_sn b_ip u_ic b_ah b_be b_me u_wd b_tr b_ld u_st b_wn u_id)), (b_ro, (arI G 5740 v_ro)), (b_se, (arJ G 13 v_se)), (b_re, (arJ G 400 v_re)), (b_pt, (arI G 200 v_pt)), (b_ah, (arJ G 49152 v_ah)), (b_be, (arJ G 49152 v_be)), (b_me, (arI G 1536 v_me))] s.heap.size = A at hD hT ⊢
  have hA : ∀ q : Nat, s.heap.size ≤ q → A q := fun q h => by rw [← hAe]; exact Or.inr h
  have hS : va_S A s.heap s.heap [] := va_S.rf
  have hP : va_P G.1 vwCl [(b_o, (oc12 u_th u_sa b_rf b_ro b_im b_ke u_fd b_tp u_td u_fr u_to u_so u_wo u_fa u_bd u_nc b_nl u_co b_op b_ar u_le b_pi b_pa u_pd u_od b_ws b_hw u_la b_se b_re u_bk u_va u_su u_ce u_ho u_wy u_bt u_ps b_pt u_tg u_sn b_ip u_ic b_ah b_be b_me u_wd b_tr b_ld u_st b_wn u_id)), (b_ro, (arI G 5740 v_ro)), (b_se, (arJ G 13 v_se)), (b_re, (arJ G 400 v_re)), (b_pt, (arI G 200 v_pt)), (b_ah, (arJ G 49152 v_ah)), (b_be, (arJ G 49152 v_be)), (b_me, (arI G 1536 v_me))] s.heap := hP
  have hl := lv_entry ([.ref b_o]) (n := 1) (Nat.le_of_ble_eq_true rfl)
  rw [lg_entry_eq]
  generalize (lg_sl ([.ref b_o]) ++ List.replicate (1 - (lg_sl ([.ref b_o])).length) Slot.unset).toArray = ls at hl ⊢
  have hl : lv_has ls 1 [(0, .ref b_o)] := hl
  refine lv_aload_n hx hb dX12_countRows_0 rfl (lv_at hl 0 rfl) ?_
  refine va_get (D := G.1) (ci := 12) (v := .int u_ic) (C := RX12) (T := TX12) (N := 52) hx hb hts inG_X12 hown hK hP 0 rfl rfl 42 (by decide) (hts _ fl_X12_113) (fun _ h9 => h9) rfl dX12_countRows_1 ?_
  refine lv_if_eq (tgt := 8) hx hb dX12_countRows_4 (by decide) (fun c_1 => ?_) (fun c_1 => ?_)
  ·
    have i_1 : u_ic.toInt = 0 := by have z := g5_eq (a := u_ic.toInt) (b := 0) (by rfl) (by decide) c_1; omega
    refine lv_aload_n hx hb dX12_countRows_8 rfl (lv_at hl 0 rfl) ?_
    refine lv_sipush (v := 1023) hx hb dX12_countRows_9 (by decide) ?_
    refine lv_iconst (v := 0) hx hb dX12_countRows_12 (by decide) ?_
    refine lv_iconst (v := (-1)) hx hb dX12_countRows_13 (by decide) ?_
    refine lv_iconst (v := 0) hx hb dX12_countRows_14 (by decide) ?_
    obtain ⟨hPc, hDc, hFc⟩ := g5_sub3 (wc := [(b_o, (oc12 u_th u_sa b_rf b_ro b_im b_ke u_fd b_tp u_td u_fr u_to u_so u_wo u_fa u_bd u_nc b_nl u_co b_op b_ar u_le b_pi b_pa u_pd u_od b_ws b_hw u_la b_se b_re u_bk u_va u_su u_ce u_ho u_wy u_bt u_ps b_pt u_tg u_sn b_ip u_ic b_ah b_be b_me u_wd b_tr b_ld u_st b_wn u_id)), (b_ro, (arI G 5740 v_ro)), (b_se, (arJ G 13 v_se)), (b_re, (arJ G 400 v_re)), (b_pt, (arI G 200 v_pt)), (b_ah, (arJ G 49152 v_ah)), (b_be, (arJ G 49152 v_be)), (b_me, (arI G 1536 v_me))]) hP hD hS hA [0, 1, 2, 3, 4, 5, 6, 7] (by decide) rfl
    refine va_callv (va_runV (As := [.int 1023, .int 0, .int (-1), .int 0]) (rest := []) ⟨hx, hb, hml, hown, hts⟩ (n_countForP l G b_o b_ro b_se b_re b_pt b_ah b_be b_me b_rf b_im b_ke b_tp b_nl b_op b_ar b_pi b_pa b_ws b_hw b_ip b_tr b_ld b_wn s.heap.size u_th u_sa u_fd u_td u_fr u_to u_so u_fa u_bd u_nc u_co u_le u_pd u_od u_la u_bk u_ce u_ho u_wy u_bt u_ps u_tg u_sn u_ic u_wd u_id 1023 0 (-1) 0 u_wo u_va u_su u_st v_ro v_se v_re v_pt v_ah v_be v_me h_u_td h_u_fr h_u_to h_u_bd h_u_nc h_u_co h_u_pd h_u_la h_u_bk h_u_ce h_u_ho h_u_wy h_u_bt h_u_ps h_u_ic h_u_id ⟨by decide, by decide⟩ ⟨by decide, by decide⟩ ⟨by decide, by decide⟩ (r_ro) (r_pt) (r_me)) (cwV 4 hts gV_X12_425 rfl rfl rfl hv_X12_countFor ⟨Nat.le_of_ble_eq_true rfl, Nat.le_of_ble_eq_true rfl⟩) (g5_preV hPc hK hDc hN hT hS hFc (ci := 12) (q0 := 0) rfl rfl) rfl rfl hl.1 rfl (lv_room (Nat.le_of_ble_eq_true rfl)) dX12_countRows_15 ⟨Nat.le_of_ble_eq_true rfl, Nat.le_of_ble_eq_true rfl⟩) hS (fun q _ h => hFc q h) hFc (fun u t H1 locs ht hvm hw hB hz1 hk1 hS => ?_)
    obtain ⟨hP1, hD1⟩ := hB
    rw [ht] at hP1
    obtain ⟨z13, z14, z15, z16, z17, z18, z19, z20, z21, z22, z23, z24, z25, z26, z27, z28, z29, z30, z31, i_2, i_3, i_4, i_5, i_6, i_7, i_8, i_9, i_10, i_11, i_12, rfl⟩ := hw
    have i_2 : 0 ≤ z13.toInt ∧ z13.toInt ≤ 4840 := i_2
    have i_3 : 0 ≤ z14.toInt ∧ z14.toInt ≤ 1 := i_3
    have i_4 : 0 ≤ z17.toInt ∧ z17.toInt ≤ 63 := i_4
    have i_5 : 0 ≤ z18.toInt ∧ z18.toInt ≤ 23 := i_5
    have i_6 : 0 ≤ z19.toInt ∧ z19.toInt ≤ 3 := i_6
    have i_7 : 0 ≤ z20.toInt ∧ z20.toInt ≤ 1000000 := i_7
    have i_8 : 0 ≤ z21.toInt ∧ z21.toInt ≤ 200 := i_8
    have i_9 : PTI z28 := i_9
    have i_10 : 0 ≤ z24.toInt ∧ z24.toInt ≤ 1 := i_10
    have i_11 : MEI z31 := i_11
    have i_12 : AH0 z29 z31 := i_12
    obtain ⟨hP, hD⟩ := va_join (wr := []) hP hD [0, 1, 2, 3, 4, 5, 6, 7] [] rfl rfl (by decide) (by decide) hk1 hFc hP1 hD1
    generalize H1 = H at hP hS ⊢
    refine g5_rs [(b_o, (oc12 u_th u_sa b_rf b_ro b_im b_ke u_fd b_tp u_td u_fr u_to u_so u_wo u_fa u_bd u_nc b_nl u_co b_op b_ar u_le b_pi b_pa u_pd u_od b_ws b_hw z13 b_se b_re z14 z15 z16 z17 z18 z19 z20 z21 b_pt z22 z23 b_ip z24 b_ah b_be b_me z25 b_tr b_ld u_st b_wn u_id)), (b_ro, (arI G 5740 v_ro)), (b_se, (arJ G 13 z26)), (b_re, (arJ G 400 z27)), (b_pt, (arI G 200 z28)), (b_ah, (arJ G 49152 z29)), (b_be, (arJ G 49152 z30)), (b_me, (arI G 1536 z31))] hP hD (fun hP hD => ?_)
    refine lv_aload_n hx hb dX12_countRows_18 rfl (lv_at hl 0 rfl) ?_
    refine lv_iconst (v := 1) hx hb dX12_countRows_19 (by decide) ?_
    refine va_put (D := G.1) (ci := 12) (v := .int 1) (ty := .boolean) (C := RX12) (T := TX12) (N := 52) hx hb hts inG_X12 tyX12 tyX12_ok nmX12 hown hK hP hD hS 0 rfl rfl 42 (by decide) (hts _ fl_X12_113) (fun _ h9 => h9) rfl (by decide +kernel) rfl rfl (Nat.le_of_ble_eq_true rfl) dX12_countRows_20 (fun H locs hP hD hS => ?_)
    refine g5_rs [(b_o, (oc12 u_th u_sa b_rf b_ro b_im b_ke u_fd b_tp u_td u_fr u_to u_so u_wo u_fa u_bd u_nc b_nl u_co b_op b_ar u_le b_pi b_pa u_pd u_od b_ws b_hw z13 b_se b_re z14 z15 z16 z17 z18 z19 z20 z21 b_pt z22 z23 b_ip 1 b_ah b_be b_me z25 b_tr b_ld u_st b_wn u_id)), (b_ro, (arI G 5740 v_ro)), (b_se, (arJ G 13 z26)), (b_re, (arJ G 400 z27)), (b_pt, (arI G 200 z28)), (b_ah, (arJ G 49152 z29)), (b_be, (arJ G 49152 z30)), (b_me, (arI G 1536 z31))] hP hD (fun hP hD => ?_)
    exact W.vret hx hb hr (fun t ht hW => ⟨⟨[(b_o, (oc12 u_th u_sa b_rf b_ro b_im b_ke u_fd b_tp u_td u_fr u_to u_so u_wo u_fa u_bd u_nc b_nl u_co b_op b_ar u_le b_pi b_pa u_pd u_od b_ws b_hw z13 b_se b_re z14 z15 z16 z17 z18 z19 z20 z21 b_pt z22 z23 b_ip 1 b_ah b_be b_me z25 b_tr b_ld u_st b_wn u_id)), (b_ro, (arI G 5740 v_ro)), (b_se, (arJ G 13 z26)), (b_re, (arJ G 400 z27)), (b_pt, (arI G 200 z28)), (b_ah, (arJ G 49152 z29)), (b_be, (arJ G 49152 z30)), (b_me, (arI G 1536 z31))], rfl, ⟨z13, z14, z15, z16, z17, z18, z19, z20, z21, z22, z23, 1, z25, z26, z27, z28, z29, z30, z31, i_2, i_3, i_4, i_5, i_6, i_7, i_8, i_9, ⟨by have zc_o_ic : (1 : Int32).toInt = 1 := (by decide); omega, by have zc_o_ic : (1 : Int32).toInt = 1 := (by decide); omega⟩, i_11, i_12, rfl⟩, by rw [ht]; exact hP.sub [0, 1, 2, 3, 4, 5, 6, 7] rfl, hD.sub [0, 1, 2, 3, 4, 5, 6, 7] (by decide) rfl⟩, hS.F ht⟩) hS.2.2 dX12_countRows_23
  ·
    have n_1 : gNe (u_ic.toInt) (0) := by have z := g5_eqN (a := u_ic.toInt) (b := 0) (by rfl) (by decide) c_1; unfold gNe; omega
    have i_1 : u_ic.toInt ≥ 1 := by have z := g5_eqN (a := u_ic.toInt) (b := 0) (by rfl) (by decide) c_1; omega
    exact W.vret hx hb hr (fun t ht hW => ⟨⟨[(b_o, (oc12 u_th u_sa b_rf b_ro b_im b_ke u_fd b_tp u_td u_fr u_to u_so u_wo u_fa u_bd u_nc b_nl u_co b_op b_ar u_le b_pi b_pa u_pd u_od b_ws b_hw u_la b_se b_re u_bk u_va u_su u_ce u_ho u_wy u_bt u_ps b_pt u_tg u_sn b_ip u_ic b_ah b_be b_me u_wd b_tr b_ld u_st b_wn u_id)), (b_ro, (arI G 5740 v_ro)), (b_se, (arJ G 13 v_se)), (b_re, (arJ G 400 v_re)), (b_pt, (arI G 200 v_pt)), (b_ah, (arJ G 49152 v_ah)), (b_be, (arJ G 49152 v_be)), (b_me, (arI G 1536 v_me))], rfl, ⟨u_la, u_bk, u_va, u_su, u_ce, u_ho, u_wy, u_bt, u_ps, u_tg, u_sn, u_ic, u_wd, v_se, v_re, v_pt, v_ah, v_be, v_me, h_u_la, h_u_bk, h_u_ce, h_u_ho, h_u_wy, h_u_bt, h_u_ps, r_pt, h_u_ic, r_me, e_ah, rfl⟩, by rw [ht]; exact hP.sub [0, 1, 2, 3, 4, 5, 6, 7] rfl, hD.sub [0, 1, 2, 3, 4, 5, 6, 7] (by decide) rfl⟩, hS.F ht⟩) hS.2.2 dX12_countRows_7
