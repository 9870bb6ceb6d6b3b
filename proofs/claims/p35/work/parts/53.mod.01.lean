set_option maxHeartbeats 4000000 in
set_option maxRecDepth 100000 in
theorem n_countForP (l : Launch) (G : g5_G) (b_o b_ro b_se b_re b_pt b_ah b_be b_me b_rf b_im b_ke b_tp b_nl b_op b_ar b_pi b_pa b_ws b_hw b_ip b_tr b_ld b_wn : Nat) (sz : Nat) (u_th : Int32) (u_sa : Int32) (u_fd : Int32) (u_td : Int32) (u_fr : Int32) (u_to : Int32) (u_so : Int32) (u_fa : Int32) (u_bd : Int32) (u_nc : Int32) (u_co : Int32) (u_le : Int32) (u_pd : Int32) (u_od : Int32) (u_la : Int32) (u_bk : Int32) (u_ce : Int32) (u_ho : Int32) (u_wy : Int32) (u_bt : Int32) (u_ps : Int32) (u_tg : Int32) (u_sn : Int32) (u_ic : Int32) (u_wd : Int32) (u_id : Int32) (p_1 : Int32) (p_2 : Int32) (p_3 : Int32) (p_4 : Int32) (u_wo : Int64) (u_va : Int64) (u_su : Int64) (u_st : Int64) (v_ro : Nat → Int32) (v_se : Nat → Int64) (v_re : Nat → Int64) (v_pt : Nat → Int32) (v_ah : Nat → Int64) (v_be : Nat → Int64) (v_me : Nat → Int32) (h_u_td : 0 ≤ u_td.toInt ∧ u_td.toInt ≤ 400) (h_u_fr : 0 ≤ u_fr.toInt ∧ u_fr.toInt ≤ 400) (h_u_to : 0 ≤ u_to.toInt ∧ u_to.toInt ≤ 400) (h_u_bd : 0 ≤ u_bd.toInt ∧ u_bd.toInt ≤ 1) (h_u_nc : 0 ≤ u_nc.toInt ∧ u_nc.toInt ≤ 12) (h_u_co : 0 ≤ u_co.toInt ∧ u_co.toInt ≤ 400) (h_u_pd : 0 ≤ u_pd.toInt ∧ u_pd.toInt ≤ 400) (h_u_la : 0 ≤ u_la.toInt ∧ u_la.toInt ≤ 4840) (h_u_bk : 0 ≤ u_bk.toInt ∧ u_bk.toInt ≤ 1) (h_u_ce : 0 ≤ u_ce.toInt ∧ u_ce.toInt ≤ 63) (h_u_ho : 0 ≤ u_ho.toInt ∧ u_ho.toInt ≤ 23) (h_u_wy : 0 ≤ u_wy.toInt ∧ u_wy.toInt ≤ 3) (h_u_bt : 0 ≤ u_bt.toInt ∧ u_bt.toInt ≤ 1000000) (h_u_ps : 0 ≤ u_ps.toInt ∧ u_ps.toInt ≤ 200) (h_u_ic : 0 ≤ u_ic.toInt ∧ u_ic.toInt ≤ 1) (h_u_id : 0 ≤ u_id.toInt ∧ u_id.toInt ≤ 1) (h_p_2 : 0 ≤ p_2.toInt ∧ p_2.toInt ≤ 63) (h_p_3 : (-1) ≤ p_3.toInt ∧ p_3.toInt ≤ 3) (h_p_4 : 0 ≤ p_4.toInt ∧ p_4.toInt ≤ 23) (r_ro : MI v_ro) (r_pt : PTI v_pt) (r_me : MEI v_me) : Met l yX12_countFor (wsG yX12_countFor cX12_countFor 7 none) ({ frames := 8, cells := 0, slots := 0, locals := 205 }) (va_Pc [.ref b_o, .int p_1, .int p_2, .int p_3, .int p_4] (g5_P G [(b_o, (oc12 u_th u_sa b_rf b_ro b_im b_ke u_fd b_tp u_td u_fr u_to u_so u_wo u_fa u_bd u_nc b_nl u_co b_op b_ar u_le b_pi b_pa u_pd u_od b_ws b_hw u_la b_se b_re u_bk u_va u_su u_ce u_ho u_wy u_bt u_ps b_pt u_tg u_sn b_ip u_ic b_ah b_be b_me u_wd b_tr b_ld u_st b_wn u_id)), (b_ro, (arI G 5740 v_ro)), (b_se, (arJ G 13 v_se)), (b_re, (arJ G 400 v_re)), (b_pt, (arI G 200 v_pt)), (b_ah, (arJ G 49152 v_ah)), (b_be, (arJ G 49152 v_be)), (b_me, (arI G 1536 v_me))] sz)) (va_Qv (fun (u : va_W) => (∃ (o_la : Int32) (o_bk : Int32) (o_va : Int64) (o_su : Int64) (o_ce : Int32) (o_ho : Int32) (o_wy : Int32) (o_bt : Int32) (o_ps : Int32) (o_tg : Int32) (o_sn : Int32) (o_ic : Int32) (o_wd : Int32) (o_se : Nat → Int64) (o_re : Nat → Int64) (o_pt : Nat → Int32) (o_ah : Nat → Int64) (o_be : Nat → Int64) (o_me : Nat → Int32), (0 ≤ o_la.toInt ∧ o_la.toInt ≤ 4840) ∧ (0 ≤ o_bk.toInt ∧ o_bk.toInt ≤ 1) ∧ (0 ≤ o_ce.toInt ∧ o_ce.toInt ≤ 63) ∧ (0 ≤ o_ho.toInt ∧ o_ho.toInt ≤ 23) ∧ (0 ≤ o_wy.toInt ∧ o_wy.toInt ≤ 3) ∧ (0 ≤ o_bt.toInt ∧ o_bt.toInt ≤ 1000000) ∧ (0 ≤ o_ps.toInt ∧ o_ps.toInt ≤ 200) ∧ (PTI o_pt) ∧ (0 ≤ o_ic.toInt ∧ o_ic.toInt ≤ 1) ∧ (MEI o_me) ∧ (AH0 o_ah o_me) ∧ (u = [(b_o, (oc12 u_th u_sa b_rf b_ro b_im b_ke u_fd b_tp u_td u_fr u_to u_so u_wo u_fa u_bd u_nc b_nl u_co b_op b_ar u_le b_pi b_pa u_pd u_od b_ws b_hw o_la b_se b_re o_bk o_va o_su o_ce o_ho o_wy o_bt o_ps b_pt o_tg o_sn b_ip o_ic b_ah b_be b_me o_wd b_tr b_ld u_st b_wn u_id)), (b_ro, (arI G 5740 v_ro)), (b_se, (arJ G 13 o_se)), (b_re, (arJ G 400 o_re)), (b_pt, (arI G 200 o_pt)), (b_ah, (arJ G 49152 o_ah)), (b_be, (arJ G 49152 o_be)), (b_me, (arI G 1536 o_me))]))) (g5_B G (va_A [(b_o, (oc12 u_th u_sa b_rf b_ro b_im b_ke u_fd b_tp u_td u_fr u_to u_so u_wo u_fa u_bd u_nc b_nl u_co b_op b_ar u_le b_pi b_pa u_pd u_od b_ws b_hw u_la b_se b_re u_bk u_va u_su u_ce u_ho u_wy u_bt u_ps b_pt u_tg u_sn b_ip u_ic b_ah b_be b_me u_wd b_tr b_ld u_st b_wn u_id)), (b_ro, (arI G 5740 v_ro)), (b_se, (arJ G 13 v_se)), (b_re, (arJ G 400 v_re)), (b_pt, (arI G 200 v_pt)), (b_ah, (arJ G 49152 v_ah)), (b_be, (arJ G 49152 v_be)), (b_me, (arI G 1536 v_me))] sz)) (va_A [(b_o, (oc12 u_th u_sa b_rf b_ro b_im b_ke u_fd b_tp u_td u_fr u_to u_so u_wo u_fa u_bd u_nc b_nl u_co b_op b_ar u_le b_pi b_pa u_pd u_od b_ws b_hw u_la b_se b_re u_bk u_va u_su u_ce u_ho u_wy u_bt u_ps b_pt u_tg u_sn b_ip u_ic b_ah b_be b_me u_wd b_tr b_ld u_st b_wn u_id)), (b_ro, (arI G 5740 v_ro)), (b_se, (arJ G 13 v_se)), (b_re, (arJ G 400 v_re)), (b_pt, (arI G 200 v_pt)), (b_ah, (arJ G 49152 v_ah)), (b_be, (arJ G 49152 v_be)), (b_me, (arI G 1536 v_me))] sz)) 0 0 (va_A [(b_o, (oc12 u_th u_sa b_rf b_ro b_im b_ke u_fd b_tp u_td u_fr u_to u_so u_wo u_fa u_bd u_nc b_nl u_co b_op b_ar u_le b_pi b_pa u_pd u_od b_ws b_hw u_la b_se b_re u_bk u_va u_su u_ce u_ho u_wy u_bt u_ps b_pt u_tg u_sn b_ip u_ic b_ah b_be b_me u_wd b_tr b_ld u_st b_wn u_id)), (b_ro, (arI G 5740 v_ro)), (b_se, (arJ G 13 v_se)), (b_re, (arJ G 400 v_re)), (b_pt, (arI G 200 v_pt)), (b_ah, (arJ G 49152 v_ah)), (b_be, (arJ G 49152 v_be)), (b_me, (arI G 1536 v_me))] sz) := by
  refine Met.ofW (cc := cX12_countFor) (maxL := 7) (ret := none) (by decide +kernel) rfl ?_
  intro p e s m args below meth c s₁ B hml hv
  obtain ⟨rfl, hsz, hP, hK, hD0, hN, hT⟩ := hv
  have hx := B.exec
  have hb := B.bytes
  have hr := B.returns
  have hts : ∀ w ∈ tblG, w.before _ s = true := fun w h => atoms_spec (ws := (wsG yX12_countFor cX12_countFor 7 none)) B.pre w (List.mem_cons_of_mem _ h)
  have hown : s.vm.findClass RX12 = some m.cls := findClass_of_methodNamed B.named
  have hlocks := B.notSynchronized
  subst hsz
  have hD := hD0.self (sz := s.heap.size)
  generalize hAe : va_A [(b_o, (oc12 u_th u_sa b_rf b_ro b_im b_ke u_fd b_tp u_td u_fr u_to u_so u_wo u_fa u_bd u_nc b_nl u_co b_op b_ar u_le b_pi b_pa u_pd u_od b_ws b_hw u_la b_se b_re u_bk u_va u_su u_ce u_ho u_wy u_bt u_ps b_pt u_tg u_sn b_ip u_ic b_ah b_be b_me u_wd b_tr b_ld u_st b_wn u_id)), (b_ro, (arI G 5740 v_ro)), (b_se, (arJ G 13 v_se)), (b_re, (arJ G 400 v_re)), (b_pt, (arI G 200 v_pt)), (b_ah, (arJ G 49152 v_ah)), (b_be, (arJ G 49152 v_be)), (b_me, (arI G 1536 v_me))] s.heap.size = A at hD hT ⊢
  have hA : ∀ q : Nat, s.heap.size ≤ q → A q := fun q h => by rw [← hAe]; exact Or.inr h
  have hS : va_S A s.heap s.heap [] := va_S.rf
  replace hP : va_P G.1 vwCl [(b_o, (oc12 u_th u_sa b_rf b_ro b_im b_ke u_fd b_tp u_td u_fr u_to u_so u_wo u_fa u_bd u_nc b_nl u_co b_op b_ar u_le b_pi b_pa u_pd u_od b_ws b_hw u_la b_se b_re u_bk u_va u_su u_ce u_ho u_wy u_bt u_ps b_pt u_tg u_sn b_ip u_ic b_ah b_be b_me u_wd b_tr b_ld u_st b_wn u_id)), (b_ro, (arI G 5740 v_ro)), (b_se, (arJ G 13 v_se)), (b_re, (arJ G 400 v_re)), (b_pt, (arI G 200 v_pt)), (b_ah, (arJ G 49152 v_ah)), (b_be, (arJ G 49152 v_be)), (b_me, (arI G 1536 v_me))] s.heap := hP
  have hl := lv_entry ([.ref b_o, .int p_1, .int p_2, .int p_3, .int p_4]) (n := 7) (Nat.le_of_ble_eq_true rfl)
  rw [lg_entry_eq]
  generalize (lg_sl ([.ref b_o, .int p_1, .int p_2, .int p_3, .int p_4]) ++ List.replicate (7 - (lg_sl ([.ref b_o, .int p_1, .int p_2, .int p_3, .int p_4])).length) Slot.unset).toArray = ls at hl ⊢
  replace hl : lv_has ls 7 [(0, .ref b_o), (1, .int p_1), (2, .int p_2), (3, .int p_3), (4, .int p_4)] := hl
  refine lv_aload_n hx hb dX12_countFor_0 rfl (lv_at hl 0 rfl) ?_
  refine lv_iconst (v := 0) hx hb dX12_countFor_1 (by decide +kernel) ?_
  refine va_put (D := G.1) (ci := 12) (v := .int 0) (ty := .boolean) (C := RX12) (T := TX12) (N := 52) hx hb hts inG_X12 tyX12 tyX12_ok nmX12 hown hK hP hD hS 0 rfl rfl 42 (by decide +kernel) (hts _ fl_X12_113) (fun _ h9 => h9) rfl (by decide +kernel) rfl rfl (Nat.le_of_ble_eq_true rfl) dX12_countFor_2 ?_
  clear hP hD hS
  intro H locs hP hD hS
  refine g5_rs [(b_o, (oc12 u_th u_sa b_rf b_ro b_im b_ke u_fd b_tp u_td u_fr u_to u_so u_wo u_fa u_bd u_nc b_nl u_co b_op b_ar u_le b_pi b_pa u_pd u_od b_ws b_hw u_la b_se b_re u_bk u_va u_su u_ce u_ho u_wy u_bt u_ps b_pt u_tg u_sn b_ip 0 b_ah b_be b_me u_wd b_tr b_ld u_st b_wn u_id)), (b_ro, (arI G 5740 v_ro)), (b_se, (arJ G 13 v_se)), (b_re, (arJ G 400 v_re)), (b_pt, (arI G 200 v_pt)), (b_ah, (arJ G 49152 v_ah)), (b_be, (arJ G 49152 v_be)), (b_me, (arI G 1536 v_me))] hP hD ?_
  clear hP hD
  intro hP hD
  refine lv_aload_n hx hb dX12_countFor_5 rfl (lv_at hl 0 rfl) ?_
  refine W.eq (g2 := F0 m 6 ls [.ref b_o]) rfl ?_
  refine lv_iload_n hx hb dX12_countFor_6 rfl (lv_at hl 1 rfl) ?_
  refine lv_iload_n hx hb dX12_countFor_7 rfl (lv_at hl 2 rfl) ?_
  refine lv_iload_n hx hb dX12_countFor_8 rfl (lv_at hl 3 rfl) ?_
  refine lv_iload hx hb dX12_countFor_9 (lv_at hl 4 rfl) ?_
  obtain ⟨hPc, hDc, hFc⟩ := g5_sub3 (wc := [(b_o, (oc12 u_th u_sa b_rf b_ro b_im b_ke u_fd b_tp u_td u_fr u_to u_so u_wo u_fa u_bd u_nc b_nl u_co b_op b_ar u_le b_pi b_pa u_pd u_od b_ws b_hw u_la b_se b_re u_bk u_va u_su u_ce u_ho u_wy u_bt u_ps b_pt u_tg u_sn b_ip 0 b_ah b_be b_me u_wd b_tr b_ld u_st b_wn u_id)), (b_ro, (arI G 5740 v_ro)), (b_se, (arJ G 13 v_se)), (b_re, (arJ G 400 v_re)), (b_pt, (arI G 200 v_pt)), (b_me, (arI G 1536 v_me))]) hP hD hS hA [0, 1, 2, 3, 4, 7] (by decide +kernel) rfl
  refine va_callv (va_runV (As := [.int p_1, .int p_2, .int p_3, .int p_4]) (rest := []) ⟨hx, hb, hml, hown, hts⟩ (n_findMeets l G b_o b_ro b_se b_re b_pt b_me b_rf b_im b_ke b_tp b_nl b_op b_ar b_pi b_pa b_ws b_hw b_ip b_ah b_be b_tr b_ld b_wn H.size u_th u_sa u_fd u_td u_fr u_to u_so u_fa u_bd u_nc u_co u_le u_pd u_od u_la u_bk u_ce u_ho u_wy u_bt u_ps u_tg u_sn 0 u_wd u_id p_1 p_2 p_3 p_4 u_wo u_va u_su u_st v_ro v_se v_re v_pt v_me h_u_td h_u_fr h_u_to h_u_bd h_u_nc h_u_co h_u_pd h_u_la h_u_bk h_u_ce h_u_ho h_u_wy h_u_bt h_u_ps ⟨by decide, by decide⟩ h_u_id h_p_2 h_p_3 h_p_4 (r_ro) (r_pt) (r_me)) (cwV 4 hts gV_X12_428 rfl rfl rfl hv_X12_findMeets ⟨Nat.le_of_ble_eq_true rfl, Nat.le_of_ble_eq_true rfl⟩) (g5_preV hPc hK hDc hN hT hS hFc (ci := 12) (q0 := 0) rfl rfl) rfl rfl hl.1 rfl (lv_room (Nat.le_of_ble_eq_true rfl)) dX12_countFor_11 ⟨Nat.le_of_ble_eq_true rfl, Nat.le_of_ble_eq_true rfl⟩) hS (fun q _ h => hFc q h) hFc (fun u t H locs ht hvm hw hB hz1 hk1 hS => ?_)
  obtain ⟨hP1, hD1⟩ := hB
  have hP1 := g5_ht ht hP1
  obtain ⟨z10, z11, z12, z13, z14, z15, z16, z17, z18, z19, z20, z21, z22, z23, z24, z25, (i_1 : 0 ≤ z10.toInt ∧ z10.toInt ≤ 4840), (i_2 : 0 ≤ z11.toInt ∧ z11.toInt ≤ 1), (i_3 : 0 ≤ z14.toInt ∧ z14.toInt ≤ 63), (i_4 : 0 ≤ z15.toInt ∧ z15.toInt ≤ 23), (i_5 : 0 ≤ z16.toInt ∧ z16.toInt ≤ 3), (i_6 : 0 ≤ z17.toInt ∧ z17.toInt ≤ 1000000), (i_7 : 0 ≤ z18.toInt ∧ z18.toInt ≤ 200), (i_8 : PTI z24), (i_9 : MEI z25), rfl⟩ := hw
  have hJ9 := va_join (wr := [(b_ah, (arJ G 49152 v_ah)), (b_be, (arJ G 49152 v_be))]) hP hD [0, 1, 2, 3, 4, 7] [5, 6] rfl rfl (by decide +kernel) (by decide +kernel) hk1 hFc hP1 hD1
  clear hP hD hPc hDc hFc ht hvm hz1 hk1 hP1 hD1
  obtain ⟨hP, hD⟩ := hJ9
  refine g5_rs [(b_ah, (arJ G 49152 v_ah)), (b_be, (arJ G 49152 v_be)), (b_o, (oc12 u_th u_sa b_rf b_ro b_im b_ke u_fd b_tp u_td u_fr u_to u_so u_wo u_fa u_bd u_nc b_nl u_co b_op b_ar u_le b_pi b_pa u_pd u_od b_ws b_hw z10 b_se b_re z11 z12 z13 z14 z15 z16 z17 z18 b_pt z19 z20 b_ip 0 b_ah b_be b_me z21 b_tr b_ld u_st b_wn u_id)), (b_ro, (arI G 5740 v_ro)), (b_se, (arJ G 13 z22)), (b_re, (arJ G 400 z23)), (b_pt, (arI G 200 z24)), (b_me, (arI G 1536 z25))] hP hD ?_
  clear hP hD
  intro hP hD
  refine W.eq (g2 := F0 m 14 ls []) rfl ?_
  refine lv_iconst (v := 0) hx hb dX12_countFor_14 (by decide +kernel) ?_
  refine lv_istore (lv' := [(5, .int 0), (0, .ref b_o), (1, .int p_1), (2, .int p_2), (3, .int p_3), (4, .int p_4)]) hx hb dX12_countFor_15 hl (by decide +kernel) rfl ?_
  clear hl
  intro ls hl
  refine g5_loop (α := (Int32) × (Nat → Int64) × (Nat → Int64)) (fun (q : (Int32) × (Nat → Int64) × (Nat → Int64)) (ls : Array Slot) (H : Heap) (locs : List Loc) => match q with | (k17_5, k17_ah, k17_be) => lv_has ls 7 [(5, .int k17_5), (0, .ref b_o), (1, .int p_1), (2, .int p_2), (3, .int p_3), (4, .int p_4)] ∧ va_P G.1 vwCl [(b_ah, (arJ G 49152 k17_ah)), (b_be, (arJ G 49152 k17_be)), (b_o, (oc12 u_th u_sa b_rf b_ro b_im b_ke u_fd b_tp u_td u_fr u_to u_so u_wo u_fa u_bd u_nc b_nl u_co b_op b_ar u_le b_pi b_pa u_pd u_od b_ws b_hw z10 b_se b_re z11 z12 z13 z14 z15 z16 z17 z18 b_pt z19 z20 b_ip 0 b_ah b_be b_me z21 b_tr b_ld u_st b_wn u_id)), (b_ro, (arI G 5740 v_ro)), (b_se, (arJ G 13 z22)), (b_re, (arJ G 400 z23)), (b_pt, (arI G 200 z24)), (b_me, (arI G 1536 z25))] H ∧ va_D A [(b_ah, (arJ G 49152 k17_ah)), (b_be, (arJ G 49152 k17_be)), (b_o, (oc12 u_th u_sa b_rf b_ro b_im b_ke u_fd b_tp u_td u_fr u_to u_so u_wo u_fa u_bd u_nc b_nl u_co b_op b_ar u_le b_pi b_pa u_pd u_od b_ws b_hw z10 b_se b_re z11 z12 z13 z14 z15 z16 z17 z18 b_pt z19 z20 b_ip 0 b_ah b_be b_me z21 b_tr b_ld u_st b_wn u_id)), (b_ro, (arI G 5740 v_ro)), (b_se, (arJ G 13 z22)), (b_re, (arJ G 400 z23)), (b_pt, (arI G 200 z24)), (b_me, (arI G 1536 z25))] ∧ va_S A s.heap H locs ∧ (0 ≤ k17_5.toInt ∧ k17_5.toInt ≤ 49152) ∧ (∀ j : Nat, (j : Int) < k17_5.toInt → k17_ah j = 0)) (fun (q : (Int32) × (Nat → Int64) × (Nat → Int64)) => match q with | (k17_5, k17_ah, k17_be) => Int.toNat (49152 - k17_5.toInt)) (0, v_ah, v_be) ⟨lv_sub hl [0, 1, 2, 3, 4, 5] rfl, hP, hD, hS, ⟨by decide, by decide⟩, fun j h => absurd h (by have z : (0 : Int32).toInt = 0 := (by decide +kernel); omega)⟩ ?_
  rintro ⟨k17_5, k17_ah, k17_be⟩ ls H locs ⟨hl, hP, hD, hS, (i_26 : 0 ≤ k17_5.toInt ∧ k17_5.toInt ≤ 49152), (i_27 : ∀ j : Nat, (j : Int) < k17_5.toInt → k17_ah j = 0)⟩ ih_17_28
  replace hl : lv_has ls 7 [(5, .int k17_5), (0, .ref b_o), (1, .int p_1), (2, .int p_2), (3, .int p_3), (4, .int p_4)] := hl
  refine g5_rs [(b_ah, (arJ G 49152 k17_ah)), (b_be, (arJ G 49152 k17_be)), (b_o, (oc12 u_th u_sa b_rf b_ro b_im b_ke u_fd b_tp u_td u_fr u_to u_so u_wo u_fa u_bd u_nc b_nl u_co b_op b_ar u_le b_pi b_pa u_pd u_od b_ws b_hw z10 b_se b_re z11 z12 z13 z14 z15 z16 z17 z18 b_pt z19 z20 b_ip 0 b_ah b_be b_me z21 b_tr b_ld u_st b_wn u_id)), (b_ro, (arI G 5740 v_ro)), (b_se, (arJ G 13 z22)), (b_re, (arJ G 400 z23)), (b_pt, (arI G 200 z24)), (b_me, (arI G 1536 z25))] hP hD ?_
  clear hP hD
  intro hP hD
  refine lv_iload hx hb dX12_countFor_17 (lv_at hl 0 rfl) ?_
  refine lv_ldc (v := 49152) hx hb hown (hts _ ki_X12_88) dX12_countFor_19 ?_
  refine lv_icmp_ge (tgt := 46) hx hb dX12_countFor_21 (by decide +kernel) (fun c_29 => ?_) (fun c_29 => ?_)
  ·
    have i_29 : k17_5.toInt ≥ 49152 := g5_ge (a := k17_5.toInt) (b := 49152) rfl (by decide +kernel) c_29
    refine lv_iconst (v := 0) hx hb dX12_countFor_46 (by decide +kernel) ?_
    refine lv_istore (lv' := [(5, .int 0), (0, .ref b_o), (1, .int p_1), (2, .int p_2), (3, .int p_3), (4, .int p_4)]) hx hb dX12_countFor_47 hl (by decide +kernel) rfl ?_
    clear hl
    intro ls hl
    refine g5_loop (α := (Int32) × (Nat → Int64) × (Nat → Int64)) (fun (q : (Int32) × (Nat → Int64) × (Nat → Int64)) (ls : Array Slot) (H : Heap) (locs : List Loc) => match q with | (k49_5, k49_ah, k49_be) => lv_has ls 7 [(5, .int k49_5), (0, .ref b_o), (1, .int p_1), (2, .int p_2), (3, .int p_3), (4, .int p_4)] ∧ va_P G.1 vwCl [(b_ah, (arJ G 49152 k49_ah)), (b_be, (arJ G 49152 k49_be)), (b_o, (oc12 u_th u_sa b_rf b_ro b_im b_ke u_fd b_tp u_td u_fr u_to u_so u_wo u_fa u_bd u_nc b_nl u_co b_op b_ar u_le b_pi b_pa u_pd u_od b_ws b_hw z10 b_se b_re z11 z12 z13 z14 z15 z16 z17 z18 b_pt z19 z20 b_ip 0 b_ah b_be b_me z21 b_tr b_ld u_st b_wn u_id)), (b_ro, (arI G 5740 v_ro)), (b_se, (arJ G 13 z22)), (b_re, (arJ G 400 z23)), (b_pt, (arI G 200 z24)), (b_me, (arI G 1536 z25))] H ∧ va_D A [(b_ah, (arJ G 49152 k49_ah)), (b_be, (arJ G 49152 k49_be)), (b_o, (oc12 u_th u_sa b_rf b_ro b_im b_ke u_fd b_tp u_td u_fr u_to u_so u_wo u_fa u_bd u_nc b_nl u_co b_op b_ar u_le b_pi b_pa u_pd u_od b_ws b_hw z10 b_se b_re z11 z12 z13 z14 z15 z16 z17 z18 b_pt z19 z20 b_ip 0 b_ah b_be b_me z21 b_tr b_ld u_st b_wn u_id)), (b_ro, (arI G 5740 v_ro)), (b_se, (arJ G 13 z22)), (b_re, (arJ G 400 z23)), (b_pt, (arI G 200 z24)), (b_me, (arI G 1536 z25))] ∧ va_S A s.heap H locs ∧ (0 ≤ k49_5.toInt ∧ k49_5.toInt ≤ 64) ∧ (AH0 k49_ah z25)) (fun (q : (Int32) × (Nat → Int64) × (Nat → Int64)) => match q with | (k49_5, k49_ah, k49_be) => Int.toNat (64 - k49_5.toInt)) (0, k17_ah, k17_be) ⟨lv_sub hl [0, 1, 2, 3, 4, 5] rfl, hP, hD, hS, ⟨by decide, by decide⟩, ah0_zero i_27 (by omega)⟩ ?_
    rintro ⟨k49_5, k49_ah, k49_be⟩ ls H locs ⟨hl, hP, hD, hS, (i_30 : 0 ≤ k49_5.toInt ∧ k49_5.toInt ≤ 64), (i_31 : AH0 k49_ah z25)⟩ ih_49_32
    replace hl : lv_has ls 7 [(5, .int k49_5), (0, .ref b_o), (1, .int p_1), (2, .int p_2), (3, .int p_3), (4, .int p_4)] := hl
    refine g5_rs [(b_ah, (arJ G 49152 k49_ah)), (b_be, (arJ G 49152 k49_be)), (b_o, (oc12 u_th u_sa b_rf b_ro b_im b_ke u_fd b_tp u_td u_fr u_to u_so u_wo u_fa u_bd u_nc b_nl u_co b_op b_ar u_le b_pi b_pa u_pd u_od b_ws b_hw z10 b_se b_re z11 z12 z13 z14 z15 z16 z17 z18 b_pt z19 z20 b_ip 0 b_ah b_be b_me z21 b_tr b_ld u_st b_wn u_id)), (b_ro, (arI G 5740 v_ro)), (b_se, (arJ G 13 z22)), (b_re, (arJ G 400 z23)), (b_pt, (arI G 200 z24)), (b_me, (arI G 1536 z25))] hP hD ?_
    clear hP hD
    intro hP hD
    refine lv_iload hx hb dX12_countFor_49 (lv_at hl 0 rfl) ?_
    refine lv_bipush (v := 64) hx hb dX12_countFor_51 (by decide +kernel) ?_
    refine lv_icmp_ge (tgt := 163) hx hb dX12_countFor_53 (by decide +kernel) (fun c_33 => ?_) (fun c_33 => ?_)
    ·
      have i_33 : k49_5.toInt ≥ 64 := g5_ge (a := k49_5.toInt) (b := 64) rfl (by decide +kernel) c_33
      refine lv_iconst (v := 0) hx hb dX12_countFor_163 (by decide +kernel) ?_
      refine lv_istore (lv' := [(5, .int 0), (0, .ref b_o), (1, .int p_1), (2, .int p_2), (3, .int p_3), (4, .int p_4)]) hx hb dX12_countFor_164 hl (by decide +kernel) rfl ?_
      clear hl
      intro ls hl
      refine g5_loop (α := (Int32) × (Nat → Int64)) (fun (q : (Int32) × (Nat → Int64)) (ls : Array Slot) (H : Heap) (locs : List Loc) => match q with | (k166_5, k166_ah) => lv_has ls 7 [(5, .int k166_5), (0, .ref b_o), (1, .int p_1), (2, .int p_2), (3, .int p_3), (4, .int p_4)] ∧ va_P G.1 vwCl [(b_ah, (arJ G 49152 k166_ah)), (b_be, (arJ G 49152 k49_be)), (b_o, (oc12 u_th u_sa b_rf b_ro b_im b_ke u_fd b_tp u_td u_fr u_to u_so u_wo u_fa u_bd u_nc b_nl u_co b_op b_ar u_le b_pi b_pa u_pd u_od b_ws b_hw z10 b_se b_re z11 z12 z13 z14 z15 z16 z17 z18 b_pt z19 z20 b_ip 0 b_ah b_be b_me z21 b_tr b_ld u_st b_wn u_id)), (b_ro, (arI G 5740 v_ro)), (b_se, (arJ G 13 z22)), (b_re, (arJ G 400 z23)), (b_pt, (arI G 200 z24)), (b_me, (arI G 1536 z25))] H ∧ va_D A [(b_ah, (arJ G 49152 k166_ah)), (b_be, (arJ G 49152 k49_be)), (b_o, (oc12 u_th u_sa b_rf b_ro b_im b_ke u_fd b_tp u_td u_fr u_to u_so u_wo u_fa u_bd u_nc b_nl u_co b_op b_ar u_le b_pi b_pa u_pd u_od b_ws b_hw z10 b_se b_re z11 z12 z13 z14 z15 z16 z17 z18 b_pt z19 z20 b_ip 0 b_ah b_be b_me z21 b_tr b_ld u_st b_wn u_id)), (b_ro, (arI G 5740 v_ro)), (b_se, (arJ G 13 z22)), (b_re, (arJ G 400 z23)), (b_pt, (arI G 200 z24)), (b_me, (arI G 1536 z25))] ∧ va_S A s.heap H locs ∧ (0 ≤ k166_5.toInt ∧ k166_5.toInt ≤ 23) ∧ (AH0 k166_ah z25)) (fun (q : (Int32) × (Nat → Int64)) => match q with | (k166_5, k166_ah) => Int.toNat (23 - k166_5.toInt)) (0, k49_ah) ⟨lv_sub hl [0, 1, 2, 3, 4, 5] rfl, hP, hD, hS, ⟨by decide, by decide⟩, i_31⟩ ?_
      rintro ⟨k166_5, k166_ah⟩ ls H locs ⟨hl, hP, hD, hS, (i_34 : 0 ≤ k166_5.toInt ∧ k166_5.toInt ≤ 23), (i_35 : AH0 k166_ah z25)⟩ ih_166_36
      replace hl : lv_has ls 7 [(5, .int k166_5), (0, .ref b_o), (1, .int p_1), (2, .int p_2), (3, .int p_3), (4, .int p_4)] := hl
      refine g5_rs [(b_ah, (arJ G 49152 k166_ah)), (b_be, (arJ G 49152 k49_be)), (b_o, (oc12 u_th u_sa b_rf b_ro b_im b_ke u_fd b_tp u_td u_fr u_to u_so u_wo u_fa u_bd u_nc b_nl u_co b_op b_ar u_le b_pi b_pa u_pd u_od b_ws b_hw z10 b_se b_re z11 z12 z13 z14 z15 z16 z17 z18 b_pt z19 z20 b_ip 0 b_ah b_be b_me z21 b_tr b_ld u_st b_wn u_id)), (b_ro, (arI G 5740 v_ro)), (b_se, (arJ G 13 z22)), (b_re, (arJ G 400 z23)), (b_pt, (arI G 200 z24)), (b_me, (arI G 1536 z25))] hP hD ?_
      clear hP hD
      intro hP hD
      refine lv_iload hx hb dX12_countFor_166 (lv_at hl 0 rfl) ?_
      refine lv_bipush (v := 23) hx hb dX12_countFor_168 (by decide +kernel) ?_
      refine lv_icmp_ge (tgt := 203) hx hb dX12_countFor_170 (by decide +kernel) (fun c_37 => ?_) (fun c_37 => ?_)
      ·
        have i_37 : k166_5.toInt ≥ 23 := g5_ge (a := k166_5.toInt) (b := 23) rfl (by decide +kernel) c_37
        refine lv_bipush (v := 22) hx hb dX12_countFor_203 (by decide +kernel) ?_
        refine lv_istore (lv' := [(5, .int 22), (0, .ref b_o), (1, .int p_1), (2, .int p_2), (3, .int p_3), (4, .int p_4)]) hx hb dX12_countFor_205 hl (by decide +kernel) rfl ?_
        clear hl
        intro ls hl
        refine g5_loop (α := (Int32) × (Nat → Int64)) (fun (q : (Int32) × (Nat → Int64)) (ls : Array Slot) (H : Heap) (locs : List Loc) => match q with | (k207_5, k207_be) => lv_has ls 7 [(5, .int k207_5), (0, .ref b_o), (1, .int p_1), (2, .int p_2), (3, .int p_3), (4, .int p_4)] ∧ va_P G.1 vwCl [(b_ah, (arJ G 49152 k166_ah)), (b_be, (arJ G 49152 k207_be)), (b_o, (oc12 u_th u_sa b_rf b_ro b_im b_ke u_fd b_tp u_td u_fr u_to u_so u_wo u_fa u_bd u_nc b_nl u_co b_op b_ar u_le b_pi b_pa u_pd u_od b_ws b_hw z10 b_se b_re z11 z12 z13 z14 z15 z16 z17 z18 b_pt z19 z20 b_ip 0 b_ah b_be b_me z21 b_tr b_ld u_st b_wn u_id)), (b_ro, (arI G 5740 v_ro)), (b_se, (arJ G 13 z22)), (b_re, (arJ G 400 z23)), (b_pt, (arI G 200 z24)), (b_me, (arI G 1536 z25))] H ∧ va_D A [(b_ah, (arJ G 49152 k166_ah)), (b_be, (arJ G 49152 k207_be)), (b_o, (oc12 u_th u_sa b_rf b_ro b_im b_ke u_fd b_tp u_td u_fr u_to u_so u_wo u_fa u_bd u_nc b_nl u_co b_op b_ar u_le b_pi b_pa u_pd u_od b_ws b_hw z10 b_se b_re z11 z12 z13 z14 z15 z16 z17 z18 b_pt z19 z20 b_ip 0 b_ah b_be b_me z21 b_tr b_ld u_st b_wn u_id)), (b_ro, (arI G 5740 v_ro)), (b_se, (arJ G 13 z22)), (b_re, (arJ G 400 z23)), (b_pt, (arI G 200 z24)), (b_me, (arI G 1536 z25))] ∧ va_S A s.heap H locs ∧ ((-1) ≤ k207_5.toInt ∧ k207_5.toInt ≤ 22)) (fun (q : (Int32) × (Nat → Int64)) => match q with | (k207_5, k207_be) => Int.toNat (k207_5.toInt + 1)) (22, k49_be) ⟨lv_sub hl [0, 1, 2, 3, 4, 5] rfl, hP, hD, hS, ⟨by decide, by decide⟩⟩ ?_
        rintro ⟨k207_5, k207_be⟩ ls H locs ⟨hl, hP, hD, hS, (i_38 : (-1) ≤ k207_5.toInt ∧ k207_5.toInt ≤ 22)⟩ ih_207_39
        replace hl : lv_has ls 7 [(5, .int k207_5), (0, .ref b_o), (1, .int p_1), (2, .int p_2), (3, .int p_3), (4, .int p_4)] := hl
        refine g5_rs [(b_ah, (arJ G 49152 k166_ah)), (b_be, (arJ G 49152 k207_be)), (b_o, (oc12 u_th u_sa b_rf b_ro b_im b_ke u_fd b_tp u_td u_fr u_to u_so u_wo u_fa u_bd u_nc b_nl u_co b_op b_ar u_le b_pi b_pa u_pd u_od b_ws b_hw z10 b_se b_re z11 z12 z13 z14 z15 z16 z17 z18 b_pt z19 z20 b_ip 0 b_ah b_be b_me z21 b_tr b_ld u_st b_wn u_id)), (b_ro, (arI G 5740 v_ro)), (b_se, (arJ G 13 z22)), (b_re, (arJ G 400 z23)), (b_pt, (arI G 200 z24)), (b_me, (arI G 1536 z25))] hP hD ?_
        clear hP hD
        intro hP hD
        refine lv_iload hx hb dX12_countFor_207 (lv_at hl 0 rfl) ?_
        refine lv_if_lt (tgt := 242) hx hb dX12_countFor_209 (by decide +kernel) (fun c_40 => ?_) (fun c_40 => ?_)
        ·
          have i_40 : k207_5.toInt < 0 := g5_lt (a := k207_5.toInt) (b := 0) rfl (by decide +kernel) c_40
          exact W.vret hx hb hr (fun t ht hW => ⟨⟨[(b_o, (oc12 u_th u_sa b_rf b_ro b_im b_ke u_fd b_tp u_td u_fr u_to u_so u_wo u_fa u_bd u_nc b_nl u_co b_op b_ar u_le b_pi b_pa u_pd u_od b_ws b_hw z10 b_se b_re z11 z12 z13 z14 z15 z16 z17 z18 b_pt z19 z20 b_ip 0 b_ah b_be b_me z21 b_tr b_ld u_st b_wn u_id)), (b_ro, (arI G 5740 v_ro)), (b_se, (arJ G 13 z22)), (b_re, (arJ G 400 z23)), (b_pt, (arI G 200 z24)), (b_ah, (arJ G 49152 k166_ah)), (b_be, (arJ G 49152 k207_be)), (b_me, (arI G 1536 z25))], rfl, ⟨z10, z11, z12, z13, z14, z15, z16, z17, z18, z19, z20, 0, z21, z22, z23, z24, k166_ah, k207_be, z25, i_1, i_2, i_3, i_4, i_5, i_6, i_7, i_8, ⟨by have zc_o_ic : (0 : Int32).toInt = 0 := (by decide +kernel); omega, by have zc_o_ic : (0 : Int32).toInt = 0 := (by decide +kernel); omega⟩, i_9, i_35, rfl⟩, by rw [ht]; exact hP.sub [2, 3, 4, 5, 6, 0, 1, 7] rfl, hD.sub [2, 3, 4, 5, 6, 0, 1, 7] (by decide +kernel) rfl⟩, hS.F ht⟩) hS.2.2 dX12_countFor_242
        ·
          have i_40 : k207_5.toInt ≥ 0 := g5_ltN (a := k207_5.toInt) (b := 0) rfl (by decide +kernel) c_40
          refine lv_iconst (v := 0) hx hb dX12_countFor_212 (by decide +kernel) ?_
          refine lv_istore (lv' := [(6, .int 0), (5, .int k207_5), (0, .ref b_o), (1, .int p_1), (2, .int p_2), (3, .int p_3), (4, .int p_4)]) hx hb dX12_countFor_213 hl (by decide +kernel) rfl ?_
          clear hl
          intro ls hl
          refine g5_loop (α := (Int32) × (Nat → Int64)) (fun (q : (Int32) × (Nat → Int64)) (ls : Array Slot) (H : Heap) (locs : List Loc) => match q with | (k215_6, k215_be) => lv_has ls 7 [(6, .int k215_6), (5, .int k207_5), (0, .ref b_o), (1, .int p_1), (2, .int p_2), (3, .int p_3), (4, .int p_4)] ∧ va_P G.1 vwCl [(b_ah, (arJ G 49152 k166_ah)), (b_be, (arJ G 49152 k215_be)), (b_o, (oc12 u_th u_sa b_rf b_ro b_im b_ke u_fd b_tp u_td u_fr u_to u_so u_wo u_fa u_bd u_nc b_nl u_co b_op b_ar u_le b_pi b_pa u_pd u_od b_ws b_hw z10 b_se b_re z11 z12 z13 z14 z15 z16 z17 z18 b_pt z19 z20 b_ip 0 b_ah b_be b_me z21 b_tr b_ld u_st b_wn u_id)), (b_ro, (arI G 5740 v_ro)), (b_se, (arJ G 13 z22)), (b_re, (arJ G 400 z23)), (b_pt, (arI G 200 z24)), (b_me, (arI G 1536 z25))] H ∧ va_D A [(b_ah, (arJ G 49152 k166_ah)), (b_be, (arJ G 49152 k215_be)), (b_o, (oc12 u_th u_sa b_rf b_ro b_im b_ke u_fd b_tp u_td u_fr u_to u_so u_wo u_fa u_bd u_nc b_nl u_co b_op b_ar u_le b_pi b_pa u_pd u_od b_ws b_hw z10 b_se b_re z11 z12 z13 z14 z15 z16 z17 z18 b_pt z19 z20 b_ip 0 b_ah b_be b_me z21 b_tr b_ld u_st b_wn u_id)), (b_ro, (arI G 5740 v_ro)), (b_se, (arJ G 13 z22)), (b_re, (arJ G 400 z23)), (b_pt, (arI G 200 z24)), (b_me, (arI G 1536 z25))] ∧ va_S A s.heap H locs ∧ (0 ≤ k215_6.toInt ∧ k215_6.toInt ≤ 64)) (fun (q : (Int32) × (Nat → Int64)) => match q with | (k215_6, k215_be) => Int.toNat (64 - k215_6.toInt)) (0, k207_be) ⟨lv_sub hl [0, 1, 2, 3, 4, 5, 6] rfl, hP, hD, hS, ⟨by decide, by decide⟩⟩ ?_
          rintro ⟨k215_6, k215_be⟩ ls H locs ⟨hl, hP, hD, hS, (i_41 : 0 ≤ k215_6.toInt ∧ k215_6.toInt ≤ 64)⟩ ih_215_42
          replace hl : lv_has ls 7 [(6, .int k215_6), (5, .int k207_5), (0, .ref b_o), (1, .int p_1), (2, .int p_2), (3, .int p_3), (4, .int p_4)] := hl
          refine g5_rs [(b_ah, (arJ G 49152 k166_ah)), (b_be, (arJ G 49152 k215_be)), (b_o, (oc12 u_th u_sa b_rf b_ro b_im b_ke u_fd b_tp u_td u_fr u_to u_so u_wo u_fa u_bd u_nc b_nl u_co b_op b_ar u_le b_pi b_pa u_pd u_od b_ws b_hw z10 b_se b_re z11 z12 z13 z14 z15 z16 z17 z18 b_pt z19 z20 b_ip 0 b_ah b_be b_me z21 b_tr b_ld u_st b_wn u_id)), (b_ro, (arI G 5740 v_ro)), (b_se, (arJ G 13 z22)), (b_re, (arJ G 400 z23)), (b_pt, (arI G 200 z24)), (b_me, (arI G 1536 z25))] hP hD ?_
          clear hP hD
          intro hP hD
          refine lv_iload hx hb dX12_countFor_215 (lv_at hl 0 rfl) ?_
          refine lv_bipush (v := 64) hx hb dX12_countFor_217 (by decide +kernel) ?_
          refine lv_icmp_ge (tgt := 236) hx hb dX12_countFor_219 (by decide +kernel) (fun c_43 => ?_) (fun c_43 => ?_)
          ·
            have i_43 : k215_6.toInt ≥ 64 := g5_ge (a := k215_6.toInt) (b := 64) rfl (by decide +kernel) c_43
            obtain ⟨y44, hy_44, t_44⟩ := g_incN k207_5 (-1) (by decide +kernel) (by omega) (by omega)
            have t_44 : y44.toInt = k207_5.toInt + (-1) := t_44
            refine lv_iinc (v := y44) (lv' := [(5, .int y44), (6, .int k215_6), (0, .ref b_o), (1, .int p_1), (2, .int p_2), (3, .int p_3), (4, .int p_4)]) hx hb dX12_countFor_236 hl (k := 1) rfl hy_44 (by decide +kernel) rfl ?_
            clear hl
            intro ls hl
            refine lv_goto (tgt := 207) hx hb dX12_countFor_239 (by decide +kernel) ?_
            exact ih_207_39 (y44, k215_be) ls H locs (show Int.toNat (y44.toInt + 1) < Int.toNat (k207_5.toInt + 1) from g_dn (show y44.toInt < k207_5.toInt by omega) (show 0 ≤ k207_5.toInt by omega)) ⟨lv_sub hl [0, 2, 3, 4, 5, 6] rfl, hP, hD, hS, ⟨by omega, by omega⟩⟩
          ·
            have i_43 : k215_6.toInt < 64 := g5_geN (a := k215_6.toInt) (b := 64) rfl (by decide +kernel) c_43
            refine lv_aload_n hx hb dX12_countFor_222 rfl (lv_at hl 2 rfl) ?_
            refine lv_iload hx hb dX12_countFor_223 (lv_at hl 1 rfl) ?_
            refine lv_iload hx hb dX12_countFor_225 (lv_at hl 0 rfl) ?_
            obtain ⟨hPc, hDc, hFc⟩ := g5_sub3 (wc := [(b_o, (oc12 u_th u_sa b_rf b_ro b_im b_ke u_fd b_tp u_td u_fr u_to u_so u_wo u_fa u_bd u_nc b_nl u_co b_op b_ar u_le b_pi b_pa u_pd u_od b_ws b_hw z10 b_se b_re z11 z12 z13 z14 z15 z16 z17 z18 b_pt z19 z20 b_ip 0 b_ah b_be b_me z21 b_tr b_ld u_st b_wn u_id)), (b_be, (arJ G 49152 k215_be)), (b_me, (arI G 1536 z25))]) hP hD hS hA [2, 1, 7] (by decide +kernel) rfl
            refine va_callv (va_runV (As := [.int k207_5, .int k215_6]) (rest := []) ⟨hx, hb, hml, hown, hts⟩ (n_comesFrom l G b_o b_be b_me b_rf b_ro b_im b_ke b_tp b_nl b_op b_ar b_pi b_pa b_ws b_hw b_se b_re b_pt b_ip b_ah b_tr b_ld b_wn H.size u_th u_sa u_fd u_td u_fr u_to u_so u_fa u_bd u_nc u_co u_le u_pd u_od z10 z11 z14 z15 z16 z17 z18 z19 z20 0 z21 u_id k207_5 k215_6 u_wo z12 z13 u_st k215_be z25 h_u_td h_u_fr h_u_to h_u_bd h_u_nc h_u_co h_u_pd i_1 i_2 i_3 i_4 i_5 i_6 i_7 ⟨by decide, by decide⟩ h_u_id ⟨by omega, by omega⟩ ⟨by omega, by omega⟩ (i_9)) (cwV 2 hts gV_X12_434 rfl rfl rfl hv_X12_comesFrom ⟨Nat.le_of_ble_eq_true rfl, Nat.le_of_ble_eq_true rfl⟩) (g5_preV hPc hK hDc hN hT hS hFc (ci := 12) (q0 := 0) rfl rfl) rfl rfl hl.1 rfl (lv_room (Nat.le_of_ble_eq_true rfl)) dX12_countFor_227 ⟨Nat.le_of_ble_eq_true rfl, Nat.le_of_ble_eq_true rfl⟩) hS (fun q _ h => hFc q h) hFc (fun u t H locs ht hvm hw hB hz1 hk1 hS => ?_)
            obtain ⟨hP1, hD1⟩ := hB
            have hP1 := g5_ht ht hP1
            obtain ⟨z45, rfl⟩ := hw
            have hJ9 := va_join (wr := [(b_ah, (arJ G 49152 k166_ah)), (b_ro, (arI G 5740 v_ro)), (b_se, (arJ G 13 z22)), (b_re, (arJ G 400 z23)), (b_pt, (arI G 200 z24))]) hP hD [2, 1, 7] [0, 3, 4, 5, 6] rfl rfl (by decide +kernel) (by decide +kernel) hk1 hFc hP1 hD1
            clear hP hD hPc hDc hFc ht hvm hz1 hk1 hP1 hD1
            obtain ⟨hP, hD⟩ := hJ9
            refine g5_rs [(b_ah, (arJ G 49152 k166_ah)), (b_ro, (arI G 5740 v_ro)), (b_se, (arJ G 13 z22)), (b_re, (arJ G 400 z23)), (b_pt, (arI G 200 z24)), (b_o, (oc12 u_th u_sa b_rf b_ro b_im b_ke u_fd b_tp u_td u_fr u_to u_so u_wo u_fa u_bd u_nc b_nl u_co b_op b_ar u_le b_pi b_pa u_pd u_od b_ws b_hw z10 b_se b_re z11 z12 z13 z14 z15 z16 z17 z18 b_pt z19 z20 b_ip 0 b_ah b_be b_me z21 b_tr b_ld u_st b_wn u_id)), (b_be, (arJ G 49152 z45)), (b_me, (arI G 1536 z25))] hP hD ?_
            clear hP hD
            intro hP hD
            refine W.eq (g2 := F0 m 230 ls []) rfl ?_
            refine lv_iinc (v := (k215_6 + 1)) (lv' := [(6, .int (k215_6 + 1)), (5, .int k207_5), (0, .ref b_o), (1, .int p_1), (2, .int p_2), (3, .int p_3), (4, .int p_4)]) hx hb dX12_countFor_230 hl (k := 0) rfl rfl (by decide +kernel) rfl ?_
            clear hl
            intro ls hl
            have t_46 : (k215_6 + 1).toInt = k215_6.toInt + 1 := g5_iadd (a := k215_6.toInt) (b := 1) rfl (by decide +kernel) (by omega) (by omega)
            refine lv_goto (tgt := 215) hx hb dX12_countFor_233 (by decide +kernel) ?_
            exact ih_215_42 ((k215_6 + 1), z45) ls H locs (show Int.toNat (64 - (k215_6 + 1).toInt) < Int.toNat (64 - k215_6.toInt) from g_up (show k215_6.toInt < (k215_6 + 1).toInt by omega) (show k215_6.toInt < 64 by omega)) ⟨lv_sub hl [0, 1, 2, 3, 4, 5, 6] rfl, hP.sub [0, 6, 5, 1, 2, 3, 4, 7] rfl, hD.sub [0, 6, 5, 1, 2, 3, 4, 7] (by decide +kernel) rfl, hS, ⟨by omega, by omega⟩⟩
      ·
        have i_37 : k166_5.toInt < 23 := g5_geN (a := k166_5.toInt) (b := 23) rfl (by decide +kernel) c_37
        refine lv_iconst (v := 0) hx hb dX12_countFor_173 (by decide +kernel) ?_
        refine lv_istore (lv' := [(6, .int 0), (5, .int k166_5), (0, .ref b_o), (1, .int p_1), (2, .int p_2), (3, .int p_3), (4, .int p_4)]) hx hb dX12_countFor_174 hl (by decide +kernel) rfl ?_
        clear hl
        intro ls hl
        refine g5_loop (α := (Int32) × (Nat → Int64)) (fun (q : (Int32) × (Nat → Int64)) (ls : Array Slot) (H : Heap) (locs : List Loc) => match q with | (k176_6, k176_ah) => lv_has ls 7 [(6, .int k176_6), (5, .int k166_5), (0, .ref b_o), (1, .int p_1), (2, .int p_2), (3, .int p_3), (4, .int p_4)] ∧ va_P G.1 vwCl [(b_ah, (arJ G 49152 k176_ah)), (b_be, (arJ G 49152 k49_be)), (b_o, (oc12 u_th u_sa b_rf b_ro b_im b_ke u_fd b_tp u_td u_fr u_to u_so u_wo u_fa u_bd u_nc b_nl u_co b_op b_ar u_le b_pi b_pa u_pd u_od b_ws b_hw z10 b_se b_re z11 z12 z13 z14 z15 z16 z17 z18 b_pt z19 z20 b_ip 0 b_ah b_be b_me z21 b_tr b_ld u_st b_wn u_id)), (b_ro, (arI G 5740 v_ro)), (b_se, (arJ G 13 z22)), (b_re, (arJ G 400 z23)), (b_pt, (arI G 200 z24)), (b_me, (arI G 1536 z25))] H ∧ va_D A [(b_ah, (arJ G 49152 k176_ah)), (b_be, (arJ G 49152 k49_be)), (b_o, (oc12 u_th u_sa b_rf b_ro b_im b_ke u_fd b_tp u_td u_fr u_to u_so u_wo u_fa u_bd u_nc b_nl u_co b_op b_ar u_le b_pi b_pa u_pd u_od b_ws b_hw z10 b_se b_re z11 z12 z13 z14 z15 z16 z17 z18 b_pt z19 z20 b_ip 0 b_ah b_be b_me z21 b_tr b_ld u_st b_wn u_id)), (b_ro, (arI G 5740 v_ro)), (b_se, (arJ G 13 z22)), (b_re, (arJ G 400 z23)), (b_pt, (arI G 200 z24)), (b_me, (arI G 1536 z25))] ∧ va_S A s.heap H locs ∧ (0 ≤ k176_6.toInt ∧ k176_6.toInt ≤ 64) ∧ (AH0 k176_ah z25)) (fun (q : (Int32) × (Nat → Int64)) => match q with | (k176_6, k176_ah) => Int.toNat (64 - k176_6.toInt)) (0, k166_ah) ⟨lv_sub hl [0, 1, 2, 3, 4, 5, 6] rfl, hP, hD, hS, ⟨by decide, by decide⟩, i_35⟩ ?_
        rintro ⟨k176_6, k176_ah⟩ ls H locs ⟨hl, hP, hD, hS, (i_47 : 0 ≤ k176_6.toInt ∧ k176_6.toInt ≤ 64), (i_48 : AH0 k176_ah z25)⟩ ih_176_49
        replace hl : lv_has ls 7 [(6, .int k176_6), (5, .int k166_5), (0, .ref b_o), (1, .int p_1), (2, .int p_2), (3, .int p_3), (4, .int p_4)] := hl
        refine g5_rs [(b_ah, (arJ G 49152 k176_ah)), (b_be, (arJ G 49152 k49_be)), (b_o, (oc12 u_th u_sa b_rf b_ro b_im b_ke u_fd b_tp u_td u_fr u_to u_so u_wo u_fa u_bd u_nc b_nl u_co b_op b_ar u_le b_pi b_pa u_pd u_od b_ws b_hw z10 b_se b_re z11 z12 z13 z14 z15 z16 z17 z18 b_pt z19 z20 b_ip 0 b_ah b_be b_me z21 b_tr b_ld u_st b_wn u_id)), (b_ro, (arI G 5740 v_ro)), (b_se, (arJ G 13 z22)), (b_re, (arJ G 400 z23)), (b_pt, (arI G 200 z24)), (b_me, (arI G 1536 z25))] hP hD ?_
        clear hP hD
        intro hP hD
        refine lv_iload hx hb dX12_countFor_176 (lv_at hl 0 rfl) ?_
        refine lv_bipush (v := 64) hx hb dX12_countFor_178 (by decide +kernel) ?_
        refine lv_icmp_ge (tgt := 197) hx hb dX12_countFor_180 (by decide +kernel) (fun c_50 => ?_) (fun c_50 => ?_)
        ·
          have i_50 : k176_6.toInt ≥ 64 := g5_ge (a := k176_6.toInt) (b := 64) rfl (by decide +kernel) c_50
          refine lv_iinc (v := (k166_5 + 1)) (lv' := [(5, .int (k166_5 + 1)), (6, .int k176_6), (0, .ref b_o), (1, .int p_1), (2, .int p_2), (3, .int p_3), (4, .int p_4)]) hx hb dX12_countFor_197 hl (k := 1) rfl rfl (by decide +kernel) rfl ?_
          clear hl
          intro ls hl
          have t_51 : (k166_5 + 1).toInt = k166_5.toInt + 1 := g5_iadd (a := k166_5.toInt) (b := 1) rfl (by decide +kernel) (by omega) (by omega)
          refine lv_goto (tgt := 166) hx hb dX12_countFor_200 (by decide +kernel) ?_
          exact ih_166_36 ((k166_5 + 1), k176_ah) ls H locs (show Int.toNat (23 - (k166_5 + 1).toInt) < Int.toNat (23 - k166_5.toInt) from g_up (show k166_5.toInt < (k166_5 + 1).toInt by omega) (show k166_5.toInt < 23 by omega)) ⟨lv_sub hl [0, 2, 3, 4, 5, 6] rfl, hP, hD, hS, ⟨by omega, by omega⟩, i_48⟩
        ·
          have i_50 : k176_6.toInt < 64 := g5_geN (a := k176_6.toInt) (b := 64) rfl (by decide +kernel) c_50
          refine lv_aload_n hx hb dX12_countFor_183 rfl (lv_at hl 2 rfl) ?_
          refine lv_iload hx hb dX12_countFor_184 (lv_at hl 1 rfl) ?_
          refine lv_iload hx hb dX12_countFor_186 (lv_at hl 0 rfl) ?_
          obtain ⟨hPc, hDc, hFc⟩ := g5_sub3 (wc := [(b_o, (oc12 u_th u_sa b_rf b_ro b_im b_ke u_fd b_tp u_td u_fr u_to u_so u_wo u_fa u_bd u_nc b_nl u_co b_op b_ar u_le b_pi b_pa u_pd u_od b_ws b_hw z10 b_se b_re z11 z12 z13 z14 z15 z16 z17 z18 b_pt z19 z20 b_ip 0 b_ah b_be b_me z21 b_tr b_ld u_st b_wn u_id)), (b_ah, (arJ G 49152 k176_ah)), (b_me, (arI G 1536 z25))]) hP hD hS hA [2, 0, 7] (by decide +kernel) rfl
          refine va_callv (va_runV (As := [.int k166_5, .int k176_6]) (rest := []) ⟨hx, hb, hml, hown, hts⟩ (n_goesOnP l G b_o b_ah b_me b_rf b_ro b_im b_ke b_tp b_nl b_op b_ar b_pi b_pa b_ws b_hw b_se b_re b_pt b_ip b_be b_tr b_ld b_wn H.size u_th u_sa u_fd u_td u_fr u_to u_so u_fa u_bd u_nc u_co u_le u_pd u_od z10 z11 z14 z15 z16 z17 z18 z19 z20 0 z21 u_id k166_5 k176_6 u_wo z12 z13 u_st k176_ah z25 h_u_td h_u_fr h_u_to h_u_bd h_u_nc h_u_co h_u_pd i_1 i_2 i_3 i_4 i_5 i_6 i_7 ⟨by decide, by decide⟩ h_u_id ⟨by omega, by omega⟩ ⟨by omega, by omega⟩ (i_9)) (cwV 2 hts gV_X12_431 rfl rfl rfl hv_X12_goesOn ⟨Nat.le_of_ble_eq_true rfl, Nat.le_of_ble_eq_true rfl⟩) (g5_preV hPc hK hDc hN hT hS hFc (ci := 12) (q0 := 0) rfl rfl) rfl rfl hl.1 rfl (lv_room (Nat.le_of_ble_eq_true rfl)) dX12_countFor_188 ⟨Nat.le_of_ble_eq_true rfl, Nat.le_of_ble_eq_true rfl⟩) hS (fun q _ h => hFc q h) hFc (fun u t H locs ht hvm hw hB hz1 hk1 hS => ?_)
          obtain ⟨hP1, hD1⟩ := hB
          have hP1 := g5_ht ht hP1
          obtain ⟨z53, (i_52 : AHK z53 k176_ah), rfl⟩ := hw
          have hJ9 := va_join (wr := [(b_be, (arJ G 49152 k49_be)), (b_ro, (arI G 5740 v_ro)), (b_se, (arJ G 13 z22)), (b_re, (arJ G 400 z23)), (b_pt, (arI G 200 z24))]) hP hD [2, 0, 7] [1, 3, 4, 5, 6] rfl rfl (by decide +kernel) (by decide +kernel) hk1 hFc hP1 hD1
          clear hP hD hPc hDc hFc ht hvm hz1 hk1 hP1 hD1
          obtain ⟨hP, hD⟩ := hJ9
          refine g5_rs [(b_be, (arJ G 49152 k49_be)), (b_ro, (arI G 5740 v_ro)), (b_se, (arJ G 13 z22)), (b_re, (arJ G 400 z23)), (b_pt, (arI G 200 z24)), (b_o, (oc12 u_th u_sa b_rf b_ro b_im b_ke u_fd b_tp u_td u_fr u_to u_so u_wo u_fa u_bd u_nc b_nl u_co b_op b_ar u_le b_pi b_pa u_pd u_od b_ws b_hw z10 b_se b_re z11 z12 z13 z14 z15 z16 z17 z18 b_pt z19 z20 b_ip 0 b_ah b_be b_me z21 b_tr b_ld u_st b_wn u_id)), (b_ah, (arJ G 49152 z53)), (b_me, (arI G 1536 z25))] hP hD ?_
          clear hP hD
          intro hP hD
          refine W.eq (g2 := F0 m 191 ls []) rfl ?_
          refine lv_iinc (v := (k176_6 + 1)) (lv' := [(6, .int (k176_6 + 1)), (5, .int k166_5), (0, .ref b_o), (1, .int p_1), (2, .int p_2), (3, .int p_3), (4, .int p_4)]) hx hb dX12_countFor_191 hl (k := 0) rfl rfl (by decide +kernel) rfl ?_
          clear hl
          intro ls hl
          have t_54 : (k176_6 + 1).toInt = k176_6.toInt + 1 := g5_iadd (a := k176_6.toInt) (b := 1) rfl (by decide +kernel) (by omega) (by omega)
          refine lv_goto (tgt := 176) hx hb dX12_countFor_194 (by decide +kernel) ?_
          exact ih_176_49 ((k176_6 + 1), z53) ls H locs (show Int.toNat (64 - (k176_6 + 1).toInt) < Int.toNat (64 - k176_6.toInt) from g_up (show k176_6.toInt < (k176_6 + 1).toInt by omega) (show k176_6.toInt < 64 by omega)) ⟨lv_sub hl [0, 1, 2, 3, 4, 5, 6] rfl, hP.sub [6, 0, 5, 1, 2, 3, 4, 7] rfl, hD.sub [6, 0, 5, 1, 2, 3, 4, 7] (by decide +kernel) rfl, hS, ⟨by omega, by omega⟩, ah0_k i_48 i_52⟩
    ·
      have i_33 : k49_5.toInt < 64 := g5_geN (a := k49_5.toInt) (b := 64) rfl (by decide +kernel) c_33
      refine lv_aload_n hx hb dX12_countFor_56 rfl (lv_at hl 1 rfl) ?_
      refine va_get (D := G.1) (ci := 12) (v := .ref b_me) (C := RX12) (T := TX12) (N := 52) hx hb hts inG_X12 hown hK hP 2 rfl rfl 45 (by decide +kernel) (hts _ fl_X12_95) (fun _ h9 => h9) rfl dX12_countFor_57 ?_
      refine lv_iload hx hb dX12_countFor_60 (lv_at hl 0 rfl) ?_
      refine va_iald hx hb hK hP 7 0 rfl rfl (i := k49_5) (vp_in_iff.mpr ⟨by omega, by omega⟩) dX12_countFor_62 ?_
      have hr_55 : 0 ≤ (z25 k49_5.toNatClampNeg).toInt ∧ ((z25 k49_5.toNatClampNeg).toInt < 32 ∨ 64 ≤ (z25 k49_5.toNatClampNeg).toInt) ∧ (z25 k49_5.toNatClampNeg).toInt ≤ 127 := i_9 (k49_5.toNatClampNeg)
      refine W.eq (g2 := F0 m 63 ls [.int (z25 k49_5.toNatClampNeg)]) rfl ?_
      refine lv_bipush (v := 64) hx hb dX12_countFor_63 (by decide +kernel) ?_
      refine lv_icmp_ge (tgt := 110) hx hb dX12_countFor_65 (by decide +kernel) (fun c_56 => ?_) (fun c_56 => ?_)
      ·
        have i_56 : (z25 k49_5.toNatClampNeg).toInt ≥ 64 := g5_ge (a := (z25 k49_5.toNatClampNeg).toInt) (b := 64) rfl (by decide +kernel) c_56
        refine lv_iconst (v := 0) hx hb dX12_countFor_110 (by decide +kernel) ?_
        refine lv_istore (lv' := [(6, .int 0), (5, .int k49_5), (0, .ref b_o), (1, .int p_1), (2, .int p_2), (3, .int p_3), (4, .int p_4)]) hx hb dX12_countFor_111 hl (by decide +kernel) rfl ?_
        clear hl
        intro ls hl
        refine g5_loop (α := (Int32) × (Nat → Int64)) (fun (q : (Int32) × (Nat → Int64)) (ls : Array Slot) (H : Heap) (locs : List Loc) => match q with | (k113_6, k113_be) => lv_has ls 7 [(6, .int k113_6), (5, .int k49_5), (0, .ref b_o), (1, .int p_1), (2, .int p_2), (3, .int p_3), (4, .int p_4)] ∧ va_P G.1 vwCl [(b_ah, (arJ G 49152 k49_ah)), (b_be, (arJ G 49152 k113_be)), (b_o, (oc12 u_th u_sa b_rf b_ro b_im b_ke u_fd b_tp u_td u_fr u_to u_so u_wo u_fa u_bd u_nc b_nl u_co b_op b_ar u_le b_pi b_pa u_pd u_od b_ws b_hw z10 b_se b_re z11 z12 z13 z14 z15 z16 z17 z18 b_pt z19 z20 b_ip 0 b_ah b_be b_me z21 b_tr b_ld u_st b_wn u_id)), (b_ro, (arI G 5740 v_ro)), (b_se, (arJ G 13 z22)), (b_re, (arJ G 400 z23)), (b_pt, (arI G 200 z24)), (b_me, (arI G 1536 z25))] H ∧ va_D A [(b_ah, (arJ G 49152 k49_ah)), (b_be, (arJ G 49152 k113_be)), (b_o, (oc12 u_th u_sa b_rf b_ro b_im b_ke u_fd b_tp u_td u_fr u_to u_so u_wo u_fa u_bd u_nc b_nl u_co b_op b_ar u_le b_pi b_pa u_pd u_od b_ws b_hw z10 b_se b_re z11 z12 z13 z14 z15 z16 z17 z18 b_pt z19 z20 b_ip 0 b_ah b_be b_me z21 b_tr b_ld u_st b_wn u_id)), (b_ro, (arI G 5740 v_ro)), (b_se, (arJ G 13 z22)), (b_re, (arJ G 400 z23)), (b_pt, (arI G 200 z24)), (b_me, (arI G 1536 z25))] ∧ va_S A s.heap H locs ∧ (0 ≤ k113_6.toInt ∧ k113_6.toInt ≤ 32)) (fun (q : (Int32) × (Nat → Int64)) => match q with | (k113_6, k113_be) => Int.toNat (32 - k113_6.toInt)) (0, k49_be) ⟨lv_sub hl [0, 1, 2, 3, 4, 5, 6] rfl, hP, hD, hS, ⟨by decide, by decide⟩⟩ ?_
        rintro ⟨k113_6, k113_be⟩ ls H locs ⟨hl, hP, hD, hS, (i_57 : 0 ≤ k113_6.toInt ∧ k113_6.toInt ≤ 32)⟩ ih_113_58
        replace hl : lv_has ls 7 [(6, .int k113_6), (5, .int k49_5), (0, .ref b_o), (1, .int p_1), (2, .int p_2), (3, .int p_3), (4, .int p_4)] := hl
        refine g5_rs [(b_ah, (arJ G 49152 k49_ah)), (b_be, (arJ G 49152 k113_be)), (b_o, (oc12 u_th u_sa b_rf b_ro b_im b_ke u_fd b_tp u_td u_fr u_to u_so u_wo u_fa u_bd u_nc b_nl u_co b_op b_ar u_le b_pi b_pa u_pd u_od b_ws b_hw z10 b_se b_re z11 z12 z13 z14 z15 z16 z17 z18 b_pt z19 z20 b_ip 0 b_ah b_be b_me z21 b_tr b_ld u_st b_wn u_id)), (b_ro, (arI G 5740 v_ro)), (b_se, (arJ G 13 z22)), (b_re, (arJ G 400 z23)), (b_pt, (arI G 200 z24)), (b_me, (arI G 1536 z25))] hP hD ?_
        clear hP hD
        intro hP hD
        refine lv_iload hx hb dX12_countFor_113 (lv_at hl 0 rfl) ?_
        refine lv_bipush (v := 32) hx hb dX12_countFor_115 (by decide +kernel) ?_
        refine lv_icmp_ge (tgt := 157) hx hb dX12_countFor_117 (by decide +kernel) (fun c_59 => ?_) (fun c_59 => ?_)
        ·
          have i_59 : k113_6.toInt ≥ 32 := g5_ge (a := k113_6.toInt) (b := 32) rfl (by decide +kernel) c_59
          refine lv_iinc (v := (k49_5 + 1)) (lv' := [(5, .int (k49_5 + 1)), (6, .int k113_6), (0, .ref b_o), (1, .int p_1), (2, .int p_2), (3, .int p_3), (4, .int p_4)]) hx hb dX12_countFor_157 hl (k := 1) rfl rfl (by decide +kernel) rfl ?_
          clear hl
          intro ls hl
          have t_60 : (k49_5 + 1).toInt = k49_5.toInt + 1 := g5_iadd (a := k49_5.toInt) (b := 1) rfl (by decide +kernel) (by omega) (by omega)
          refine lv_goto (tgt := 49) hx hb dX12_countFor_160 (by decide +kernel) ?_
          exact ih_49_32 ((k49_5 + 1), k49_ah, k113_be) ls H locs (show Int.toNat (64 - (k49_5 + 1).toInt) < Int.toNat (64 - k49_5.toInt) from g_up (show k49_5.toInt < (k49_5 + 1).toInt by omega) (show k49_5.toInt < 64 by omega)) ⟨lv_sub hl [0, 2, 3, 4, 5, 6] rfl, hP, hD, hS, ⟨by omega, by omega⟩, i_31⟩
        ·
          have i_59 : k113_6.toInt < 32 := g5_geN (a := k113_6.toInt) (b := 32) rfl (by decide +kernel) c_59
          refine lv_aload_n hx hb dX12_countFor_120 rfl (lv_at hl 2 rfl) ?_
          refine va_get (D := G.1) (ci := 12) (v := .ref b_be) (C := RX12) (T := TX12) (N := 52) hx hb hts inG_X12 hown hK hP 2 rfl rfl 44 (by decide +kernel) (hts _ fl_X12_92) (fun _ h9 => h9) rfl dX12_countFor_121 ?_
          refine lv_bipush (v := 32) hx hb dX12_countFor_124 (by decide +kernel) ?_
          refine lv_sipush (v := 1472) hx hb dX12_countFor_126 (by decide +kernel) ?_
          refine W.eq (g2 := F0 m 129 ls [.int 1472, .int 32, .ref b_be]) rfl ?_
          refine lv_iload hx hb dX12_countFor_129 (lv_at hl 1 rfl) ?_
          refine lv_iadd hx hb dX12_countFor_131 ?_
          have t_61 : (1472 + k49_5).toInt = 1472 + k49_5.toInt := g5_iadd (a := 1472) (b := k49_5.toInt) (by decide +kernel) (by rfl) (by omega) (by omega)
          refine lv_imul hx hb dX12_countFor_132 ?_
          have t_62 : (32 * (1472 + k49_5)).toInt = 32 * (1472 + k49_5).toInt := g5_imul (a := 32) (b := (1472 + k49_5).toInt) (by decide +kernel) (by rfl) (by omega) (by omega)
          refine lv_iload hx hb dX12_countFor_133 (lv_at hl 0 rfl) ?_
          refine lv_iadd hx hb dX12_countFor_135 ?_
          have t_63 : ((32 * (1472 + k49_5)) + k113_6).toInt = (32 * (1472 + k49_5)).toInt + k113_6.toInt := g5_iadd (a := (32 * (1472 + k49_5)).toInt) (b := k113_6.toInt) (by rfl) (by rfl) (by omega) (by omega)
          refine W.eq (g2 := F0 m 136 ls [.int ((32 * (1472 + k49_5)) + k113_6), .ref b_be]) rfl ?_
          refine lv_iload hx hb dX12_countFor_136 (lv_at hl 0 rfl) ?_
          refine lv_aload_n hx hb dX12_countFor_138 rfl (lv_at hl 2 rfl) ?_
          refine va_get (D := G.1) (ci := 12) (v := .int z21) (C := RX12) (T := TX12) (N := 52) hx hb hts inG_X12 hown hK hP 2 rfl rfl 46 (by decide +kernel) (hts _ fl_X12_422) (fun _ h9 => h9) rfl dX12_countFor_139 ?_
          refine lv_icmp_ne (tgt := 149) hx hb dX12_countFor_142 (by decide +kernel) (fun c_64 => ?_) (fun c_64 => ?_)
          ·
            have n_64 : gNe (k113_6.toInt) (z21.toInt) := g5_ne (a := k113_6.toInt) (b := z21.toInt) rfl rfl c_64
            refine lv_lconst (v := 0) hx hb dX12_countFor_149 (by decide +kernel) ?_
            refine va_last hx hb hK hP hD hS 1 1 rfl rfl (i := ((32 * (1472 + k49_5)) + k113_6)) (x := 0) (vp_in_iff.mpr ⟨by omega, by omega⟩) dX12_countFor_150 ?_
            clear hP hD hS
            intro H locs hP hD hS
            refine g5_rs [(b_ah, (arJ G 49152 k49_ah)), (b_be, (arJ G 49152 (vp_updL k113_be ((32 * (1472 + k49_5)) + k113_6).toNatClampNeg 0))), (b_o, (oc12 u_th u_sa b_rf b_ro b_im b_ke u_fd b_tp u_td u_fr u_to u_so u_wo u_fa u_bd u_nc b_nl u_co b_op b_ar u_le b_pi b_pa u_pd u_od b_ws b_hw z10 b_se b_re z11 z12 z13 z14 z15 z16 z17 z18 b_pt z19 z20 b_ip 0 b_ah b_be b_me z21 b_tr b_ld u_st b_wn u_id)), (b_ro, (arI G 5740 v_ro)), (b_se, (arJ G 13 z22)), (b_re, (arJ G 400 z23)), (b_pt, (arI G 200 z24)), (b_me, (arI G 1536 z25))] hP hD ?_
            clear hP hD
            intro hP hD
            refine lv_iinc (v := (k113_6 + 1)) (lv' := [(6, .int (k113_6 + 1)), (5, .int k49_5), (0, .ref b_o), (1, .int p_1), (2, .int p_2), (3, .int p_3), (4, .int p_4)]) hx hb dX12_countFor_151 hl (k := 0) rfl rfl (by decide +kernel) rfl ?_
            clear hl
            intro ls hl
            have t_65 : (k113_6 + 1).toInt = k113_6.toInt + 1 := g5_iadd (a := k113_6.toInt) (b := 1) rfl (by decide +kernel) (by omega) (by omega)
            refine lv_goto (tgt := 113) hx hb dX12_countFor_154 (by decide +kernel) ?_
            exact ih_113_58 ((k113_6 + 1), (vp_updL k113_be ((32 * (1472 + k49_5)) + k113_6).toNatClampNeg 0)) ls H locs (show Int.toNat (32 - (k113_6 + 1).toInt) < Int.toNat (32 - k113_6.toInt) from g_up (show k113_6.toInt < (k113_6 + 1).toInt by omega) (show k113_6.toInt < 32 by omega)) ⟨lv_sub hl [0, 1, 2, 3, 4, 5, 6] rfl, hP, hD, hS, ⟨by omega, by omega⟩⟩
          ·
            have i_64 : k113_6.toInt = z21.toInt := g5_neN (a := k113_6.toInt) (b := z21.toInt) rfl rfl c_64
            refine lv_lconst (v := 1) hx hb dX12_countFor_145 (by decide +kernel) ?_
            refine lv_goto (tgt := 150) hx hb dX12_countFor_146 (by decide +kernel) ?_
            refine va_last hx hb hK hP hD hS 1 1 rfl rfl (i := ((32 * (1472 + k49_5)) + k113_6)) (x := 1) (vp_in_iff.mpr ⟨by omega, by omega⟩) dX12_countFor_150 ?_
            clear hP hD hS
            intro H locs hP hD hS
            refine g5_rs [(b_ah, (arJ G 49152 k49_ah)), (b_be, (arJ G 49152 (vp_updL k113_be ((32 * (1472 + k49_5)) + k113_6).toNatClampNeg 1))), (b_o, (oc12 u_th u_sa b_rf b_ro b_im b_ke u_fd b_tp u_td u_fr u_to u_so u_wo u_fa u_bd u_nc b_nl u_co b_op b_ar u_le b_pi b_pa u_pd u_od b_ws b_hw z10 b_se b_re z11 z12 z13 z14 z15 z16 z17 z18 b_pt z19 z20 b_ip 0 b_ah b_be b_me z21 b_tr b_ld u_st b_wn u_id)), (b_ro, (arI G 5740 v_ro)), (b_se, (arJ G 13 z22)), (b_re, (arJ G 400 z23)), (b_pt, (arI G 200 z24)), (b_me, (arI G 1536 z25))] hP hD ?_
            clear hP hD
            intro hP hD
            refine lv_iinc (v := (k113_6 + 1)) (lv' := [(6, .int (k113_6 + 1)), (5, .int k49_5), (0, .ref b_o), (1, .int p_1), (2, .int p_2), (3, .int p_3), (4, .int p_4)]) hx hb dX12_countFor_151 hl (k := 0) rfl rfl (by decide +kernel) rfl ?_
            clear hl
            intro ls hl
            have t_66 : (k113_6 + 1).toInt = k113_6.toInt + 1 := g5_iadd (a := k113_6.toInt) (b := 1) rfl (by decide +kernel) (by omega) (by omega)
            refine W.eq (g2 := F0 m 154 ls []) rfl ?_
            refine lv_goto (tgt := 113) hx hb dX12_countFor_154 (by decide +kernel) ?_
            exact ih_113_58 ((k113_6 + 1), (vp_updL k113_be ((32 * (1472 + k49_5)) + k113_6).toNatClampNeg 1)) ls H locs (show Int.toNat (32 - (k113_6 + 1).toInt) < Int.toNat (32 - k113_6.toInt) from g_up (show k113_6.toInt < (k113_6 + 1).toInt by omega) (show k113_6.toInt < 32 by omega)) ⟨lv_sub hl [0, 1, 2, 3, 4, 5, 6] rfl, hP, hD, hS, ⟨by omega, by omega⟩⟩
      ·
        have i_56 : (z25 k49_5.toNatClampNeg).toInt < 64 := g5_geN (a := (z25 k49_5.toNatClampNeg).toInt) (b := 64) rfl (by decide +kernel) c_56
        refine lv_aload_n hx hb dX12_countFor_68 rfl (lv_at hl 1 rfl) ?_
        refine va_get (D := G.1) (ci := 12) (v := .ref b_ro) (C := RX12) (T := TX12) (N := 52) hx hb hts inG_X12 hown hK hP 2 rfl rfl 3 (by decide +kernel) (hts _ fl_X12_13) (fun _ h9 => h9) rfl dX12_countFor_69 ?_
        refine lv_bipush (v := 6) hx hb dX12_countFor_72 (by decide +kernel) ?_
        refine va_iald hx hb hK hP 3 0 rfl rfl (i := 6) (by unfold vp_in; decide) dX12_countFor_74 ?_
        refine g5_ti (v := (v_ro 6)) rfl ?_
        have hr_67 : (-1) ≤ (v_ro 6).toInt ∧ (v_ro 6).toInt ≤ 63 := mi_6 r_ro
        refine W.eq (g2 := F0 m 75 ls [.int (v_ro 6)]) rfl ?_
        refine lv_iconst (v := (-1)) hx hb dX12_countFor_75 (by decide +kernel) ?_
        refine lv_icmp_eq (tgt := 91) hx hb dX12_countFor_76 (by decide +kernel) (fun c_68 => ?_) (fun c_68 => ?_)
        ·
          have i_68 : (v_ro 6).toInt = (-1) := g5_eq (a := (v_ro 6).toInt) (b := (-1)) rfl (by decide +kernel) c_68
          refine lv_aload_n hx hb dX12_countFor_91 rfl (lv_at hl 1 rfl) ?_
          refine va_get (D := G.1) (ci := 12) (v := .ref b_ah) (C := RX12) (T := TX12) (N := 52) hx hb hts inG_X12 hown hK hP 2 rfl rfl 43 (by decide +kernel) (hts _ fl_X12_89) (fun _ h9 => h9) rfl dX12_countFor_92 ?_
          refine lv_bipush (v := 32) hx hb dX12_countFor_95 (by decide +kernel) ?_
          refine lv_iload hx hb dX12_countFor_97 (lv_at hl 0 rfl) ?_
          refine W.eq (g2 := F0 m 99 ls [.int k49_5, .int 32, .ref b_ah]) rfl ?_
          refine lv_imul hx hb dX12_countFor_99 ?_
          have t_69 : (32 * k49_5).toInt = 32 * k49_5.toInt := g5_imul (a := 32) (b := k49_5.toInt) (by decide +kernel) (by rfl) (by omega) (by omega)
          refine lv_aload_n hx hb dX12_countFor_100 rfl (lv_at hl 1 rfl) ?_
          refine va_get (D := G.1) (ci := 12) (v := .ref b_me) (C := RX12) (T := TX12) (N := 52) hx hb hts inG_X12 hown hK hP 2 rfl rfl 45 (by decide +kernel) (hts _ fl_X12_95) (fun _ h9 => h9) rfl dX12_countFor_101 ?_
          refine lv_iload hx hb dX12_countFor_104 (lv_at hl 0 rfl) ?_
          refine va_iald hx hb hK hP 7 0 rfl rfl (i := k49_5) (vp_in_iff.mpr ⟨by omega, by omega⟩) dX12_countFor_106 ?_
          have hr_70 : 0 ≤ (z25 k49_5.toNatClampNeg).toInt ∧ ((z25 k49_5.toNatClampNeg).toInt < 32 ∨ 64 ≤ (z25 k49_5.toNatClampNeg).toInt) ∧ (z25 k49_5.toNatClampNeg).toInt ≤ 127 := i_9 (k49_5.toNatClampNeg)
          refine W.eq (g2 := F0 m 107 ls [.int (z25 k49_5.toNatClampNeg), .int (32 * k49_5), .ref b_ah]) rfl ?_
          refine lv_iadd hx hb dX12_countFor_107 ?_
          have t_71 : ((32 * k49_5) + (z25 k49_5.toNatClampNeg)).toInt = (32 * k49_5).toInt + (z25 k49_5.toNatClampNeg).toInt := g5_iadd (a := (32 * k49_5).toInt) (b := (z25 k49_5.toNatClampNeg).toInt) (by rfl) (by rfl) (by omega) (by omega)
          refine lv_lconst (v := 1) hx hb dX12_countFor_108 (by decide +kernel) ?_
          refine va_last hx hb hK hP hD hS 0 1 rfl rfl (i := ((32 * k49_5) + (z25 k49_5.toNatClampNeg))) (x := 1) (vp_in_iff.mpr ⟨by omega, by omega⟩) dX12_countFor_109 ?_
          clear hP hD hS
          intro H locs hP hD hS
          refine g5_rs [(b_ah, (arJ G 49152 (vp_updL k49_ah ((32 * k49_5) + (z25 k49_5.toNatClampNeg)).toNatClampNeg 1))), (b_be, (arJ G 49152 k49_be)), (b_o, (oc12 u_th u_sa b_rf b_ro b_im b_ke u_fd b_tp u_td u_fr u_to u_so u_wo u_fa u_bd u_nc b_nl u_co b_op b_ar u_le b_pi b_pa u_pd u_od b_ws b_hw z10 b_se b_re z11 z12 z13 z14 z15 z16 z17 z18 b_pt z19 z20 b_ip 0 b_ah b_be b_me z21 b_tr b_ld u_st b_wn u_id)), (b_ro, (arI G 5740 v_ro)), (b_se, (arJ G 13 z22)), (b_re, (arJ G 400 z23)), (b_pt, (arI G 200 z24)), (b_me, (arI G 1536 z25))] hP hD ?_
          clear hP hD
          intro hP hD
          refine lv_iconst (v := 0) hx hb dX12_countFor_110 (by decide +kernel) ?_
          refine lv_istore (lv' := [(6, .int 0), (5, .int k49_5), (0, .ref b_o), (1, .int p_1), (2, .int p_2), (3, .int p_3), (4, .int p_4)]) hx hb dX12_countFor_111 hl (by decide +kernel) rfl ?_
          clear hl
          intro ls hl
          refine g5_loop (α := (Int32) × (Nat → Int64)) (fun (q : (Int32) × (Nat → Int64)) (ls : Array Slot) (H : Heap) (locs : List Loc) => match q with | (k113_6, k113_be) => lv_has ls 7 [(6, .int k113_6), (5, .int k49_5), (0, .ref b_o), (1, .int p_1), (2, .int p_2), (3, .int p_3), (4, .int p_4)] ∧ va_P G.1 vwCl [(b_ah, (arJ G 49152 (vp_updL k49_ah ((32 * k49_5) + (z25 k49_5.toNatClampNeg)).toNatClampNeg 1))), (b_be, (arJ G 49152 k113_be)), (b_o, (oc12 u_th u_sa b_rf b_ro b_im b_ke u_fd b_tp u_td u_fr u_to u_so u_wo u_fa u_bd u_nc b_nl u_co b_op b_ar u_le b_pi b_pa u_pd u_od b_ws b_hw z10 b_se b_re z11 z12 z13 z14 z15 z16 z17 z18 b_pt z19 z20 b_ip 0 b_ah b_be b_me z21 b_tr b_ld u_st b_wn u_id)), (b_ro, (arI G 5740 v_ro)), (b_se, (arJ G 13 z22)), (b_re, (arJ G 400 z23)), (b_pt, (arI G 200 z24)), (b_me, (arI G 1536 z25))] H ∧ va_D A [(b_ah, (arJ G 49152 (vp_updL k49_ah ((32 * k49_5) + (z25 k49_5.toNatClampNeg)).toNatClampNeg 1))), (b_be, (arJ G 49152 k113_be)), (b_o, (oc12 u_th u_sa b_rf b_ro b_im b_ke u_fd b_tp u_td u_fr u_to u_so u_wo u_fa u_bd u_nc b_nl u_co b_op b_ar u_le b_pi b_pa u_pd u_od b_ws b_hw z10 b_se b_re z11 z12 z13 z14 z15 z16 z17 z18 b_pt z19 z20 b_ip 0 b_ah b_be b_me z21 b_tr b_ld u_st b_wn u_id)), (b_ro, (arI G 5740 v_ro)), (b_se, (arJ G 13 z22)), (b_re, (arJ G 400 z23)), (b_pt, (arI G 200 z24)), (b_me, (arI G 1536 z25))] ∧ va_S A s.heap H locs ∧ (0 ≤ k113_6.toInt ∧ k113_6.toInt ≤ 32)) (fun (q : (Int32) × (Nat → Int64)) => match q with | (k113_6, k113_be) => Int.toNat (32 - k113_6.toInt)) (0, k49_be) ⟨lv_sub hl [0, 1, 2, 3, 4, 5, 6] rfl, hP, hD, hS, ⟨by decide, by decide⟩⟩ ?_
          rintro ⟨k113_6, k113_be⟩ ls H locs ⟨hl, hP, hD, hS, (i_72 : 0 ≤ k113_6.toInt ∧ k113_6.toInt ≤ 32)⟩ ih_113_73
          replace hl : lv_has ls 7 [(6, .int k113_6), (5, .int k49_5), (0, .ref b_o), (1, .int p_1), (2, .int p_2), (3, .int p_3), (4, .int p_4)] := hl
          refine g5_rs [(b_ah, (arJ G 49152 (vp_updL k49_ah ((32 * k49_5) + (z25 k49_5.toNatClampNeg)).toNatClampNeg 1))), (b_be, (arJ G 49152 k113_be)), (b_o, (oc12 u_th u_sa b_rf b_ro b_im b_ke u_fd b_tp u_td u_fr u_to u_so u_wo u_fa u_bd u_nc b_nl u_co b_op b_ar u_le b_pi b_pa u_pd u_od b_ws b_hw z10 b_se b_re z11 z12 z13 z14 z15 z16 z17 z18 b_pt z19 z20 b_ip 0 b_ah b_be b_me z21 b_tr b_ld u_st b_wn u_id)), (b_ro, (arI G 5740 v_ro)), (b_se, (arJ G 13 z22)), (b_re, (arJ G 400 z23)), (b_pt, (arI G 200 z24)), (b_me, (arI G 1536 z25))] hP hD ?_
          clear hP hD
          intro hP hD
          refine lv_iload hx hb dX12_countFor_113 (lv_at hl 0 rfl) ?_
          refine lv_bipush (v := 32) hx hb dX12_countFor_115 (by decide +kernel) ?_
          refine lv_icmp_ge (tgt := 157) hx hb dX12_countFor_117 (by decide +kernel) (fun c_74 => ?_) (fun c_74 => ?_)
          ·
            have i_74 : k113_6.toInt ≥ 32 := g5_ge (a := k113_6.toInt) (b := 32) rfl (by decide +kernel) c_74
            refine lv_iinc (v := (k49_5 + 1)) (lv' := [(5, .int (k49_5 + 1)), (6, .int k113_6), (0, .ref b_o), (1, .int p_1), (2, .int p_2), (3, .int p_3), (4, .int p_4)]) hx hb dX12_countFor_157 hl (k := 1) rfl rfl (by decide +kernel) rfl ?_
            clear hl
            intro ls hl
            have t_75 : (k49_5 + 1).toInt = k49_5.toInt + 1 := g5_iadd (a := k49_5.toInt) (b := 1) rfl (by decide +kernel) (by omega) (by omega)
            refine lv_goto (tgt := 49) hx hb dX12_countFor_160 (by decide +kernel) ?_
            exact ih_49_32 ((k49_5 + 1), (vp_updL k49_ah ((32 * k49_5) + (z25 k49_5.toNatClampNeg)).toNatClampNeg 1), k113_be) ls H locs (show Int.toNat (64 - (k49_5 + 1).toInt) < Int.toNat (64 - k49_5.toInt) from g_up (show k49_5.toInt < (k49_5 + 1).toInt by omega) (show k49_5.toInt < 64 by omega)) ⟨lv_sub hl [0, 2, 3, 4, 5, 6] rfl, hP, hD, hS, ⟨by omega, by omega⟩, ah0_set (c := k49_5) i_31 (by omega) ⟨by omega, by omega⟩ (by omega)⟩
          ·
            have i_74 : k113_6.toInt < 32 := g5_geN (a := k113_6.toInt) (b := 32) rfl (by decide +kernel) c_74
            refine lv_aload_n hx hb dX12_countFor_120 rfl (lv_at hl 2 rfl) ?_
            refine va_get (D := G.1) (ci := 12) (v := .ref b_be) (C := RX12) (T := TX12) (N := 52) hx hb hts inG_X12 hown hK hP 2 rfl rfl 44 (by decide +kernel) (hts _ fl_X12_92) (fun _ h9 => h9) rfl dX12_countFor_121 ?_
            refine lv_bipush (v := 32) hx hb dX12_countFor_124 (by decide +kernel) ?_
            refine lv_sipush (v := 1472) hx hb dX12_countFor_126 (by decide +kernel) ?_
            refine W.eq (g2 := F0 m 129 ls [.int 1472, .int 32, .ref b_be]) rfl ?_
            refine lv_iload hx hb dX12_countFor_129 (lv_at hl 1 rfl) ?_
            refine lv_iadd hx hb dX12_countFor_131 ?_
            have t_76 : (1472 + k49_5).toInt = 1472 + k49_5.toInt := g5_iadd (a := 1472) (b := k49_5.toInt) (by decide +kernel) (by rfl) (by omega) (by omega)
            refine lv_imul hx hb dX12_countFor_132 ?_
            have t_77 : (32 * (1472 + k49_5)).toInt = 32 * (1472 + k49_5).toInt := g5_imul (a := 32) (b := (1472 + k49_5).toInt) (by decide +kernel) (by rfl) (by omega) (by omega)
            refine lv_iload hx hb dX12_countFor_133 (lv_at hl 0 rfl) ?_
            refine lv_iadd hx hb dX12_countFor_135 ?_
            have t_78 : ((32 * (1472 + k49_5)) + k113_6).toInt = (32 * (1472 + k49_5)).toInt + k113_6.toInt := g5_iadd (a := (32 * (1472 + k49_5)).toInt) (b := k113_6.toInt) (by rfl) (by rfl) (by omega) (by omega)
            refine W.eq (g2 := F0 m 136 ls [.int ((32 * (1472 + k49_5)) + k113_6), .ref b_be]) rfl ?_
            refine lv_iload hx hb dX12_countFor_136 (lv_at hl 0 rfl) ?_
            refine lv_aload_n hx hb dX12_countFor_138 rfl (lv_at hl 2 rfl) ?_
            refine va_get (D := G.1) (ci := 12) (v := .int z21) (C := RX12) (T := TX12) (N := 52) hx hb hts inG_X12 hown hK hP 2 rfl rfl 46 (by decide +kernel) (hts _ fl_X12_422) (fun _ h9 => h9) rfl dX12_countFor_139 ?_
            refine lv_icmp_ne (tgt := 149) hx hb dX12_countFor_142 (by decide +kernel) (fun c_79 => ?_) (fun c_79 => ?_)
            ·
              have n_79 : gNe (k113_6.toInt) (z21.toInt) := g5_ne (a := k113_6.toInt) (b := z21.toInt) rfl rfl c_79
              refine lv_lconst (v := 0) hx hb dX12_countFor_149 (by decide +kernel) ?_
              refine va_last hx hb hK hP hD hS 1 1 rfl rfl (i := ((32 * (1472 + k49_5)) + k113_6)) (x := 0) (vp_in_iff.mpr ⟨by omega, by omega⟩) dX12_countFor_150 ?_
              clear hP hD hS
              intro H locs hP hD hS
              refine g5_rs [(b_ah, (arJ G 49152 (vp_updL k49_ah ((32 * k49_5) + (z25 k49_5.toNatClampNeg)).toNatClampNeg 1))), (b_be, (arJ G 49152 (vp_updL k113_be ((32 * (1472 + k49_5)) + k113_6).toNatClampNeg 0))), (b_o, (oc12 u_th u_sa b_rf b_ro b_im b_ke u_fd b_tp u_td u_fr u_to u_so u_wo u_fa u_bd u_nc b_nl u_co b_op b_ar u_le b_pi b_pa u_pd u_od b_ws b_hw z10 b_se b_re z11 z12 z13 z14 z15 z16 z17 z18 b_pt z19 z20 b_ip 0 b_ah b_be b_me z21 b_tr b_ld u_st b_wn u_id)), (b_ro, (arI G 5740 v_ro)), (b_se, (arJ G 13 z22)), (b_re, (arJ G 400 z23)), (b_pt, (arI G 200 z24)), (b_me, (arI G 1536 z25))] hP hD ?_
              clear hP hD
              intro hP hD
              refine lv_iinc (v := (k113_6 + 1)) (lv' := [(6, .int (k113_6 + 1)), (5, .int k49_5), (0, .ref b_o), (1, .int p_1), (2, .int p_2), (3, .int p_3), (4, .int p_4)]) hx hb dX12_countFor_151 hl (k := 0) rfl rfl (by decide +kernel) rfl ?_
              clear hl
              intro ls hl
              have t_80 : (k113_6 + 1).toInt = k113_6.toInt + 1 := g5_iadd (a := k113_6.toInt) (b := 1) rfl (by decide +kernel) (by omega) (by omega)
              refine lv_goto (tgt := 113) hx hb dX12_countFor_154 (by decide +kernel) ?_
              exact ih_113_73 ((k113_6 + 1), (vp_updL k113_be ((32 * (1472 + k49_5)) + k113_6).toNatClampNeg 0)) ls H locs (show Int.toNat (32 - (k113_6 + 1).toInt) < Int.toNat (32 - k113_6.toInt) from g_up (show k113_6.toInt < (k113_6 + 1).toInt by omega) (show k113_6.toInt < 32 by omega)) ⟨lv_sub hl [0, 1, 2, 3, 4, 5, 6] rfl, hP, hD, hS, ⟨by omega, by omega⟩⟩
            ·
              have i_79 : k113_6.toInt = z21.toInt := g5_neN (a := k113_6.toInt) (b := z21.toInt) rfl rfl c_79
              refine lv_lconst (v := 1) hx hb dX12_countFor_145 (by decide +kernel) ?_
              refine lv_goto (tgt := 150) hx hb dX12_countFor_146 (by decide +kernel) ?_
              refine va_last hx hb hK hP hD hS 1 1 rfl rfl (i := ((32 * (1472 + k49_5)) + k113_6)) (x := 1) (vp_in_iff.mpr ⟨by omega, by omega⟩) dX12_countFor_150 ?_
              clear hP hD hS
              intro H locs hP hD hS
              refine g5_rs [(b_ah, (arJ G 49152 (vp_updL k49_ah ((32 * k49_5) + (z25 k49_5.toNatClampNeg)).toNatClampNeg 1))), (b_be, (arJ G 49152 (vp_updL k113_be ((32 * (1472 + k49_5)) + k113_6).toNatClampNeg 1))), (b_o, (oc12 u_th u_sa b_rf b_ro b_im b_ke u_fd b_tp u_td u_fr u_to u_so u_wo u_fa u_bd u_nc b_nl u_co b_op b_ar u_le b_pi b_pa u_pd u_od b_ws b_hw z10 b_se b_re z11 z12 z13 z14 z15 z16 z17 z18 b_pt z19 z20 b_ip 0 b_ah b_be b_me z21 b_tr b_ld u_st b_wn u_id)), (b_ro, (arI G 5740 v_ro)), (b_se, (arJ G 13 z22)), (b_re, (arJ G 400 z23)), (b_pt, (arI G 200 z24)), (b_me, (arI G 1536 z25))] hP hD ?_
              clear hP hD
              intro hP hD
              refine lv_iinc (v := (k113_6 + 1)) (lv' := [(6, .int (k113_6 + 1)), (5, .int k49_5), (0, .ref b_o), (1, .int p_1), (2, .int p_2), (3, .int p_3), (4, .int p_4)]) hx hb dX12_countFor_151 hl (k := 0) rfl rfl (by decide +kernel) rfl ?_
              clear hl
              intro ls hl
              have t_81 : (k113_6 + 1).toInt = k113_6.toInt + 1 := g5_iadd (a := k113_6.toInt) (b := 1) rfl (by decide +kernel) (by omega) (by omega)
              refine W.eq (g2 := F0 m 154 ls []) rfl ?_
              refine lv_goto (tgt := 113) hx hb dX12_countFor_154 (by decide +kernel) ?_
              exact ih_113_73 ((k113_6 + 1), (vp_updL k113_be ((32 * (1472 + k49_5)) + k113_6).toNatClampNeg 1)) ls H locs (show Int.toNat (32 - (k113_6 + 1).toInt) < Int.toNat (32 - k113_6.toInt) from g_up (show k113_6.toInt < (k113_6 + 1).toInt by omega) (show k113_6.toInt < 32 by omega)) ⟨lv_sub hl [0, 1, 2, 3, 4, 5, 6] rfl, hP, hD, hS, ⟨by omega, by omega⟩⟩
        ·
          have n_68 : gNe ((v_ro 6).toInt) ((-1)) := g5_eqN (a := (v_ro 6).toInt) (b := (-1)) rfl (by decide +kernel) c_68
          have i_68 : (v_ro 6).toInt ≥ 0 := by have z := g5_eqN (a := (v_ro 6).toInt) (b := (-1)) (by rfl) (by decide +kernel) c_68; omega
          refine lv_aload_n hx hb dX12_countFor_79 rfl (lv_at hl 1 rfl) ?_
          refine va_get (D := G.1) (ci := 12) (v := .ref b_ro) (C := RX12) (T := TX12) (N := 52) hx hb hts inG_X12 hown hK hP 2 rfl rfl 3 (by decide +kernel) (hts _ fl_X12_13) (fun _ h9 => h9) rfl dX12_countFor_80 ?_
          refine lv_bipush (v := 6) hx hb dX12_countFor_83 (by decide +kernel) ?_
          refine va_iald hx hb hK hP 3 0 rfl rfl (i := 6) (by unfold vp_in; decide) dX12_countFor_85 ?_
          refine g5_ti (v := (v_ro 6)) rfl ?_
          have hr_82 : (-1) ≤ (v_ro 6).toInt ∧ (v_ro 6).toInt ≤ 63 := mi_6 r_ro
          refine W.eq (g2 := F0 m 86 ls [.int (v_ro 6)]) rfl ?_
          refine lv_iload hx hb dX12_countFor_86 (lv_at hl 0 rfl) ?_
          refine lv_icmp_ne (tgt := 110) hx hb dX12_countFor_88 (by decide +kernel) (fun c_83 => ?_) (fun c_83 => ?_)
          ·
            have n_83 : gNe ((v_ro 6).toInt) (k49_5.toInt) := g5_ne (a := (v_ro 6).toInt) (b := k49_5.toInt) rfl rfl c_83
            refine lv_iconst (v := 0) hx hb dX12_countFor_110 (by decide +kernel) ?_
            refine lv_istore (lv' := [(6, .int 0), (5, .int k49_5), (0, .ref b_o), (1, .int p_1), (2, .int p_2), (3, .int p_3), (4, .int p_4)]) hx hb dX12_countFor_111 hl (by decide +kernel) rfl ?_
            clear hl
            intro ls hl
            refine g5_loop (α := (Int32) × (Nat → Int64)) (fun (q : (Int32) × (Nat → Int64)) (ls : Array Slot) (H : Heap) (locs : List Loc) => match q with | (k113_6, k113_be) => lv_has ls 7 [(6, .int k113_6), (5, .int k49_5), (0, .ref b_o), (1, .int p_1), (2, .int p_2), (3, .int p_3), (4, .int p_4)] ∧ va_P G.1 vwCl [(b_ah, (arJ G 49152 k49_ah)), (b_be, (arJ G 49152 k113_be)), (b_o, (oc12 u_th u_sa b_rf b_ro b_im b_ke u_fd b_tp u_td u_fr u_to u_so u_wo u_fa u_bd u_nc b_nl u_co b_op b_ar u_le b_pi b_pa u_pd u_od b_ws b_hw z10 b_se b_re z11 z12 z13 z14 z15 z16 z17 z18 b_pt z19 z20 b_ip 0 b_ah b_be b_me z21 b_tr b_ld u_st b_wn u_id)), (b_ro, (arI G 5740 v_ro)), (b_se, (arJ G 13 z22)), (b_re, (arJ G 400 z23)), (b_pt, (arI G 200 z24)), (b_me, (arI G 1536 z25))] H ∧ va_D A [(b_ah, (arJ G 49152 k49_ah)), (b_be, (arJ G 49152 k113_be)), (b_o, (oc12 u_th u_sa b_rf b_ro b_im b_ke u_fd b_tp u_td u_fr u_to u_so u_wo u_fa u_bd u_nc b_nl u_co b_op b_ar u_le b_pi b_pa u_pd u_od b_ws b_hw z10 b_se b_re z11 z12 z13 z14 z15 z16 z17 z18 b_pt z19 z20 b_ip 0 b_ah b_be b_me z21 b_tr b_ld u_st b_wn u_id)), (b_ro, (arI G 5740 v_ro)), (b_se, (arJ G 13 z22)), (b_re, (arJ G 400 z23)), (b_pt, (arI G 200 z24)), (b_me, (arI G 1536 z25))] ∧ va_S A s.heap H locs ∧ (0 ≤ k113_6.toInt ∧ k113_6.toInt ≤ 32)) (fun (q : (Int32) × (Nat → Int64)) => match q with | (k113_6, k113_be) => Int.toNat (32 - k113_6.toInt)) (0, k49_be) ⟨lv_sub hl [0, 1, 2, 3, 4, 5, 6] rfl, hP, hD, hS, ⟨by decide, by decide⟩⟩ ?_
            rintro ⟨k113_6, k113_be⟩ ls H locs ⟨hl, hP, hD, hS, (i_84 : 0 ≤ k113_6.toInt ∧ k113_6.toInt ≤ 32)⟩ ih_113_85
            replace hl : lv_has ls 7 [(6, .int k113_6), (5, .int k49_5), (0, .ref b_o), (1, .int p_1), (2, .int p_2), (3, .int p_3), (4, .int p_4)] := hl
            refine g5_rs [(b_ah, (arJ G 49152 k49_ah)), (b_be, (arJ G 49152 k113_be)), (b_o, (oc12 u_th u_sa b_rf b_ro b_im b_ke u_fd b_tp u_td u_fr u_to u_so u_wo u_fa u_bd u_nc b_nl u_co b_op b_ar u_le b_pi b_pa u_pd u_od b_ws b_hw z10 b_se b_re z11 z12 z13 z14 z15 z16 z17 z18 b_pt z19 z20 b_ip 0 b_ah b_be b_me z21 b_tr b_ld u_st b_wn u_id)), (b_ro, (arI G 5740 v_ro)), (b_se, (arJ G 13 z22)), (b_re, (arJ G 400 z23)), (b_pt, (arI G 200 z24)), (b_me, (arI G 1536 z25))] hP hD ?_
            clear hP hD
            intro hP hD
            refine lv_iload hx hb dX12_countFor_113 (lv_at hl 0 rfl) ?_
            refine lv_bipush (v := 32) hx hb dX12_countFor_115 (by decide +kernel) ?_
            refine lv_icmp_ge (tgt := 157) hx hb dX12_countFor_117 (by decide +kernel) (fun c_86 => ?_) (fun c_86 => ?_)
            ·
              have i_86 : k113_6.toInt ≥ 32 := g5_ge (a := k113_6.toInt) (b := 32) rfl (by decide +kernel) c_86
              refine lv_iinc (v := (k49_5 + 1)) (lv' := [(5, .int (k49_5 + 1)), (6, .int k113_6), (0, .ref b_o), (1, .int p_1), (2, .int p_2), (3, .int p_3), (4, .int p_4)]) hx hb dX12_countFor_157 hl (k := 1) rfl rfl (by decide +kernel) rfl ?_
              clear hl
              intro ls hl
              have t_87 : (k49_5 + 1).toInt = k49_5.toInt + 1 := g5_iadd (a := k49_5.toInt) (b := 1) rfl (by decide +kernel) (by omega) (by omega)
              refine lv_goto (tgt := 49) hx hb dX12_countFor_160 (by decide +kernel) ?_
              exact ih_49_32 ((k49_5 + 1), k49_ah, k113_be) ls H locs (show Int.toNat (64 - (k49_5 + 1).toInt) < Int.toNat (64 - k49_5.toInt) from g_up (show k49_5.toInt < (k49_5 + 1).toInt by omega) (show k49_5.toInt < 64 by omega)) ⟨lv_sub hl [0, 2, 3, 4, 5, 6] rfl, hP, hD, hS, ⟨by omega, by omega⟩, i_31⟩
            ·
              have i_86 : k113_6.toInt < 32 := g5_geN (a := k113_6.toInt) (b := 32) rfl (by decide +kernel) c_86
              refine lv_aload_n hx hb dX12_countFor_120 rfl (lv_at hl 2 rfl) ?_
              refine va_get (D := G.1) (ci := 12) (v := .ref b_be) (C := RX12) (T := TX12) (N := 52) hx hb hts inG_X12 hown hK hP 2 rfl rfl 44 (by decide +kernel) (hts _ fl_X12_92) (fun _ h9 => h9) rfl dX12_countFor_121 ?_
              refine lv_bipush (v := 32) hx hb dX12_countFor_124 (by decide +kernel) ?_
              refine lv_sipush (v := 1472) hx hb dX12_countFor_126 (by decide +kernel) ?_
              refine W.eq (g2 := F0 m 129 ls [.int 1472, .int 32, .ref b_be]) rfl ?_
              refine lv_iload hx hb dX12_countFor_129 (lv_at hl 1 rfl) ?_
              refine lv_iadd hx hb dX12_countFor_131 ?_
              have t_88 : (1472 + k49_5).toInt = 1472 + k49_5.toInt := g5_iadd (a := 1472) (b := k49_5.toInt) (by decide +kernel) (by rfl) (by omega) (by omega)
              refine lv_imul hx hb dX12_countFor_132 ?_
              have t_89 : (32 * (1472 + k49_5)).toInt = 32 * (1472 + k49_5).toInt := g5_imul (a := 32) (b := (1472 + k49_5).toInt) (by decide +kernel) (by rfl) (by omega) (by omega)
              refine lv_iload hx hb dX12_countFor_133 (lv_at hl 0 rfl) ?_
              refine lv_iadd hx hb dX12_countFor_135 ?_
              have t_90 : ((32 * (1472 + k49_5)) + k113_6).toInt = (32 * (1472 + k49_5)).toInt + k113_6.toInt := g5_iadd (a := (32 * (1472 + k49_5)).toInt) (b := k113_6.toInt) (by rfl) (by rfl) (by omega) (by omega)
              refine W.eq (g2 := F0 m 136 ls [.int ((32 * (1472 + k49_5)) + k113_6), .ref b_be]) rfl ?_
              refine lv_iload hx hb dX12_countFor_136 (lv_at hl 0 rfl) ?_
              refine lv_aload_n hx hb dX12_countFor_138 rfl (lv_at hl 2 rfl) ?_
              refine va_get (D := G.1) (ci := 12) (v := .int z21) (C := RX12) (T := TX12) (N := 52) hx hb hts inG_X12 hown hK hP 2 rfl rfl 46 (by decide +kernel) (hts _ fl_X12_422) (fun _ h9 => h9) rfl dX12_countFor_139 ?_
              refine lv_icmp_ne (tgt := 149) hx hb dX12_countFor_142 (by decide +kernel) (fun c_91 => ?_) (fun c_91 => ?_)
              ·
                have n_91 : gNe (k113_6.toInt) (z21.toInt) := g5_ne (a := k113_6.toInt) (b := z21.toInt) rfl rfl c_91
                refine lv_lconst (v := 0) hx hb dX12_countFor_149 (by decide +kernel) ?_
                refine va_last hx hb hK hP hD hS 1 1 rfl rfl (i := ((32 * (1472 + k49_5)) + k113_6)) (x := 0) (vp_in_iff.mpr ⟨by omega, by omega⟩) dX12_countFor_150 ?_
                clear hP hD hS
                intro H locs hP hD hS
                refine g5_rs [(b_ah, (arJ G 49152 k49_ah)), (b_be, (arJ G 49152 (vp_updL k113_be ((32 * (1472 + k49_5)) + k113_6).toNatClampNeg 0))), (b_o, (oc12 u_th u_sa b_rf b_ro b_im b_ke u_fd b_tp u_td u_fr u_to u_so u_wo u_fa u_bd u_nc b_nl u_co b_op b_ar u_le b_pi b_pa u_pd u_od b_ws b_hw z10 b_se b_re z11 z12 z13 z14 z15 z16 z17 z18 b_pt z19 z20 b_ip 0 b_ah b_be b_me z21 b_tr b_ld u_st b_wn u_id)), (b_ro, (arI G 5740 v_ro)), (b_se, (arJ G 13 z22)), (b_re, (arJ G 400 z23)), (b_pt, (arI G 200 z24)), (b_me, (arI G 1536 z25))] hP hD ?_
                clear hP hD
                intro hP hD
                refine lv_iinc (v := (k113_6 + 1)) (lv' := [(6, .int (k113_6 + 1)), (5, .int k49_5), (0, .ref b_o), (1, .int p_1), (2, .int p_2), (3, .int p_3), (4, .int p_4)]) hx hb dX12_countFor_151 hl (k := 0) rfl rfl (by decide +kernel) rfl ?_
                clear hl
                intro ls hl
                have t_92 : (k113_6 + 1).toInt = k113_6.toInt + 1 := g5_iadd (a := k113_6.toInt) (b := 1) rfl (by decide +kernel) (by omega) (by omega)
                refine lv_goto (tgt := 113) hx hb dX12_countFor_154 (by decide +kernel) ?_
                exact ih_113_85 ((k113_6 + 1), (vp_updL k113_be ((32 * (1472 + k49_5)) + k113_6).toNatClampNeg 0)) ls H locs (show Int.toNat (32 - (k113_6 + 1).toInt) < Int.toNat (32 - k113_6.toInt) from g_up (show k113_6.toInt < (k113_6 + 1).toInt by omega) (show k113_6.toInt < 32 by omega)) ⟨lv_sub hl [0, 1, 2, 3, 4, 5, 6] rfl, hP, hD, hS, ⟨by omega, by omega⟩⟩
              ·
                have i_91 : k113_6.toInt = z21.toInt := g5_neN (a := k113_6.toInt) (b := z21.toInt) rfl rfl c_91
                refine lv_lconst (v := 1) hx hb dX12_countFor_145 (by decide +kernel) ?_
                refine lv_goto (tgt := 150) hx hb dX12_countFor_146 (by decide +kernel) ?_
                refine va_last hx hb hK hP hD hS 1 1 rfl rfl (i := ((32 * (1472 + k49_5)) + k113_6)) (x := 1) (vp_in_iff.mpr ⟨by omega, by omega⟩) dX12_countFor_150 ?_
                clear hP hD hS
                intro H locs hP hD hS
                refine g5_rs [(b_ah, (arJ G 49152 k49_ah)), (b_be, (arJ G 49152 (vp_updL k113_be ((32 * (1472 + k49_5)) + k113_6).toNatClampNeg 1))), (b_o, (oc12 u_th u_sa b_rf b_ro b_im b_ke u_fd b_tp u_td u_fr u_to u_so u_wo u_fa u_bd u_nc b_nl u_co b_op b_ar u_le b_pi b_pa u_pd u_od b_ws b_hw z10 b_se b_re z11 z12 z13 z14 z15 z16 z17 z18 b_pt z19 z20 b_ip 0 b_ah b_be b_me z21 b_tr b_ld u_st b_wn u_id)), (b_ro, (arI G 5740 v_ro)), (b_se, (arJ G 13 z22)), (b_re, (arJ G 400 z23)), (b_pt, (arI G 200 z24)), (b_me, (arI G 1536 z25))] hP hD ?_
                clear hP hD
                intro hP hD
                refine lv_iinc (v := (k113_6 + 1)) (lv' := [(6, .int (k113_6 + 1)), (5, .int k49_5), (0, .ref b_o), (1, .int p_1), (2, .int p_2), (3, .int p_3), (4, .int p_4)]) hx hb dX12_countFor_151 hl (k := 0) rfl rfl (by decide +kernel) rfl ?_
                clear hl
                intro ls hl
                have t_93 : (k113_6 + 1).toInt = k113_6.toInt + 1 := g5_iadd (a := k113_6.toInt) (b := 1) rfl (by decide +kernel) (by omega) (by omega)
                refine W.eq (g2 := F0 m 154 ls []) rfl ?_
                refine lv_goto (tgt := 113) hx hb dX12_countFor_154 (by decide +kernel) ?_
                exact ih_113_85 ((k113_6 + 1), (vp_updL k113_be ((32 * (1472 + k49_5)) + k113_6).toNatClampNeg 1)) ls H locs (show Int.toNat (32 - (k113_6 + 1).toInt) < Int.toNat (32 - k113_6.toInt) from g_up (show k113_6.toInt < (k113_6 + 1).toInt by omega) (show k113_6.toInt < 32 by omega)) ⟨lv_sub hl [0, 1, 2, 3, 4, 5, 6] rfl, hP, hD, hS, ⟨by omega, by omega⟩⟩
          ·
            have i_83 : (v_ro 6).toInt = k49_5.toInt := g5_neN (a := (v_ro 6).toInt) (b := k49_5.toInt) rfl rfl c_83
            refine lv_aload_n hx hb dX12_countFor_91 rfl (lv_at hl 1 rfl) ?_
            refine va_get (D := G.1) (ci := 12) (v := .ref b_ah) (C := RX12) (T := TX12) (N := 52) hx hb hts inG_X12 hown hK hP 2 rfl rfl 43 (by decide +kernel) (hts _ fl_X12_89) (fun _ h9 => h9) rfl dX12_countFor_92 ?_
            refine lv_bipush (v := 32) hx hb dX12_countFor_95 (by decide +kernel) ?_
            refine lv_iload hx hb dX12_countFor_97 (lv_at hl 0 rfl) ?_
            refine W.eq (g2 := F0 m 99 ls [.int k49_5, .int 32, .ref b_ah]) rfl ?_
            refine lv_imul hx hb dX12_countFor_99 ?_
            have t_94 : (32 * k49_5).toInt = 32 * k49_5.toInt := g5_imul (a := 32) (b := k49_5.toInt) (by decide +kernel) (by rfl) (by omega) (by omega)
            refine lv_aload_n hx hb dX12_countFor_100 rfl (lv_at hl 1 rfl) ?_
            refine va_get (D := G.1) (ci := 12) (v := .ref b_me) (C := RX12) (T := TX12) (N := 52) hx hb hts inG_X12 hown hK hP 2 rfl rfl 45 (by decide +kernel) (hts _ fl_X12_95) (fun _ h9 => h9) rfl dX12_countFor_101 ?_
            refine lv_iload hx hb dX12_countFor_104 (lv_at hl 0 rfl) ?_
            refine va_iald hx hb hK hP 7 0 rfl rfl (i := k49_5) (vp_in_iff.mpr ⟨by omega, by omega⟩) dX12_countFor_106 ?_
            have hr_95 : 0 ≤ (z25 k49_5.toNatClampNeg).toInt ∧ ((z25 k49_5.toNatClampNeg).toInt < 32 ∨ 64 ≤ (z25 k49_5.toNatClampNeg).toInt) ∧ (z25 k49_5.toNatClampNeg).toInt ≤ 127 := i_9 (k49_5.toNatClampNeg)
            refine W.eq (g2 := F0 m 107 ls [.int (z25 k49_5.toNatClampNeg), .int (32 * k49_5), .ref b_ah]) rfl ?_
            refine lv_iadd hx hb dX12_countFor_107 ?_
            have t_96 : ((32 * k49_5) + (z25 k49_5.toNatClampNeg)).toInt = (32 * k49_5).toInt + (z25 k49_5.toNatClampNeg).toInt := g5_iadd (a := (32 * k49_5).toInt) (b := (z25 k49_5.toNatClampNeg).toInt) (by rfl) (by rfl) (by omega) (by omega)
            refine lv_lconst (v := 1) hx hb dX12_countFor_108 (by decide +kernel) ?_
            refine va_last hx hb hK hP hD hS 0 1 rfl rfl (i := ((32 * k49_5) + (z25 k49_5.toNatClampNeg))) (x := 1) (vp_in_iff.mpr ⟨by omega, by omega⟩) dX12_countFor_109 ?_
            clear hP hD hS
            intro H locs hP hD hS
            refine g5_rs [(b_ah, (arJ G 49152 (vp_updL k49_ah ((32 * k49_5) + (z25 k49_5.toNatClampNeg)).toNatClampNeg 1))), (b_be, (arJ G 49152 k49_be)), (b_o, (oc12 u_th u_sa b_rf b_ro b_im b_ke u_fd b_tp u_td u_fr u_to u_so u_wo u_fa u_bd u_nc b_nl u_co b_op b_ar u_le b_pi b_pa u_pd u_od b_ws b_hw z10 b_se b_re z11 z12 z13 z14 z15 z16 z17 z18 b_pt z19 z20 b_ip 0 b_ah b_be b_me z21 b_tr b_ld u_st b_wn u_id)), (b_ro, (arI G 5740 v_ro)), (b_se, (arJ G 13 z22)), (b_re, (arJ G 400 z23)), (b_pt, (arI G 200 z24)), (b_me, (arI G 1536 z25))] hP hD ?_
            clear hP hD
            intro hP hD
            refine lv_iconst (v := 0) hx hb dX12_countFor_110 (by decide +kernel) ?_
            refine lv_istore (lv' := [(6, .int 0), (5, .int k49_5), (0, .ref b_o), (1, .int p_1), (2, .int p_2), (3, .int p_3), (4, .int p_4)]) hx hb dX12_countFor_111 hl (by decide +kernel) rfl ?_
            clear hl
            intro ls hl
            refine g5_loop (α := (Int32) × (Nat → Int64)) (fun (q : (Int32) × (Nat → Int64)) (ls : Array Slot) (H : Heap) (locs : List Loc) => match q with | (k113_6, k113_be) => lv_has ls 7 [(6, .int k113_6), (5, .int k49_5), (0, .ref b_o), (1, .int p_1), (2, .int p_2), (3, .int p_3), (4, .int p_4)] ∧ va_P G.1 vwCl [(b_ah, (arJ G 49152 (vp_updL k49_ah ((32 * k49_5) + (z25 k49_5.toNatClampNeg)).toNatClampNeg 1))), (b_be, (arJ G 49152 k113_be)), (b_o, (oc12 u_th u_sa b_rf b_ro b_im b_ke u_fd b_tp u_td u_fr u_to u_so u_wo u_fa u_bd u_nc b_nl u_co b_op b_ar u_le b_pi b_pa u_pd u_od b_ws b_hw z10 b_se b_re z11 z12 z13 z14 z15 z16 z17 z18 b_pt z19 z20 b_ip 0 b_ah b_be b_me z21 b_tr b_ld u_st b_wn u_id)), (b_ro, (arI G 5740 v_ro)), (b_se, (arJ G 13 z22)), (b_re, (arJ G 400 z23)), (b_pt, (arI G 200 z24)), (b_me, (arI G 1536 z25))] H ∧ va_D A [(b_ah, (arJ G 49152 (vp_updL k49_ah ((32 * k49_5) + (z25 k49_5.toNatClampNeg)).toNatClampNeg 1))), (b_be, (arJ G 49152 k113_be)), (b_o, (oc12 u_th u_sa b_rf b_ro b_im b_ke u_fd b_tp u_td u_fr u_to u_so u_wo u_fa u_bd u_nc b_nl u_co b_op b_ar u_le b_pi b_pa u_pd u_od b_ws b_hw z10 b_se b_re z11 z12 z13 z14 z15 z16 z17 z18 b_pt z19 z20 b_ip 0 b_ah b_be b_me z21 b_tr b_ld u_st b_wn u_id)), (b_ro, (arI G 5740 v_ro)), (b_se, (arJ G 13 z22)), (b_re, (arJ G 400 z23)), (b_pt, (arI G 200 z24)), (b_me, (arI G 1536 z25))] ∧ va_S A s.heap H locs ∧ (0 ≤ k113_6.toInt ∧ k113_6.toInt ≤ 32)) (fun (q : (Int32) × (Nat → Int64)) => match q with | (k113_6, k113_be) => Int.toNat (32 - k113_6.toInt)) (0, k49_be) ⟨lv_sub hl [0, 1, 2, 3, 4, 5, 6] rfl, hP, hD, hS, ⟨by decide, by decide⟩⟩ ?_
            rintro ⟨k113_6, k113_be⟩ ls H locs ⟨hl, hP, hD, hS, (i_97 : 0 ≤ k113_6.toInt ∧ k113_6.toInt ≤ 32)⟩ ih_113_98
            replace hl : lv_has ls 7 [(6, .int k113_6), (5, .int k49_5), (0, .ref b_o), (1, .int p_1), (2, .int p_2), (3, .int p_3), (4, .int p_4)] := hl
            refine g5_rs [(b_ah, (arJ G 49152 (vp_updL k49_ah ((32 * k49_5) + (z25 k49_5.toNatClampNeg)).toNatClampNeg 1))), (b_be, (arJ G 49152 k113_be)), (b_o, (oc12 u_th u_sa b_rf b_ro b_im b_ke u_fd b_tp u_td u_fr u_to u_so u_wo u_fa u_bd u_nc b_nl u_co b_op b_ar u_le b_pi b_pa u_pd u_od b_ws b_hw z10 b_se b_re z11 z12 z13 z14 z15 z16 z17 z18 b_pt z19 z20 b_ip 0 b_ah b_be b_me z21 b_tr b_ld u_st b_wn u_id)), (b_ro, (arI G 5740 v_ro)), (b_se, (arJ G 13 z22)), (b_re, (arJ G 400 z23)), (b_pt, (arI G 200 z24)), (b_me, (arI G 1536 z25))] hP hD ?_
            clear hP hD
            intro hP hD
            refine lv_iload hx hb dX12_countFor_113 (lv_at hl 0 rfl) ?_
            refine lv_bipush (v := 32) hx hb dX12_countFor_115 (by decide +kernel) ?_
            refine lv_icmp_ge (tgt := 157) hx hb dX12_countFor_117 (by decide +kernel) (fun c_99 => ?_) (fun c_99 => ?_)
            ·
              have i_99 : k113_6.toInt ≥ 32 := g5_ge (a := k113_6.toInt) (b := 32) rfl (by decide +kernel) c_99
              refine lv_iinc (v := (k49_5 + 1)) (lv' := [(5, .int (k49_5 + 1)), (6, .int k113_6), (0, .ref b_o), (1, .int p_1), (2, .int p_2), (3, .int p_3), (4, .int p_4)]) hx hb dX12_countFor_157 hl (k := 1) rfl rfl (by decide +kernel) rfl ?_
              clear hl
              intro ls hl
              have t_100 : (k49_5 + 1).toInt = k49_5.toInt + 1 := g5_iadd (a := k49_5.toInt) (b := 1) rfl (by decide +kernel) (by omega) (by omega)
              refine lv_goto (tgt := 49) hx hb dX12_countFor_160 (by decide +kernel) ?_
              exact ih_49_32 ((k49_5 + 1), (vp_updL k49_ah ((32 * k49_5) + (z25 k49_5.toNatClampNeg)).toNatClampNeg 1), k113_be) ls H locs (show Int.toNat (64 - (k49_5 + 1).toInt) < Int.toNat (64 - k49_5.toInt) from g_up (show k49_5.toInt < (k49_5 + 1).toInt by omega) (show k49_5.toInt < 64 by omega)) ⟨lv_sub hl [0, 2, 3, 4, 5, 6] rfl, hP, hD, hS, ⟨by omega, by omega⟩, ah0_set (c := k49_5) i_31 (by omega) ⟨by omega, by omega⟩ (by omega)⟩
            ·
              have i_99 : k113_6.toInt < 32 := g5_geN (a := k113_6.toInt) (b := 32) rfl (by decide +kernel) c_99
              refine lv_aload_n hx hb dX12_countFor_120 rfl (lv_at hl 2 rfl) ?_
              refine va_get (D := G.1) (ci := 12) (v := .ref b_be) (C := RX12) (T := TX12) (N := 52) hx hb hts inG_X12 hown hK hP 2 rfl rfl 44 (by decide +kernel) (hts _ fl_X12_92) (fun _ h9 => h9) rfl dX12_countFor_121 ?_
              refine lv_bipush (v := 32) hx hb dX12_countFor_124 (by decide +kernel) ?_
              refine lv_sipush (v := 1472) hx hb dX12_countFor_126 (by decide +kernel) ?_
              refine W.eq (g2 := F0 m 129 ls [.int 1472, .int 32, .ref b_be]) rfl ?_
              refine lv_iload hx hb dX12_countFor_129 (lv_at hl 1 rfl) ?_
              refine lv_iadd hx hb dX12_countFor_131 ?_
              have t_101 : (1472 + k49_5).toInt = 1472 + k49_5.toInt := g5_iadd (a := 1472) (b := k49_5.toInt) (by decide +kernel) (by rfl) (by omega) (by omega)
              refine lv_imul hx hb dX12_countFor_132 ?_
              have t_102 : (32 * (1472 + k49_5)).toInt = 32 * (1472 + k49_5).toInt := g5_imul (a := 32) (b := (1472 + k49_5).toInt) (by decide +kernel) (by rfl) (by omega) (by omega)
              refine lv_iload hx hb dX12_countFor_133 (lv_at hl 0 rfl) ?_
              refine lv_iadd hx hb dX12_countFor_135 ?_
              have t_103 : ((32 * (1472 + k49_5)) + k113_6).toInt = (32 * (1472 + k49_5)).toInt + k113_6.toInt := g5_iadd (a := (32 * (1472 + k49_5)).toInt) (b := k113_6.toInt) (by rfl) (by rfl) (by omega) (by omega)
              refine W.eq (g2 := F0 m 136 ls [.int ((32 * (1472 + k49_5)) + k113_6), .ref b_be]) rfl ?_
              refine lv_iload hx hb dX12_countFor_136 (lv_at hl 0 rfl) ?_
              refine lv_aload_n hx hb dX12_countFor_138 rfl (lv_at hl 2 rfl) ?_
              refine va_get (D := G.1) (ci := 12) (v := .int z21) (C := RX12) (T := TX12) (N := 52) hx hb hts inG_X12 hown hK hP 2 rfl rfl 46 (by decide +kernel) (hts _ fl_X12_422) (fun _ h9 => h9) rfl dX12_countFor_139 ?_
              refine lv_icmp_ne (tgt := 149) hx hb dX12_countFor_142 (by decide +kernel) (fun c_104 => ?_) (fun c_104 => ?_)
              ·
                have n_104 : gNe (k113_6.toInt) (z21.toInt) := g5_ne (a := k113_6.toInt) (b := z21.toInt) rfl rfl c_104
                refine lv_lconst (v := 0) hx hb dX12_countFor_149 (by decide +kernel) ?_
                refine va_last hx hb hK hP hD hS 1 1 rfl rfl (i := ((32 * (1472 + k49_5)) + k113_6)) (x := 0) (vp_in_iff.mpr ⟨by omega, by omega⟩) dX12_countFor_150 ?_
                clear hP hD hS
                intro H locs hP hD hS
                refine g5_rs [(b_ah, (arJ G 49152 (vp_updL k49_ah ((32 * k49_5) + (z25 k49_5.toNatClampNeg)).toNatClampNeg 1))), (b_be, (arJ G 49152 (vp_updL k113_be ((32 * (1472 + k49_5)) + k113_6).toNatClampNeg 0))), (b_o, (oc12 u_th u_sa b_rf b_ro b_im b_ke u_fd b_tp u_td u_fr u_to u_so u_wo u_fa u_bd u_nc b_nl u_co b_op b_ar u_le b_pi b_pa u_pd u_od b_ws b_hw z10 b_se b_re z11 z12 z13 z14 z15 z16 z17 z18 b_pt z19 z20 b_ip 0 b_ah b_be b_me z21 b_tr b_ld u_st b_wn u_id)), (b_ro, (arI G 5740 v_ro)), (b_se, (arJ G 13 z22)), (b_re, (arJ G 400 z23)), (b_pt, (arI G 200 z24)), (b_me, (arI G 1536 z25))] hP hD ?_
                clear hP hD
                intro hP hD
                refine lv_iinc (v := (k113_6 + 1)) (lv' := [(6, .int (k113_6 + 1)), (5, .int k49_5), (0, .ref b_o), (1, .int p_1), (2, .int p_2), (3, .int p_3), (4, .int p_4)]) hx hb dX12_countFor_151 hl (k := 0) rfl rfl (by decide +kernel) rfl ?_
                clear hl
                intro ls hl
                have t_105 : (k113_6 + 1).toInt = k113_6.toInt + 1 := g5_iadd (a := k113_6.toInt) (b := 1) rfl (by decide +kernel) (by omega) (by omega)
                refine lv_goto (tgt := 113) hx hb dX12_countFor_154 (by decide +kernel) ?_
                exact ih_113_98 ((k113_6 + 1), (vp_updL k113_be ((32 * (1472 + k49_5)) + k113_6).toNatClampNeg 0)) ls H locs (show Int.toNat (32 - (k113_6 + 1).toInt) < Int.toNat (32 - k113_6.toInt) from g_up (show k113_6.toInt < (k113_6 + 1).toInt by omega) (show k113_6.toInt < 32 by omega)) ⟨lv_sub hl [0, 1, 2, 3, 4, 5, 6] rfl, hP, hD, hS, ⟨by omega, by omega⟩⟩
              ·
                have i_104 : k113_6.toInt = z21.toInt := g5_neN (a := k113_6.toInt) (b := z21.toInt) rfl rfl c_104
                refine lv_lconst (v := 1) hx hb dX12_countFor_145 (by decide +kernel) ?_
                refine lv_goto (tgt := 150) hx hb dX12_countFor_146 (by decide +kernel) ?_
                refine va_last hx hb hK hP hD hS 1 1 rfl rfl (i := ((32 * (1472 + k49_5)) + k113_6)) (x := 1) (vp_in_iff.mpr ⟨by omega, by omega⟩) dX12_countFor_150 ?_
                clear hP hD hS
                intro H locs hP hD hS
                refine g5_rs [(b_ah, (arJ G 49152 (vp_updL k49_ah ((32 * k49_5) + (z25 k49_5.toNatClampNeg)).toNatClampNeg 1))), (b_be, (arJ G 49152 (vp_updL k113_be ((32 * (1472 + k49_5)) + k113_6).toNatClampNeg 1))), (b_o, (oc12 u_th u_sa b_rf b_ro b_im b_ke u_fd b_tp u_td u_fr u_to u_so u_wo u_fa u_bd u_nc b_nl u_co b_op b_ar u_le b_pi b_pa u_pd u_od b_ws b_hw z10 b_se b_re z11 z12 z13 z14 z15 z16 z17 z18 b_pt z19 z20 b_ip 0 b_ah b_be b_me z21 b_tr b_ld u_st b_wn u_id)), (b_ro, (arI G 5740 v_ro)), (b_se, (arJ G 13 z22)), (b_re, (arJ G 400 z23)), (b_pt, (arI G 200 z24)), (b_me, (arI G 1536 z25))] hP hD ?_
                clear hP hD
                intro hP hD
                refine lv_iinc (v := (k113_6 + 1)) (lv' := [(6, .int (k113_6 + 1)), (5, .int k49_5), (0, .ref b_o), (1, .int p_1), (2, .int p_2), (3, .int p_3), (4, .int p_4)]) hx hb dX12_countFor_151 hl (k := 0) rfl rfl (by decide +kernel) rfl ?_
                clear hl
                intro ls hl
                have t_106 : (k113_6 + 1).toInt = k113_6.toInt + 1 := g5_iadd (a := k113_6.toInt) (b := 1) rfl (by decide +kernel) (by omega) (by omega)
                refine W.eq (g2 := F0 m 154 ls []) rfl ?_
                refine lv_goto (tgt := 113) hx hb dX12_countFor_154 (by decide +kernel) ?_
                exact ih_113_98 ((k113_6 + 1), (vp_updL k113_be ((32 * (1472 + k49_5)) + k113_6).toNatClampNeg 1)) ls H locs (show Int.toNat (32 - (k113_6 + 1).toInt) < Int.toNat (32 - k113_6.toInt) from g_up (show k113_6.toInt < (k113_6 + 1).toInt by omega) (show k113_6.toInt < 32 by omega)) ⟨lv_sub hl [0, 1, 2, 3, 4, 5, 6] rfl, hP, hD, hS, ⟨by omega, by omega⟩⟩
  ·
    have i_29 : k17_5.toInt < 49152 := g5_geN (a := k17_5.toInt) (b := 49152) rfl (by decide +kernel) c_29
    refine lv_aload_n hx hb dX12_countFor_24 rfl (lv_at hl 1 rfl) ?_
    refine va_get (D := G.1) (ci := 12) (v := .ref b_ah) (C := RX12) (T := TX12) (N := 52) hx hb hts inG_X12 hown hK hP 2 rfl rfl 43 (by decide +kernel) (hts _ fl_X12_89) (fun _ h9 => h9) rfl dX12_countFor_25 ?_
    refine lv_iload hx hb dX12_countFor_28 (lv_at hl 0 rfl) ?_
    refine lv_lconst (v := 0) hx hb dX12_countFor_30 (by decide +kernel) ?_
    refine W.eq (g2 := F0 m 31 ls [.long 0, .int k17_5, .ref b_ah]) rfl ?_
    refine va_last hx hb hK hP hD hS 0 1 rfl rfl (i := k17_5) (x := 0) (vp_in_iff.mpr ⟨by omega, by omega⟩) dX12_countFor_31 ?_
    clear hP hD hS
    intro H locs hP hD hS
    refine g5_rs [(b_ah, (arJ G 49152 (vp_updL k17_ah k17_5.toNatClampNeg 0))), (b_be, (arJ G 49152 k17_be)), (b_o, (oc12 u_th u_sa b_rf b_ro b_im b_ke u_fd b_tp u_td u_fr u_to u_so u_wo u_fa u_bd u_nc b_nl u_co b_op b_ar u_le b_pi b_pa u_pd u_od b_ws b_hw z10 b_se b_re z11 z12 z13 z14 z15 z16 z17 z18 b_pt z19 z20 b_ip 0 b_ah b_be b_me z21 b_tr b_ld u_st b_wn u_id)), (b_ro, (arI G 5740 v_ro)), (b_se, (arJ G 13 z22)), (b_re, (arJ G 400 z23)), (b_pt, (arI G 200 z24)), (b_me, (arI G 1536 z25))] hP hD ?_
    clear hP hD
    intro hP hD
    refine lv_aload_n hx hb dX12_countFor_32 rfl (lv_at hl 1 rfl) ?_
    refine va_get (D := G.1) (ci := 12) (v := .ref b_be) (C := RX12) (T := TX12) (N := 52) hx hb hts inG_X12 hown hK hP 2 rfl rfl 44 (by decide +kernel) (hts _ fl_X12_92) (fun _ h9 => h9) rfl dX12_countFor_33 ?_
    refine lv_iload hx hb dX12_countFor_36 (lv_at hl 0 rfl) ?_
    refine lv_lconst (v := 0) hx hb dX12_countFor_38 (by decide +kernel) ?_
    refine W.eq (g2 := F0 m 39 ls [.long 0, .int k17_5, .ref b_be]) rfl ?_
    refine va_last hx hb hK hP hD hS 1 1 rfl rfl (i := k17_5) (x := 0) (vp_in_iff.mpr ⟨by omega, by omega⟩) dX12_countFor_39 ?_
    clear hP hD hS
    intro H locs hP hD hS
    refine g5_rs [(b_ah, (arJ G 49152 (vp_updL k17_ah k17_5.toNatClampNeg 0))), (b_be, (arJ G 49152 (vp_updL k17_be k17_5.toNatClampNeg 0))), (b_o, (oc12 u_th u_sa b_rf b_ro b_im b_ke u_fd b_tp u_td u_fr u_to u_so u_wo u_fa u_bd u_nc b_nl u_co b_op b_ar u_le b_pi b_pa u_pd u_od b_ws b_hw z10 b_se b_re z11 z12 z13 z14 z15 z16 z17 z18 b_pt z19 z20 b_ip 0 b_ah b_be b_me z21 b_tr b_ld u_st b_wn u_id)), (b_ro, (arI G 5740 v_ro)), (b_se, (arJ G 13 z22)), (b_re, (arJ G 400 z23)), (b_pt, (arI G 200 z24)), (b_me, (arI G 1536 z25))] hP hD ?_
    clear hP hD
    intro hP hD
    refine lv_iinc (v := (k17_5 + 1)) (lv' := [(5, .int (k17_5 + 1)), (0, .ref b_o), (1, .int p_1), (2, .int p_2), (3, .int p_3), (4, .int p_4)]) hx hb dX12_countFor_40 hl (k := 0) rfl rfl (by decide +kernel) rfl ?_
    clear hl
    intro ls hl
    have t_107 : (k17_5 + 1).toInt = k17_5.toInt + 1 := g5_iadd (a := k17_5.toInt) (b := 1) rfl (by decide +kernel) (by omega) (by omega)
    refine lv_goto (tgt := 17) hx hb dX12_countFor_43 (by decide +kernel) ?_
    exact ih_17_28 ((k17_5 + 1), (vp_updL k17_ah k17_5.toNatClampNeg 0), (vp_updL k17_be k17_5.toNatClampNeg 0)) ls H locs (show Int.toNat (49152 - (k17_5 + 1).toInt) < Int.toNat (49152 - k17_5.toInt) from g_up (show k17_5.toInt < (k17_5 + 1).toInt by omega) (show k17_5.toInt < 49152 by omega)) ⟨lv_sub hl [0, 1, 2, 3, 4, 5] rfl, hP, hD, hS, ⟨by omega, by omega⟩, az_step i_27 (by omega) (by omega)⟩
set_option maxHeartbeats 4000000 in
set_option maxRecDepth 100000 in
theorem n_countRowsP (l : Launch) (G : g5_G) (b_o b_ro b_se b_re b_pt b_ah b_be b_me b_rf b_im b_ke b_tp b_nl b_op b_ar b_pi b_pa b_ws b_hw b_ip b_tr b_ld b_wn : Nat) (sz : Nat) (u_th : Int32) (u_sa : Int32) (u_fd : Int32) (u_td : Int32) (u_fr : Int32) (u_to : Int32) (u_so : Int32) (u_fa : Int32) (u_bd : Int32) (u_nc : Int32) (u_co : Int32) (u_le : Int32) (u_pd : Int32) (u_od : Int32) (u_la : Int32) (u_bk : Int32) (u_ce : Int32) (u_ho : Int32) (u_wy : Int32) (u_bt : Int32) (u_ps : Int32) (u_tg : Int32) (u_sn : Int32) (u_ic : Int32) (u_wd : Int32) (u_id : Int32) (u_wo : Int64) (u_va : Int64) (u_su : Int64) (u_st : Int64) (v_ro : Nat → Int32) (v_se : Nat → Int64) (v_re : Nat → Int64) (v_pt : Nat → Int32) (v_ah : Nat → Int64) (v_be : Nat → Int64) (v_me : Nat → Int32) (h_u_td : 0 ≤ u_td.toInt ∧ u_td.toInt ≤ 400) (h_u_fr : 0 ≤ u_fr.toInt ∧ u_fr.toInt ≤ 400) (h_u_to : 0 ≤ u_to.toInt ∧ u_to.toInt ≤ 400) (h_u_bd : 0 ≤ u_bd.toInt ∧ u_bd.toInt ≤ 1) (h_u_nc : 0 ≤ u_nc.toInt ∧ u_nc.toInt ≤ 12) (h_u_co : 0 ≤ u_co.toInt ∧ u_co.toInt ≤ 400) (h_u_pd : 0 ≤ u_pd.toInt ∧ u_pd.toInt ≤ 400) (h_u_la : 0 ≤ u_la.toInt ∧ u_la.toInt ≤ 4840) (h_u_bk : 0 ≤ u_bk.toInt ∧ u_bk.toInt ≤ 1) (h_u_ce : 0 ≤ u_ce.toInt ∧ u_ce.toInt ≤ 63) (h_u_ho : 0 ≤ u_ho.toInt ∧ u_ho.toInt ≤ 23) (h_u_wy : 0 ≤ u_wy.toInt ∧ u_wy.toInt ≤ 3) (h_u_bt : 0 ≤ u_bt.toInt ∧ u_bt.toInt ≤ 1000000) (h_u_ps : 0 ≤ u_ps.toInt ∧ u_ps.toInt ≤ 200) (h_u_ic : 0 ≤ u_ic.toInt ∧ u_ic.toInt ≤ 1) (h_u_id : 0 ≤ u_id.toInt ∧ u_id.toInt ≤ 1) (r_ro : MI v_ro) (r_pt : PTI v_pt) (r_me : MEI v_me) (e_ah : AH0 v_ah v_me) : Met l yX12_countRows (wsG yX12_countRows cX12_countRows 1 none) ({ frames := 9, cells := 0, slots := 0, locals := 231 }) (va_Pc [.ref b_o] (g5_P G [(b_o, (oc12 u_th u_sa b_rf b_ro b_im b_ke u_fd b_tp u_td u_fr u_to u_so u_wo u_fa u_bd u_nc b_nl u_co b_op b_ar u_le b_pi b_pa u_pd u_od b_ws b_hw u_la b_se b_re u_bk u_va u_su u_ce u_ho u_wy u_bt u_ps b_pt u_tg u_sn b_ip u_ic b_ah b_be b_me u_wd b_tr b_ld u_st b_wn u_id)), (b_ro, (arI G 5740 v_ro)), (b_se, (arJ G 13 v_se)), (b_re, (arJ G 400 v_re)), (b_pt, (arI G 200 v_pt)), (b_ah, (arJ G 49152 v_ah)), (b_be, (arJ G 49152 v_be)), (b_me, (arI G 1536 v_me))] sz)) (va_Qv (fun (u : va_W) => (∃ (o_la : Int32) (o_bk : Int32) (o_va : Int64) (o_su : Int64) (o_ce : Int32) (o_ho : Int32) (o_wy : Int32) (o_bt : Int32) (o_ps : Int32) (o_tg : Int32) (o_sn : Int32) (o_ic : Int32) (o_wd : Int32) (o_se : Nat → Int64) (o_re : Nat → Int64) (o_pt : Nat → Int32) (o_ah : Nat → Int64) (o_be : Nat → Int64) (o_me : Nat → Int32), (0 ≤ o_la.toInt ∧ o_la.toInt ≤ 4840) ∧ (0 ≤ o_bk.toInt ∧ o_bk.toInt ≤ 1) ∧ (0 ≤ o_ce.toInt ∧ o_ce.toInt ≤ 63) ∧ (0 ≤ o_ho.toInt ∧ o_ho.toInt ≤ 23) ∧ (0 ≤ o_wy.toInt ∧ o_wy.toInt ≤ 3) ∧ (0 ≤ o_bt.toInt ∧ o_bt.toInt ≤ 1000000) ∧ (0 ≤ o_ps.toInt ∧ o_ps.toInt ≤ 200) ∧ (PTI o_pt) ∧ (0 ≤ o_ic.toInt ∧ o_ic.toInt ≤ 1) ∧ (MEI o_me) ∧ (AH0 o_ah o_me) ∧ (u = [(b_o, (oc12 u_th u_sa b_rf b_ro b_im b_ke u_fd b_tp u_td u_fr u_to u_so u_wo u_fa u_bd u_nc b_nl u_co b_op b_ar u_le b_pi b_pa u_pd u_od b_ws b_hw o_la b_se b_re o_bk o_va o_su o_ce o_ho o_wy o_bt o_ps b_pt o_tg o_sn b_ip o_ic b_ah b_be b_me o_wd b_tr b_ld u_st b_wn u_id)), (b_ro, (arI G 5740 v_ro)), (b_se, (arJ G 13 o_se)), (b_re, (arJ G 400 o_re)), (b_pt, (arI G 200 o_pt)), (b_ah, (arJ G 49152 o_ah)), (b_be, (arJ G 49152 o_be)), (b_me, (arI G 1536 o_me))]))) (g5_B G (va_A [(b_o, (oc12 u_th u_sa b_rf b_ro b_im b_ke u_fd b_tp u_td u_fr u_to u_so u_wo u_fa u_bd u_nc b_nl u_co b_op b_ar u_le b_pi b_pa u_pd u_od b_ws b_hw u_la b_se b_re u_bk u_va u_su u_ce u_ho u_wy u_bt u_ps b_pt u_tg u_sn b_ip u_ic b_ah b_be b_me u_wd b_tr b_ld u_st b_wn u_id)), (b_ro, (arI G 5740 v_ro)), (b_se, (arJ G 13 v_se)), (b_re, (arJ G 400 v_re)), (b_pt, (arI G 200 v_pt)), (b_ah, (arJ G 49152 v_ah)), (b_be, (arJ G 49152 v_be)), (b_me, (arI G 1536 v_me))] sz)) (va_A [(b_o, (oc12 u_th u_sa b_rf b_ro b_im b_ke u_fd b_tp u_td u_fr u_to u_so u_wo u_fa u_bd u_nc b_nl u_co b_op b_ar u_le b_pi b_pa u_pd u_od b_ws b_hw u_la b_se b_re u_bk u_va u_su u_ce u_ho u_wy u_bt u_ps b_pt u_tg u_sn b_ip u_ic b_ah b_be b_me u_wd b_tr b_ld u_st b_wn u_id)), (b_ro, (arI G 5740 v_ro)), (b_se, (arJ G 13 v_se)), (b_re, (arJ G 400 v_re)), (b_pt, (arI G 200 v_pt)), (b_ah, (arJ G 49152 v_ah)), (b_be, (arJ G 49152 v_be)), (b_me, (arI G 1536 v_me))] sz)) 0 0 (va_A [(b_o, (oc12 u_th u_sa b_rf b_ro b_im b_ke u_fd b_tp u_td u_fr u_to u_so u_wo u_fa u_bd u_nc b_nl u_co b_op b_ar u_le b_pi b_pa u_pd u_od b_ws b_hw u_la b_se b_re u_bk u_va u_su u_ce u_ho u_wy u_bt u_ps b_pt u_tg u_sn b_ip u_ic b_ah b_be b_me u_wd b_tr b_ld u_st b_wn u_id)), (b_ro, (arI G 5740 v_ro)), (b_se, (arJ G 13 v_se)), (b_re, (arJ G 400 v_re)), (b_pt, (arI G 200 v_pt)), (b_ah, (arJ G 49152 v_ah)), (b_be, (arJ G 49152 v_be)), (b_me, (arI G 1536 v_me))] sz) := by
  refine Met.ofW (cc := cX12_countRows) (maxL := 1) (ret := none) (by decide +kernel) rfl ?_
  intro p e s m args below meth c s₁ B hml hv
  obtain ⟨rfl, hsz, hP, hK, hD0, hN, hT⟩ := hv
  have hx := B.exec
  have hb := B.bytes
  have hr := B.returns
  have hts : ∀ w ∈ tblG, w.before _ s = true := fun w h => atoms_spec (ws := (wsG yX12_countRows cX12_countRows 1 none)) B.pre w (List.mem_cons_of_mem _ h)
  have hown : s.vm.findClass RX12 = some m.cls := findClass_of_methodNamed B.named
  have hlocks := B.notSynchronized
  subst hsz
  have hD := hD0.self (sz := s.heap.size)
  generalize hAe : va_A [(b_o, (oc12 u_th u_sa b_rf b_ro b_im b_ke u_fd b_tp u_td u_fr u_to u_so u_wo u_fa u_bd u_nc b_nl u_co b_op b_ar u_le b_pi b_pa u_pd u_od b_ws b_hw u_la b_se b_re u_bk u_va u_su u_ce u_ho u_wy u_bt u_ps b_pt u_tg u_sn b_ip u_ic b_ah b_be b_me u_wd b_tr b_ld u_st b_wn u_id)), (b_ro, (arI G 5740 v_ro)), (b_se, (arJ G 13 v_se)), (b_re, (arJ G 400 v_re)), (b_pt, (arI G 200 v_pt)), (b_ah, (arJ G 49152 v_ah)), (b_be, (arJ G 49152 v_be)), (b_me, (arI G 1536 v_me))] s.heap.size = A at hD hT ⊢
  have hA : ∀ q : Nat, s.heap.size ≤ q → A q := fun q h => by rw [← hAe]; exact Or.inr h
  have hS : va_S A s.heap s.heap [] := va_S.rf
  replace hP : va_P G.1 vwCl [(b_o, (oc12 u_th u_sa b_rf b_ro b_im b_ke u_fd b_tp u_td u_fr u_to u_so u_wo u_fa u_bd u_nc b_nl u_co b_op b_ar u_le b_pi b_pa u_pd u_od b_ws b_hw u_la b_se b_re u_bk u_va u_su u_ce u_ho u_wy u_bt u_ps b_pt u_tg u_sn b_ip u_ic b_ah b_be b_me u_wd b_tr b_ld u_st b_wn u_id)), (b_ro, (arI G 5740 v_ro)), (b_se, (arJ G 13 v_se)), (b_re, (arJ G 400 v_re)), (b_pt, (arI G 200 v_pt)), (b_ah, (arJ G 49152 v_ah)), (b_be, (arJ G 49152 v_be)), (b_me, (arI G 1536 v_me))] s.heap := hP
  have hl := lv_entry ([.ref b_o]) (n := 1) (Nat.le_of_ble_eq_true rfl)
  rw [lg_entry_eq]
  generalize (lg_sl ([.ref b_o]) ++ List.replicate (1 - (lg_sl ([.ref b_o])).length) Slot.unset).toArray = ls at hl ⊢
  replace hl : lv_has ls 1 [(0, .ref b_o)] := hl
  refine lv_aload_n hx hb dX12_countRows_0 rfl (lv_at hl 0 rfl) ?_
  refine va_get (D := G.1) (ci := 12) (v := .int u_ic) (C := RX12) (T := TX12) (N := 52) hx hb hts inG_X12 hown hK hP 0 rfl rfl 42 (by decide +kernel) (hts _ fl_X12_113) (fun _ h9 => h9) rfl dX12_countRows_1 ?_
  refine lv_if_eq (tgt := 8) hx hb dX12_countRows_4 (by decide +kernel) (fun c_1 => ?_) (fun c_1 => ?_)
  ·
    have i_1 : u_ic.toInt = 0 := g5_eq (a := u_ic.toInt) (b := 0) rfl (by decide +kernel) c_1
    refine lv_aload_n hx hb dX12_countRows_8 rfl (lv_at hl 0 rfl) ?_
    refine lv_sipush (v := 1023) hx hb dX12_countRows_9 (by decide +kernel) ?_
    refine lv_iconst (v := 0) hx hb dX12_countRows_12 (by decide +kernel) ?_
    refine lv_iconst (v := (-1)) hx hb dX12_countRows_13 (by decide +kernel) ?_
    refine W.eq (g2 := F0 m 14 ls [.int (-1), .int 0, .int 1023, .ref b_o]) rfl ?_
    refine lv_iconst (v := 0) hx hb dX12_countRows_14 (by decide +kernel) ?_
    obtain ⟨hPc, hDc, hFc⟩ := g5_sub3 (wc := [(b_o, (oc12 u_th u_sa b_rf b_ro b_im b_ke u_fd b_tp u_td u_fr u_to u_so u_wo u_fa u_bd u_nc b_nl u_co b_op b_ar u_le b_pi b_pa u_pd u_od b_ws b_hw u_la b_se b_re u_bk u_va u_su u_ce u_ho u_wy u_bt u_ps b_pt u_tg u_sn b_ip u_ic b_ah b_be b_me u_wd b_tr b_ld u_st b_wn u_id)), (b_ro, (arI G 5740 v_ro)), (b_se, (arJ G 13 v_se)), (b_re, (arJ G 400 v_re)), (b_pt, (arI G 200 v_pt)), (b_ah, (arJ G 49152 v_ah)), (b_be, (arJ G 49152 v_be)), (b_me, (arI G 1536 v_me))]) hP hD hS hA [0, 1, 2, 3, 4, 5, 6, 7] (by decide +kernel) rfl
    refine va_callv (va_runV (As := [.int 1023, .int 0, .int (-1), .int 0]) (rest := []) ⟨hx, hb, hml, hown, hts⟩ (n_countForP l G b_o b_ro b_se b_re b_pt b_ah b_be b_me b_rf b_im b_ke b_tp b_nl b_op b_ar b_pi b_pa b_ws b_hw b_ip b_tr b_ld b_wn s.heap.size u_th u_sa u_fd u_td u_fr u_to u_so u_fa u_bd u_nc u_co u_le u_pd u_od u_la u_bk u_ce u_ho u_wy u_bt u_ps u_tg u_sn u_ic u_wd u_id 1023 0 (-1) 0 u_wo u_va u_su u_st v_ro v_se v_re v_pt v_ah v_be v_me h_u_td h_u_fr h_u_to h_u_bd h_u_nc h_u_co h_u_pd h_u_la h_u_bk h_u_ce h_u_ho h_u_wy h_u_bt h_u_ps h_u_ic h_u_id ⟨by decide, by decide⟩ ⟨by decide, by decide⟩ ⟨by decide, by decide⟩ (r_ro) (r_pt) (r_me)) (cwV 4 hts gV_X12_425 rfl rfl rfl hv_X12_countFor ⟨Nat.le_of_ble_eq_true rfl, Nat.le_of_ble_eq_true rfl⟩) (g5_preV hPc hK hDc hN hT hS hFc (ci := 12) (q0 := 0) rfl rfl) rfl rfl hl.1 rfl (lv_room (Nat.le_of_ble_eq_true rfl)) dX12_countRows_15 ⟨Nat.le_of_ble_eq_true rfl, Nat.le_of_ble_eq_true rfl⟩) hS (fun q _ h => hFc q h) hFc (fun u t H locs ht hvm hw hB hz1 hk1 hS => ?_)
    obtain ⟨hP1, hD1⟩ := hB
    have hP1 := g5_ht ht hP1
    obtain ⟨z13, z14, z15, z16, z17, z18, z19, z20, z21, z22, z23, z24, z25, z26, z27, z28, z29, z30, z31, (i_2 : 0 ≤ z13.toInt ∧ z13.toInt ≤ 4840), (i_3 : 0 ≤ z14.toInt ∧ z14.toInt ≤ 1), (i_4 : 0 ≤ z17.toInt ∧ z17.toInt ≤ 63), (i_5 : 0 ≤ z18.toInt ∧ z18.toInt ≤ 23), (i_6 : 0 ≤ z19.toInt ∧ z19.toInt ≤ 3), (i_7 : 0 ≤ z20.toInt ∧ z20.toInt ≤ 1000000), (i_8 : 0 ≤ z21.toInt ∧ z21.toInt ≤ 200), (i_9 : PTI z28), (i_10 : 0 ≤ z24.toInt ∧ z24.toInt ≤ 1), (i_11 : MEI z31), (i_12 : AH0 z29 z31), rfl⟩ := hw
    have hJ9 := va_join (wr := []) hP hD [0, 1, 2, 3, 4, 5, 6, 7] [] rfl rfl (by decide +kernel) (by decide +kernel) hk1 hFc hP1 hD1
    clear hP hD hPc hDc hFc ht hvm hz1 hk1 hP1 hD1
    obtain ⟨hP, hD⟩ := hJ9
    refine g5_rs [(b_o, (oc12 u_th u_sa b_rf b_ro b_im b_ke u_fd b_tp u_td u_fr u_to u_so u_wo u_fa u_bd u_nc b_nl u_co b_op b_ar u_le b_pi b_pa u_pd u_od b_ws b_hw z13 b_se b_re z14 z15 z16 z17 z18 z19 z20 z21 b_pt z22 z23 b_ip z24 b_ah b_be b_me z25 b_tr b_ld u_st b_wn u_id)), (b_ro, (arI G 5740 v_ro)), (b_se, (arJ G 13 z26)), (b_re, (arJ G 400 z27)), (b_pt, (arI G 200 z28)), (b_ah, (arJ G 49152 z29)), (b_be, (arJ G 49152 z30)), (b_me, (arI G 1536 z31))] hP hD ?_
    clear hP hD
    intro hP hD
    refine lv_aload_n hx hb dX12_countRows_18 rfl (lv_at hl 0 rfl) ?_
    refine lv_iconst (v := 1) hx hb dX12_countRows_19 (by decide +kernel) ?_
    refine va_put (D := G.1) (ci := 12) (v := .int 1) (ty := .boolean) (C := RX12) (T := TX12) (N := 52) hx hb hts inG_X12 tyX12 tyX12_ok nmX12 hown hK hP hD hS 0 rfl rfl 42 (by decide +kernel) (hts _ fl_X12_113) (fun _ h9 => h9) rfl (by decide +kernel) rfl rfl (Nat.le_of_ble_eq_true rfl) dX12_countRows_20 ?_
    clear hP hD hS
    intro H locs hP hD hS
    refine g5_rs [(b_o, (oc12 u_th u_sa b_rf b_ro b_im b_ke u_fd b_tp u_td u_fr u_to u_so u_wo u_fa u_bd u_nc b_nl u_co b_op b_ar u_le b_pi b_pa u_pd u_od b_ws b_hw z13 b_se b_re z14 z15 z16 z17 z18 z19 z20 z21 b_pt z22 z23 b_ip 1 b_ah b_be b_me z25 b_tr b_ld u_st b_wn u_id)), (b_ro, (arI G 5740 v_ro)), (b_se, (arJ G 13 z26)), (b_re, (arJ G 400 z27)), (b_pt, (arI G 200 z28)), (b_ah, (arJ G 49152 z29)), (b_be, (arJ G 49152 z30)), (b_me, (arI G 1536 z31))] hP hD ?_
    clear hP hD
    intro hP hD
    refine W.eq (g2 := F0 m 23 ls []) rfl ?_
    exact W.vret hx hb hr (fun t ht hW => ⟨⟨[(b_o, (oc12 u_th u_sa b_rf b_ro b_im b_ke u_fd b_tp u_td u_fr u_to u_so u_wo u_fa u_bd u_nc b_nl u_co b_op b_ar u_le b_pi b_pa u_pd u_od b_ws b_hw z13 b_se b_re z14 z15 z16 z17 z18 z19 z20 z21 b_pt z22 z23 b_ip 1 b_ah b_be b_me z25 b_tr b_ld u_st b_wn u_id)), (b_ro, (arI G 5740 v_ro)), (b_se, (arJ G 13 z26)), (b_re, (arJ G 400 z27)), (b_pt, (arI G 200 z28)), (b_ah, (arJ G 49152 z29)), (b_be, (arJ G 49152 z30)), (b_me, (arI G 1536 z31))], rfl, ⟨z13, z14, z15, z16, z17, z18, z19, z20, z21, z22, z23, 1, z25, z26, z27, z28, z29, z30, z31, i_2, i_3, i_4, i_5, i_6, i_7, i_8, i_9, ⟨by have zc_o_ic : (1 : Int32).toInt = 1 := (by decide +kernel); omega, by have zc_o_ic : (1 : Int32).toInt = 1 := (by decide +kernel); omega⟩, i_11, i_12, rfl⟩, by rw [ht]; exact hP.sub [0, 1, 2, 3, 4, 5, 6, 7] rfl, hD.sub [0, 1, 2, 3, 4, 5, 6, 7] (by decide +kernel) rfl⟩, hS.F ht⟩) hS.2.2 dX12_countRows_23
  ·
    have n_1 : gNe (u_ic.toInt) (0) := g5_eqN (a := u_ic.toInt) (b := 0) rfl (by decide +kernel) c_1
    have i_1 : u_ic.toInt ≥ 1 := by have z := g5_eqN (a := u_ic.toInt) (b := 0) (by rfl) (by decide +kernel) c_1; omega
    exact W.vret hx hb hr (fun t ht hW => ⟨⟨[(b_o, (oc12 u_th u_sa b_rf b_ro b_im b_ke u_fd b_tp u_td u_fr u_to u_so u_wo u_fa u_bd u_nc b_nl u_co b_op b_ar u_le b_pi b_pa u_pd u_od b_ws b_hw u_la b_se b_re u_bk u_va u_su u_ce u_ho u_wy u_bt u_ps b_pt u_tg u_sn b_ip u_ic b_ah b_be b_me u_wd b_tr b_ld u_st b_wn u_id)), (b_ro, (arI G 5740 v_ro)), (b_se, (arJ G 13 v_se)), (b_re, (arJ G 400 v_re)), (b_pt, (arI G 200 v_pt)), (b_ah, (arJ G 49152 v_ah)), (b_be, (arJ G 49152 v_be)), (b_me, (arI G 1536 v_me))], rfl, ⟨u_la, u_bk, u_va, u_su, u_ce, u_ho, u_wy, u_bt, u_ps, u_tg, u_sn, u_ic, u_wd, v_se, v_re, v_pt, v_ah, v_be, v_me, h_u_la, h_u_bk, h_u_ce, h_u_ho, h_u_wy, h_u_bt, h_u_ps, r_pt, h_u_ic, r_me, e_ah, rfl⟩, by rw [ht]; exact hP.sub [0, 1, 2, 3, 4, 5, 6, 7] rfl, hD.sub [0, 1, 2, 3, 4, 5, 6, 7] (by decide +kernel) rfl⟩, hS.F ht⟩) hS.2.2 dX12_countRows_7
set_option maxHeartbeats 4000000 in
set_option maxRecDepth 100000 in
theorem n_fits_P (l : Launch) (G : g5_G) (b_o b_ro b_se b_re b_pt b_ah b_be b_me b_rf b_im b_ke b_tp b_nl b_op b_ar b_pi b_pa b_ws b_hw b_ip b_tr b_ld b_wn : Nat) (sz : Nat) (u_th : Int32) (u_sa : Int32) (u_fd : Int32) (u_td : Int32) (u_fr : Int32) (u_to : Int32) (u_so : Int32) (u_fa : Int32) (u_bd : Int32) (u_nc : Int32) (u_co : Int32) (u_le : Int32) (u_pd : Int32) (u_od : Int32) (u_la : Int32) (u_bk : Int32) (u_ce : Int32) (u_ho : Int32) (u_wy : Int32) (u_bt : Int32) (u_ps : Int32) (u_tg : Int32) (u_sn : Int32) (u_ic : Int32) (u_wd : Int32) (u_id : Int32) (u_wo : Int64) (u_va : Int64) (u_su : Int64) (u_st : Int64) (v_ro : Nat → Int32) (v_se : Nat → Int64) (v_re : Nat → Int64) (v_pt : Nat → Int32) (v_ah : Nat → Int64) (v_be : Nat → Int64) (v_me : Nat → Int32) (h_u_td : 0 ≤ u_td.toInt ∧ u_td.toInt ≤ 400) (h_u_fr : 0 ≤ u_fr.toInt ∧ u_fr.toInt ≤ 400) (h_u_to : 0 ≤ u_to.toInt ∧ u_to.toInt ≤ 400) (h_u_bd : 0 ≤ u_bd.toInt ∧ u_bd.toInt ≤ 1) (h_u_nc : 0 ≤ u_nc.toInt ∧ u_nc.toInt ≤ 12) (h_u_co : 0 ≤ u_co.toInt ∧ u_co.toInt ≤ 400) (h_u_pd : 0 ≤ u_pd.toInt ∧ u_pd.toInt ≤ 400) (h_u_la : 0 ≤ u_la.toInt ∧ u_la.toInt ≤ 4840) (h_u_bk : 0 ≤ u_bk.toInt ∧ u_bk.toInt ≤ 1) (h_u_ce : 0 ≤ u_ce.toInt ∧ u_ce.toInt ≤ 63) (h_u_ho : 0 ≤ u_ho.toInt ∧ u_ho.toInt ≤ 23) (h_u_wy : 0 ≤ u_wy.toInt ∧ u_wy.toInt ≤ 3) (h_u_bt : 0 ≤ u_bt.toInt ∧ u_bt.toInt ≤ 1000000) (h_u_ps : 0 ≤ u_ps.toInt ∧ u_ps.toInt ≤ 200) (h_u_ic : 0 ≤ u_ic.toInt ∧ u_ic.toInt ≤ 1) (h_u_id : 0 ≤ u_id.toInt ∧ u_id.toInt ≤ 1) (r_ro : MI v_ro) (r_pt : PTI v_pt) (r_me : MEI v_me) (e_ah : AH0 v_ah v_me) : Met l yX12_fits_ (wsG yX12_fits_ cX12_fits_ 1 (some .long)) ({ frames := 10, cells := 0, slots := 0, locals := 251 }) (va_Pc [.ref b_o] (g5_P G [(b_o, (oc12 u_th u_sa b_rf b_ro b_im b_ke u_fd b_tp u_td u_fr u_to u_so u_wo u_fa u_bd u_nc b_nl u_co b_op b_ar u_le b_pi b_pa u_pd u_od b_ws b_hw u_la b_se b_re u_bk u_va u_su u_ce u_ho u_wy u_bt u_ps b_pt u_tg u_sn b_ip u_ic b_ah b_be b_me u_wd b_tr b_ld u_st b_wn u_id)), (b_ro, (arI G 5740 v_ro)), (b_se, (arJ G 13 v_se)), (b_re, (arJ G 400 v_re)), (b_pt, (arI G 200 v_pt)), (b_ah, (arJ G 49152 v_ah)), (b_be, (arJ G 49152 v_be)), (b_me, (arI G 1536 v_me))] sz)) (va_Ql (fun (r : Int64) (u : va_W) => (∃ (o_r : Int64) (o_th : Int32) (o_la : Int32) (o_bk : Int32) (o_va : Int64) (o_su : Int64) (o_ce : Int32) (o_ho : Int32) (o_wy : Int32) (o_bt : Int32) (o_ps : Int32) (o_tg : Int32) (o_sn : Int32) (o_ic : Int32) (o_wd : Int32) (o_se : Nat → Int64) (o_re : Nat → Int64) (o_pt : Nat → Int32) (o_ah : Nat → Int64) (o_be : Nat → Int64) (o_me : Nat → Int32), (0 ≤ o_la.toInt ∧ o_la.toInt ≤ 4840) ∧ (0 ≤ o_bk.toInt ∧ o_bk.toInt ≤ 1) ∧ (0 ≤ o_ce.toInt ∧ o_ce.toInt ≤ 63) ∧ (0 ≤ o_ho.toInt ∧ o_ho.toInt ≤ 23) ∧ (0 ≤ o_wy.toInt ∧ o_wy.toInt ≤ 3) ∧ (0 ≤ o_bt.toInt ∧ o_bt.toInt ≤ 1000000) ∧ (0 ≤ o_ps.toInt ∧ o_ps.toInt ≤ 200) ∧ (PTI o_pt) ∧ (0 ≤ o_ic.toInt ∧ o_ic.toInt ≤ 1) ∧ (MEI o_me) ∧ (AH0 o_ah o_me) ∧ (r = o_r) ∧ (u = [(b_o, (oc12 o_th u_sa b_rf b_ro b_im b_ke u_fd b_tp u_td u_fr u_to u_so u_wo u_fa u_bd u_nc b_nl u_co b_op b_ar u_le b_pi b_pa u_pd u_od b_ws b_hw o_la b_se b_re o_bk o_va o_su o_ce o_ho o_wy o_bt o_ps b_pt o_tg o_sn b_ip o_ic b_ah b_be b_me o_wd b_tr b_ld u_st b_wn u_id)), (b_ro, (arI G 5740 v_ro)), (b_se, (arJ G 13 o_se)), (b_re, (arJ G 400 o_re)), (b_pt, (arI G 200 o_pt)), (b_ah, (arJ G 49152 o_ah)), (b_be, (arJ G 49152 o_be)), (b_me, (arI G 1536 o_me))]))) (g5_B G (va_A [(b_o, (oc12 u_th u_sa b_rf b_ro b_im b_ke u_fd b_tp u_td u_fr u_to u_so u_wo u_fa u_bd u_nc b_nl u_co b_op b_ar u_le b_pi b_pa u_pd u_od b_ws b_hw u_la b_se b_re u_bk u_va u_su u_ce u_ho u_wy u_bt u_ps b_pt u_tg u_sn b_ip u_ic b_ah b_be b_me u_wd b_tr b_ld u_st b_wn u_id)), (b_ro, (arI G 5740 v_ro)), (b_se, (arJ G 13 v_se)), (b_re, (arJ G 400 v_re)), (b_pt, (arI G 200 v_pt)), (b_ah, (arJ G 49152 v_ah)), (b_be, (arJ G 49152 v_be)), (b_me, (arI G 1536 v_me))] sz)) (va_A [(b_o, (oc12 u_th u_sa b_rf b_ro b_im b_ke u_fd b_tp u_td u_fr u_to u_so u_wo u_fa u_bd u_nc b_nl u_co b_op b_ar u_le b_pi b_pa u_pd u_od b_ws b_hw u_la b_se b_re u_bk u_va u_su u_ce u_ho u_wy u_bt u_ps b_pt u_tg u_sn b_ip u_ic b_ah b_be b_me u_wd b_tr b_ld u_st b_wn u_id)), (b_ro, (arI G 5740 v_ro)), (b_se, (arJ G 13 v_se)), (b_re, (arJ G 400 v_re)), (b_pt, (arI G 200 v_pt)), (b_ah, (arJ G 49152 v_ah)), (b_be, (arJ G 49152 v_be)), (b_me, (arI G 1536 v_me))] sz)) 0 0 (va_A [(b_o, (oc12 u_th u_sa b_rf b_ro b_im b_ke u_fd b_tp u_td u_fr u_to u_so u_wo u_fa u_bd u_nc b_nl u_co b_op b_ar u_le b_pi b_pa u_pd u_od b_ws b_hw u_la b_se b_re u_bk u_va u_su u_ce u_ho u_wy u_bt u_ps b_pt u_tg u_sn b_ip u_ic b_ah b_be b_me u_wd b_tr b_ld u_st b_wn u_id)), (b_ro, (arI G 5740 v_ro)), (b_se, (arJ G 13 v_se)), (b_re, (arJ G 400 v_re)), (b_pt, (arI G 200 v_pt)), (b_ah, (arJ G 49152 v_ah)), (b_be, (arJ G 49152 v_be)), (b_me, (arI G 1536 v_me))] sz) := by
  refine Met.ofW (cc := cX12_fits_) (maxL := 1) (ret := (some .long)) (by decide +kernel) rfl ?_
  intro p e s m args below meth c s₁ B hml hv
  obtain ⟨rfl, hsz, hP, hK, hD0, hN, hT⟩ := hv
  have hx := B.exec
  have hb := B.bytes
  have hr := B.returns
  have hts : ∀ w ∈ tblG, w.before _ s = true := fun w h => atoms_spec (ws := (wsG yX12_fits_ cX12_fits_ 1 (some .long))) B.pre w (List.mem_cons_of_mem _ h)
  have hown : s.vm.findClass RX12 = some m.cls := findClass_of_methodNamed B.named
  have hlocks := B.notSynchronized
  subst hsz
  have hD := hD0.self (sz := s.heap.size)
  generalize hAe : va_A [(b_o, (oc12 u_th u_sa b_rf b_ro b_im b_ke u_fd b_tp u_td u_fr u_to u_so u_wo u_fa u_bd u_nc b_nl u_co b_op b_ar u_le b_pi b_pa u_pd u_od b_ws b_hw u_la b_se b_re u_bk u_va u_su u_ce u_ho u_wy u_bt u_ps b_pt u_tg u_sn b_ip u_ic b_ah b_be b_me u_wd b_tr b_ld u_st b_wn u_id)), (b_ro, (arI G 5740 v_ro)), (b_se, (arJ G 13 v_se)), (b_re, (arJ G 400 v_re)), (b_pt, (arI G 200 v_pt)), (b_ah, (arJ G 49152 v_ah)), (b_be, (arJ G 49152 v_be)), (b_me, (arI G 1536 v_me))] s.heap.size = A at hD hT ⊢
  have hA : ∀ q : Nat, s.heap.size ≤ q → A q := fun q h => by rw [← hAe]; exact Or.inr h
  have hS : va_S A s.heap s.heap [] := va_S.rf
  replace hP : va_P G.1 vwCl [(b_o, (oc12 u_th u_sa b_rf b_ro b_im b_ke u_fd b_tp u_td u_fr u_to u_so u_wo u_fa u_bd u_nc b_nl u_co b_op b_ar u_le b_pi b_pa u_pd u_od b_ws b_hw u_la b_se b_re u_bk u_va u_su u_ce u_ho u_wy u_bt u_ps b_pt u_tg u_sn b_ip u_ic b_ah b_be b_me u_wd b_tr b_ld u_st b_wn u_id)), (b_ro, (arI G 5740 v_ro)), (b_se, (arJ G 13 v_se)), (b_re, (arJ G 400 v_re)), (b_pt, (arI G 200 v_pt)), (b_ah, (arJ G 49152 v_ah)), (b_be, (arJ G 49152 v_be)), (b_me, (arI G 1536 v_me))] s.heap := hP
  have hl := lv_entry ([.ref b_o]) (n := 1) (Nat.le_of_ble_eq_true rfl)
  rw [lg_entry_eq]
  generalize (lg_sl ([.ref b_o]) ++ List.replicate (1 - (lg_sl ([.ref b_o])).length) Slot.unset).toArray = ls at hl ⊢
  replace hl : lv_has ls 1 [(0, .ref b_o)] := hl
  refine lv_aload_n hx hb dX12_fits__0 rfl (lv_at hl 0 rfl) ?_
  refine lv_iconst (v := 0) hx hb dX12_fits__1 (by decide +kernel) ?_
  refine va_put (D := G.1) (ci := 12) (v := .int 0) (ty := .int) (C := RX12) (T := TX12) (N := 52) hx hb hts inG_X12 tyX12 tyX12_ok nmX12 hown hK hP hD hS 0 rfl rfl 0 (by decide +kernel) (hts _ fl_X12_107) (fun _ h9 => h9) rfl (by decide +kernel) rfl rfl (Nat.le_of_ble_eq_true rfl) dX12_fits__2 ?_
  clear hP hD hS
  intro H locs hP hD hS
  refine g5_rs [(b_o, (oc12 0 u_sa b_rf b_ro b_im b_ke u_fd b_tp u_td u_fr u_to u_so u_wo u_fa u_bd u_nc b_nl u_co b_op b_ar u_le b_pi b_pa u_pd u_od b_ws b_hw u_la b_se b_re u_bk u_va u_su u_ce u_ho u_wy u_bt u_ps b_pt u_tg u_sn b_ip u_ic b_ah b_be b_me u_wd b_tr b_ld u_st b_wn u_id)), (b_ro, (arI G 5740 v_ro)), (b_se, (arJ G 13 v_se)), (b_re, (arJ G 400 v_re)), (b_pt, (arI G 200 v_pt)), (b_ah, (arJ G 49152 v_ah)), (b_be, (arJ G 49152 v_be)), (b_me, (arI G 1536 v_me))] hP hD ?_
  clear hP hD
  intro hP hD
  refine lv_aload_n hx hb dX12_fits__5 rfl (lv_at hl 0 rfl) ?_
  refine W.eq (g2 := F0 m 6 ls [.ref b_o]) rfl ?_
  obtain ⟨hPc, hDc, hFc⟩ := g5_sub3 (wc := [(b_o, (oc12 0 u_sa b_rf b_ro b_im b_ke u_fd b_tp u_td u_fr u_to u_so u_wo u_fa u_bd u_nc b_nl u_co b_op b_ar u_le b_pi b_pa u_pd u_od b_ws b_hw u_la b_se b_re u_bk u_va u_su u_ce u_ho u_wy u_bt u_ps b_pt u_tg u_sn b_ip u_ic b_ah b_be b_me u_wd b_tr b_ld u_st b_wn u_id)), (b_ro, (arI G 5740 v_ro)), (b_se, (arJ G 13 v_se)), (b_re, (arJ G 400 v_re)), (b_pt, (arI G 200 v_pt)), (b_ah, (arJ G 49152 v_ah)), (b_be, (arJ G 49152 v_be)), (b_me, (arI G 1536 v_me))]) hP hD hS hA [0, 1, 2, 3, 4, 5, 6, 7] (by decide +kernel) rfl
  refine va_callv (va_runV (As := []) (rest := []) ⟨hx, hb, hml, hown, hts⟩ (n_countRowsP l G b_o b_ro b_se b_re b_pt b_ah b_be b_me b_rf b_im b_ke b_tp b_nl b_op b_ar b_pi b_pa b_ws b_hw b_ip b_tr b_ld b_wn H.size 0 u_sa u_fd u_td u_fr u_to u_so u_fa u_bd u_nc u_co u_le u_pd u_od u_la u_bk u_ce u_ho u_wy u_bt u_ps u_tg u_sn u_ic u_wd u_id u_wo u_va u_su u_st v_ro v_se v_re v_pt v_ah v_be v_me h_u_td h_u_fr h_u_to h_u_bd h_u_nc h_u_co h_u_pd h_u_la h_u_bk h_u_ce h_u_ho h_u_wy h_u_bt h_u_ps h_u_ic h_u_id (r_ro) (r_pt) (r_me) (e_ah)) (cwV 0 hts gV_X12_444 rfl rfl rfl hv_X12_countRows ⟨Nat.le_of_ble_eq_true rfl, Nat.le_of_ble_eq_true rfl⟩) (g5_preV hPc hK hDc hN hT hS hFc (ci := 12) (q0 := 0) rfl rfl) rfl rfl hl.1 rfl (lv_room (Nat.le_of_ble_eq_true rfl)) dX12_fits__6 ⟨Nat.le_of_ble_eq_true rfl, Nat.le_of_ble_eq_true rfl⟩) hS (fun q _ h => hFc q h) hFc (fun u t H locs ht hvm hw hB hz1 hk1 hS => ?_)
  obtain ⟨hP1, hD1⟩ := hB
  have hP1 := g5_ht ht hP1
  obtain ⟨z12, z13, z14, z15, z16, z17, z18, z19, z20, z21, z22, z23, z24, z25, z26, z27, z28, z29, z30, (i_1 : 0 ≤ z12.toInt ∧ z12.toInt ≤ 4840), (i_2 : 0 ≤ z13.toInt ∧ z13.toInt ≤ 1), (i_3 : 0 ≤ z16.toInt ∧ z16.toInt ≤ 63), (i_4 : 0 ≤ z17.toInt ∧ z17.toInt ≤ 23), (i_5 : 0 ≤ z18.toInt ∧ z18.toInt ≤ 3), (i_6 : 0 ≤ z19.toInt ∧ z19.toInt ≤ 1000000), (i_7 : 0 ≤ z20.toInt ∧ z20.toInt ≤ 200), (i_8 : PTI z27), (i_9 : 0 ≤ z23.toInt ∧ z23.toInt ≤ 1), (i_10 : MEI z30), (i_11 : AH0 z28 z30), rfl⟩ := hw
  have hJ9 := va_join (wr := []) hP hD [0, 1, 2, 3, 4, 5, 6, 7] [] rfl rfl (by decide +kernel) (by decide +kernel) hk1 hFc hP1 hD1
  clear hP hD hPc hDc hFc ht hvm hz1 hk1 hP1 hD1
  obtain ⟨hP, hD⟩ := hJ9
  refine g5_rs [(b_o, (oc12 0 u_sa b_rf b_ro b_im b_ke u_fd b_tp u_td u_fr u_to u_so u_wo u_fa u_bd u_nc b_nl u_co b_op b_ar u_le b_pi b_pa u_pd u_od b_ws b_hw z12 b_se b_re z13 z14 z15 z16 z17 z18 z19 z20 b_pt z21 z22 b_ip z23 b_ah b_be b_me z24 b_tr b_ld u_st b_wn u_id)), (b_ro, (arI G 5740 v_ro)), (b_se, (arJ G 13 z25)), (b_re, (arJ G 400 z26)), (b_pt, (arI G 200 z27)), (b_ah, (arJ G 49152 z28)), (b_be, (arJ G 49152 z29)), (b_me, (arI G 1536 z30))] hP hD ?_
  clear hP hD
  intro hP hD
  refine lv_aload_n hx hb dX12_fits__9 rfl (lv_at hl 0 rfl) ?_
  obtain ⟨hPc, hDc, hFc⟩ := g5_sub3 (wc := [(b_o, (oc12 0 u_sa b_rf b_ro b_im b_ke u_fd b_tp u_td u_fr u_to u_so u_wo u_fa u_bd u_nc b_nl u_co b_op b_ar u_le b_pi b_pa u_pd u_od b_ws b_hw z12 b_se b_re z13 z14 z15 z16 z17 z18 z19 z20 b_pt z21 z22 b_ip z23 b_ah b_be b_me z24 b_tr b_ld u_st b_wn u_id)), (b_ah, (arJ G 49152 z28)), (b_be, (arJ G 49152 z29))]) hP hD hS hA [0, 5, 6] (by decide +kernel) rfl
  refine va_calll (va_runV (As := []) (rest := []) ⟨hx, hb, hml, hown, hts⟩ (n_allRows l G b_o b_ah b_be b_rf b_ro b_im b_ke b_tp b_nl b_op b_ar b_pi b_pa b_ws b_hw b_se b_re b_pt b_ip b_me b_tr b_ld b_wn H.size 0 u_sa u_fd u_td u_fr u_to u_so u_fa u_bd u_nc u_co u_le u_pd u_od z12 z13 z16 z17 z18 z19 z20 z21 z22 z23 z24 u_id u_wo z14 z15 u_st z28 z29 h_u_td h_u_fr h_u_to h_u_bd h_u_nc h_u_co h_u_pd i_1 i_2 i_3 i_4 i_5 i_6 i_7 i_9 h_u_id) (cwV 0 hts gV_X12_447 rfl rfl rfl hv_X12_allRows ⟨Nat.le_of_ble_eq_true rfl, Nat.le_of_ble_eq_true rfl⟩) (g5_preV hPc hK hDc hN hT hS hFc (ci := 12) (q0 := 0) rfl rfl) rfl rfl hl.1 rfl (lv_room (Nat.le_of_ble_eq_true rfl)) dX12_fits__10 ⟨Nat.le_of_ble_eq_true rfl, Nat.le_of_ble_eq_true rfl⟩) hS (fun q _ h => hFc q h) hFc (fun r u t H locs ht hvm hw hB hz1 hk1 hS => ?_)
  obtain ⟨hP1, hD1⟩ := hB
  have hP1 := g5_ht ht hP1
  obtain ⟨z31, y32, rfl⟩ := hw
  have hJ9 := va_join (wr := [(b_ro, (arI G 5740 v_ro)), (b_se, (arJ G 13 z25)), (b_re, (arJ G 400 z26)), (b_pt, (arI G 200 z27)), (b_me, (arI G 1536 z30))]) hP hD [0, 5, 6] [1, 2, 3, 4, 7] rfl rfl (by decide +kernel) (by decide +kernel) hk1 hFc hP1 hD1
  clear hP hD hPc hDc hFc ht hvm hz1 hk1 hP1 hD1
  obtain ⟨hP, hD⟩ := hJ9
  refine g5_rs [(b_ro, (arI G 5740 v_ro)), (b_se, (arJ G 13 z25)), (b_re, (arJ G 400 z26)), (b_pt, (arI G 200 z27)), (b_me, (arI G 1536 z30)), (b_o, (oc12 0 u_sa b_rf b_ro b_im b_ke u_fd b_tp u_td u_fr u_to u_so u_wo u_fa u_bd u_nc b_nl u_co b_op b_ar u_le b_pi b_pa u_pd u_od b_ws b_hw z12 b_se b_re z13 z14 z15 z16 z17 z18 z19 z20 b_pt z21 z22 b_ip z23 b_ah b_be b_me z24 b_tr b_ld u_st b_wn u_id)), (b_ah, (arJ G 49152 z28)), (b_be, (arJ G 49152 z29))] hP hD ?_
  clear hP hD
  intro hP hD
  refine g5_tl (v := z31) y32 ?_
  exact W.lret (v := z31) hx hb hr (fun t ht hW => ⟨⟨z31, [(b_o, (oc12 0 u_sa b_rf b_ro b_im b_ke u_fd b_tp u_td u_fr u_to u_so u_wo u_fa u_bd u_nc b_nl u_co b_op b_ar u_le b_pi b_pa u_pd u_od b_ws b_hw z12 b_se b_re z13 z14 z15 z16 z17 z18 z19 z20 b_pt z21 z22 b_ip z23 b_ah b_be b_me z24 b_tr b_ld u_st b_wn u_id)), (b_ro, (arI G 5740 v_ro)), (b_se, (arJ G 13 z25)), (b_re, (arJ G 400 z26)), (b_pt, (arI G 200 z27)), (b_ah, (arJ G 49152 z28)), (b_be, (arJ G 49152 z29)), (b_me, (arI G 1536 z30))], rfl, ⟨z31, 0, z12, z13, z14, z15, z16, z17, z18, z19, z20, z21, z22, z23, z24, z25, z26, z27, z28, z29, z30, i_1, i_2, i_3, i_4, i_5, i_6, i_7, i_8, i_9, i_10, i_11, rfl, rfl⟩, by rw [ht]; exact hP.sub [5, 0, 1, 2, 3, 6, 7, 4] rfl, hD.sub [5, 0, 1, 2, 3, 6, 7, 4] (by decide +kernel) rfl⟩, hS.F ht⟩) hS.2.2 dX12_fits__13
set_option maxHeartbeats 4000000 in
set_option maxRecDepth 100000 in
theorem n_canFitP (l : Launch) (G : g5_G) (b_o b_ro b_se b_re b_pt b_ah b_be b_me b_rf b_im b_ke b_tp b_nl b_op b_ar b_pi b_pa b_ws b_hw b_ip b_tr b_ld b_wn : Nat) (sz : Nat) (u_th : Int32) (u_sa : Int32) (u_fd : Int32) (u_td : Int32) (u_fr : Int32) (u_to : Int32) (u_so : Int32) (u_fa : Int32) (u_bd : Int32) (u_nc : Int32) (u_co : Int32) (u_le : Int32) (u_pd : Int32) (u_od : Int32) (u_la : Int32) (u_bk : Int32) (u_ce : Int32) (u_ho : Int32) (u_wy : Int32) (u_bt : Int32) (u_ps : Int32) (u_tg : Int32) (u_sn : Int32) (u_ic : Int32) (u_wd : Int32) (u_id : Int32) (p_1 : Int32) (u_wo : Int64) (u_va : Int64) (u_su : Int64) (u_st : Int64) (v_ro : Nat → Int32) (v_se : Nat → Int64) (v_re : Nat → Int64) (v_pt : Nat → Int32) (v_ah : Nat → Int64) (v_be : Nat → Int64) (v_me : Nat → Int32) (h_u_td : 0 ≤ u_td.toInt ∧ u_td.toInt ≤ 400) (h_u_fr : 0 ≤ u_fr.toInt ∧ u_fr.toInt ≤ 400) (h_u_to : 0 ≤ u_to.toInt ∧ u_to.toInt ≤ 400) (h_u_bd : 0 ≤ u_bd.toInt ∧ u_bd.toInt ≤ 1) (h_u_nc : 0 ≤ u_nc.toInt ∧ u_nc.toInt ≤ 12) (h_u_co : 0 ≤ u_co.toInt ∧ u_co.toInt ≤ 400) (h_u_pd : 0 ≤ u_pd.toInt ∧ u_pd.toInt ≤ 400) (h_u_la : 0 ≤ u_la.toInt ∧ u_la.toInt ≤ 4840) (h_u_bk : 0 ≤ u_bk.toInt ∧ u_bk.toInt ≤ 1) (h_u_ce : 0 ≤ u_ce.toInt ∧ u_ce.toInt ≤ 63) (h_u_ho : 0 ≤ u_ho.toInt ∧ u_ho.toInt ≤ 23) (h_u_wy : 0 ≤ u_wy.toInt ∧ u_wy.toInt ≤ 3) (h_u_bt : 0 ≤ u_bt.toInt ∧ u_bt.toInt ≤ 1000000) (h_u_ps : 0 ≤ u_ps.toInt ∧ u_ps.toInt ≤ 200) (h_u_ic : 0 ≤ u_ic.toInt ∧ u_ic.toInt ≤ 1) (h_u_id : 0 ≤ u_id.toInt ∧ u_id.toInt ≤ 1) (r_ro : MI v_ro) (r_pt : PTI v_pt) (r_me : MEI v_me) : Met l yX12_canFit (wsG yX12_canFit cX12_canFit 2 (some .boolean)) ({ frames := 9, cells := 0, slots := 0, locals := 231 }) (va_Pc [.ref b_o, .int p_1] (g5_P G [(b_o, (oc12 u_th u_sa b_rf b_ro b_im b_ke u_fd b_tp u_td u_fr u_to u_so u_wo u_fa u_bd u_nc b_nl u_co b_op b_ar u_le b_pi b_pa u_pd u_od b_ws b_hw u_la b_se b_re u_bk u_va u_su u_ce u_ho u_wy u_bt u_ps b_pt u_tg u_sn b_ip u_ic b_ah b_be b_me u_wd b_tr b_ld u_st b_wn u_id)), (b_ro, (arI G 5740 v_ro)), (b_se, (arJ G 13 v_se)), (b_re, (arJ G 400 v_re)), (b_pt, (arI G 200 v_pt)), (b_ah, (arJ G 49152 v_ah)), (b_be, (arJ G 49152 v_be)), (b_me, (arI G 1536 v_me))] sz)) (va_Qi (fun (r : Int32) (u : va_W) => (∃ (o_r : Int32) (o_la : Int32) (o_bk : Int32) (o_va : Int64) (o_su : Int64) (o_ce : Int32) (o_ho : Int32) (o_wy : Int32) (o_bt : Int32) (o_ps : Int32) (o_tg : Int32) (o_sn : Int32) (o_ic : Int32) (o_wd : Int32) (o_se : Nat → Int64) (o_re : Nat → Int64) (o_pt : Nat → Int32) (o_ah : Nat → Int64) (o_be : Nat → Int64) (o_me : Nat → Int32), (0 ≤ o_r.toInt ∧ o_r.toInt ≤ 1) ∧ (0 ≤ o_la.toInt ∧ o_la.toInt ≤ 4840) ∧ (0 ≤ o_bk.toInt ∧ o_bk.toInt ≤ 1) ∧ (0 ≤ o_ce.toInt ∧ o_ce.toInt ≤ 63) ∧ (0 ≤ o_ho.toInt ∧ o_ho.toInt ≤ 23) ∧ (0 ≤ o_wy.toInt ∧ o_wy.toInt ≤ 3) ∧ (0 ≤ o_bt.toInt ∧ o_bt.toInt ≤ 1000000) ∧ (0 ≤ o_ps.toInt ∧ o_ps.toInt ≤ 200) ∧ (PTI o_pt) ∧ (0 ≤ o_ic.toInt ∧ o_ic.toInt ≤ 1) ∧ (MEI o_me) ∧ (AH0 o_ah o_me) ∧ (r = o_r) ∧ (u = [(b_o, (oc12 u_th u_sa b_rf b_ro b_im b_ke u_fd b_tp u_td u_fr u_to u_so u_wo u_fa u_bd u_nc b_nl u_co b_op b_ar u_le b_pi b_pa u_pd u_od b_ws b_hw o_la b_se b_re o_bk o_va o_su o_ce o_ho o_wy o_bt o_ps b_pt o_tg o_sn b_ip o_ic b_ah b_be b_me o_wd b_tr b_ld u_st b_wn u_id)), (b_ro, (arI G 5740 v_ro)), (b_se, (arJ G 13 o_se)), (b_re, (arJ G 400 o_re)), (b_pt, (arI G 200 o_pt)), (b_ah, (arJ G 49152 o_ah)), (b_be, (arJ G 49152 o_be)), (b_me, (arI G 1536 o_me))]))) (g5_B G (va_A [(b_o, (oc12 u_th u_sa b_rf b_ro b_im b_ke u_fd b_tp u_td u_fr u_to u_so u_wo u_fa u_bd u_nc b_nl u_co b_op b_ar u_le b_pi b_pa u_pd u_od b_ws b_hw u_la b_se b_re u_bk u_va u_su u_ce u_ho u_wy u_bt u_ps b_pt u_tg u_sn b_ip u_ic b_ah b_be b_me u_wd b_tr b_ld u_st b_wn u_id)), (b_ro, (arI G 5740 v_ro)), (b_se, (arJ G 13 v_se)), (b_re, (arJ G 400 v_re)), (b_pt, (arI G 200 v_pt)), (b_ah, (arJ G 49152 v_ah)), (b_be, (arJ G 49152 v_be)), (b_me, (arI G 1536 v_me))] sz)) (va_A [(b_o, (oc12 u_th u_sa b_rf b_ro b_im b_ke u_fd b_tp u_td u_fr u_to u_so u_wo u_fa u_bd u_nc b_nl u_co b_op b_ar u_le b_pi b_pa u_pd u_od b_ws b_hw u_la b_se b_re u_bk u_va u_su u_ce u_ho u_wy u_bt u_ps b_pt u_tg u_sn b_ip u_ic b_ah b_be b_me u_wd b_tr b_ld u_st b_wn u_id)), (b_ro, (arI G 5740 v_ro)), (b_se, (arJ G 13 v_se)), (b_re, (arJ G 400 v_re)), (b_pt, (arI G 200 v_pt)), (b_ah, (arJ G 49152 v_ah)), (b_be, (arJ G 49152 v_be)), (b_me, (arI G 1536 v_me))] sz)) 0 0 (va_A [(b_o, (oc12 u_th u_sa b_rf b_ro b_im b_ke u_fd b_tp u_td u_fr u_to u_so u_wo u_fa u_bd u_nc b_nl u_co b_op b_ar u_le b_pi b_pa u_pd u_od b_ws b_hw u_la b_se b_re u_bk u_va u_su u_ce u_ho u_wy u_bt u_ps b_pt u_tg u_sn b_ip u_ic b_ah b_be b_me u_wd b_tr b_ld u_st b_wn u_id)), (b_ro, (arI G 5740 v_ro)), (b_se, (arJ G 13 v_se)), (b_re, (arJ G 400 v_re)), (b_pt, (arI G 200 v_pt)), (b_ah, (arJ G 49152 v_ah)), (b_be, (arJ G 49152 v_be)), (b_me, (arI G 1536 v_me))] sz) := by
  refine Met.ofW (cc := cX12_canFit) (maxL := 2) (ret := (some .boolean)) (by decide +kernel) rfl ?_
  intro p e s m args below meth c s₁ B hml hv
  obtain ⟨rfl, hsz, hP, hK, hD0, hN, hT⟩ := hv
  have hx := B.exec
  have hb := B.bytes
  have hr := B.returns
  have hts : ∀ w ∈ tblG, w.before _ s = true := fun w h => atoms_spec (ws := (wsG yX12_canFit cX12_canFit 2 (some .boolean))) B.pre w (List.mem_cons_of_mem _ h)
  have hown : s.vm.findClass RX12 = some m.cls := findClass_of_methodNamed B.named
  have hlocks := B.notSynchronized
  subst hsz
  have hD := hD0.self (sz := s.heap.size)
  generalize hAe : va_A [(b_o, (oc12 u_th u_sa b_rf b_ro b_im b_ke u_fd b_tp u_td u_fr u_to u_so u_wo u_fa u_bd u_nc b_nl u_co b_op b_ar u_le b_pi b_pa u_pd u_od b_ws b_hw u_la b_se b_re u_bk u_va u_su u_ce u_ho u_wy u_bt u_ps b_pt u_tg u_sn b_ip u_ic b_ah b_be b_me u_wd b_tr b_ld u_st b_wn u_id)), (b_ro, (arI G 5740 v_ro)), (b_se, (arJ G 13 v_se)), (b_re, (arJ G 400 v_re)), (b_pt, (arI G 200 v_pt)), (b_ah, (arJ G 49152 v_ah)), (b_be, (arJ G 49152 v_be)), (b_me, (arI G 1536 v_me))] s.heap.size = A at hD hT ⊢
  have hA : ∀ q : Nat, s.heap.size ≤ q → A q := fun q h => by rw [← hAe]; exact Or.inr h
  have hS : va_S A s.heap s.heap [] := va_S.rf
  replace hP : va_P G.1 vwCl [(b_o, (oc12 u_th u_sa b_rf b_ro b_im b_ke u_fd b_tp u_td u_fr u_to u_so u_wo u_fa u_bd u_nc b_nl u_co b_op b_ar u_le b_pi b_pa u_pd u_od b_ws b_hw u_la b_se b_re u_bk u_va u_su u_ce u_ho u_wy u_bt u_ps b_pt u_tg u_sn b_ip u_ic b_ah b_be b_me u_wd b_tr b_ld u_st b_wn u_id)), (b_ro, (arI G 5740 v_ro)), (b_se, (arJ G 13 v_se)), (b_re, (arJ G 400 v_re)), (b_pt, (arI G 200 v_pt)), (b_ah, (arJ G 49152 v_ah)), (b_be, (arJ G 49152 v_be)), (b_me, (arI G 1536 v_me))] s.heap := hP
  have hl := lv_entry ([.ref b_o, .int p_1]) (n := 2) (Nat.le_of_ble_eq_true rfl)
  rw [lg_entry_eq]
  generalize (lg_sl ([.ref b_o, .int p_1]) ++ List.replicate (2 - (lg_sl ([.ref b_o, .int p_1])).length) Slot.unset).toArray = ls at hl ⊢
  replace hl : lv_has ls 2 [(0, .ref b_o), (1, .int p_1)] := hl
  refine lv_aload_n hx hb dX12_canFit_0 rfl (lv_at hl 0 rfl) ?_
  refine lv_iload_n hx hb dX12_canFit_1 rfl (lv_at hl 1 rfl) ?_
  refine lv_iconst (v := 0) hx hb dX12_canFit_2 (by decide +kernel) ?_
  refine lv_iconst (v := (-1)) hx hb dX12_canFit_3 (by decide +kernel) ?_
  refine W.eq (g2 := F0 m 4 ls [.int (-1), .int 0, .int p_1, .ref b_o]) rfl ?_
  refine lv_iconst (v := 0) hx hb dX12_canFit_4 (by decide +kernel) ?_
  obtain ⟨hPc, hDc, hFc⟩ := g5_sub3 (wc := [(b_o, (oc12 u_th u_sa b_rf b_ro b_im b_ke u_fd b_tp u_td u_fr u_to u_so u_wo u_fa u_bd u_nc b_nl u_co b_op b_ar u_le b_pi b_pa u_pd u_od b_ws b_hw u_la b_se b_re u_bk u_va u_su u_ce u_ho u_wy u_bt u_ps b_pt u_tg u_sn b_ip u_ic b_ah b_be b_me u_wd b_tr b_ld u_st b_wn u_id)), (b_ro, (arI G 5740 v_ro)), (b_se, (arJ G 13 v_se)), (b_re, (arJ G 400 v_re)), (b_pt, (arI G 200 v_pt)), (b_ah, (arJ G 49152 v_ah)), (b_be, (arJ G 49152 v_be)), (b_me, (arI G 1536 v_me))]) hP hD hS hA [0, 1, 2, 3, 4, 5, 6, 7] (by decide +kernel) rfl
  refine va_callv (va_runV (As := [.int p_1, .int 0, .int (-1), .int 0]) (rest := []) ⟨hx, hb, hml, hown, hts⟩ (n_countForP l G b_o b_ro b_se b_re b_pt b_ah b_be b_me b_rf b_im b_ke b_tp b_nl b_op b_ar b_pi b_pa b_ws b_hw b_ip b_tr b_ld b_wn s.heap.size u_th u_sa u_fd u_td u_fr u_to u_so u_fa u_bd u_nc u_co u_le u_pd u_od u_la u_bk u_ce u_ho u_wy u_bt u_ps u_tg u_sn u_ic u_wd u_id p_1 0 (-1) 0 u_wo u_va u_su u_st v_ro v_se v_re v_pt v_ah v_be v_me h_u_td h_u_fr h_u_to h_u_bd h_u_nc h_u_co h_u_pd h_u_la h_u_bk h_u_ce h_u_ho h_u_wy h_u_bt h_u_ps h_u_ic h_u_id ⟨by decide, by decide⟩ ⟨by decide, by decide⟩ ⟨by decide, by decide⟩ (r_ro) (r_pt) (r_me)) (cwV 4 hts gV_X12_425 rfl rfl rfl hv_X12_countFor ⟨Nat.le_of_ble_eq_true rfl, Nat.le_of_ble_eq_true rfl⟩) (g5_preV hPc hK hDc hN hT hS hFc (ci := 12) (q0 := 0) rfl rfl) rfl rfl hl.1 rfl (lv_room (Nat.le_of_ble_eq_true rfl)) dX12_canFit_5 ⟨Nat.le_of_ble_eq_true rfl, Nat.le_of_ble_eq_true rfl⟩) hS (fun q _ h => hFc q h) hFc (fun u t H locs ht hvm hw hB hz1 hk1 hS => ?_)
  obtain ⟨hP1, hD1⟩ := hB
  have hP1 := g5_ht ht hP1
  obtain ⟨z12, z13, z14, z15, z16, z17, z18, z19, z20, z21, z22, z23, z24, z25, z26, z27, z28, z29, z30, (i_1 : 0 ≤ z12.toInt ∧ z12.toInt ≤ 4840), (i_2 : 0 ≤ z13.toInt ∧ z13.toInt ≤ 1), (i_3 : 0 ≤ z16.toInt ∧ z16.toInt ≤ 63), (i_4 : 0 ≤ z17.toInt ∧ z17.toInt ≤ 23), (i_5 : 0 ≤ z18.toInt ∧ z18.toInt ≤ 3), (i_6 : 0 ≤ z19.toInt ∧ z19.toInt ≤ 1000000), (i_7 : 0 ≤ z20.toInt ∧ z20.toInt ≤ 200), (i_8 : PTI z27), (i_9 : 0 ≤ z23.toInt ∧ z23.toInt ≤ 1), (i_10 : MEI z30), (i_11 : AH0 z28 z30), rfl⟩ := hw
  have hJ9 := va_join (wr := []) hP hD [0, 1, 2, 3, 4, 5, 6, 7] [] rfl rfl (by decide +kernel) (by decide +kernel) hk1 hFc hP1 hD1
  clear hP hD hPc hDc hFc ht hvm hz1 hk1 hP1 hD1
  obtain ⟨hP, hD⟩ := hJ9
  refine g5_rs [(b_o, (oc12 u_th u_sa b_rf b_ro b_im b_ke u_fd b_tp u_td u_fr u_to u_so u_wo u_fa u_bd u_nc b_nl u_co b_op b_ar u_le b_pi b_pa u_pd u_od b_ws b_hw z12 b_se b_re z13 z14 z15 z16 z17 z18 z19 z20 b_pt z21 z22 b_ip z23 b_ah b_be b_me z24 b_tr b_ld u_st b_wn u_id)), (b_ro, (arI G 5740 v_ro)), (b_se, (arJ G 13 z25)), (b_re, (arJ G 400 z26)), (b_pt, (arI G 200 z27)), (b_ah, (arJ G 49152 z28)), (b_be, (arJ G 49152 z29)), (b_me, (arI G 1536 z30))] hP hD ?_
  clear hP hD
  intro hP hD
  refine lv_aload_n hx hb dX12_canFit_8 rfl (lv_at hl 0 rfl) ?_
  obtain ⟨hPc, hDc, hFc⟩ := g5_sub3 (wc := [(b_o, (oc12 u_th u_sa b_rf b_ro b_im b_ke u_fd b_tp u_td u_fr u_to u_so u_wo u_fa u_bd u_nc b_nl u_co b_op b_ar u_le b_pi b_pa u_pd u_od b_ws b_hw z12 b_se b_re z13 z14 z15 z16 z17 z18 z19 z20 b_pt z21 z22 b_ip z23 b_ah b_be b_me z24 b_tr b_ld u_st b_wn u_id)), (b_ah, (arJ G 49152 z28)), (b_be, (arJ G 49152 z29))]) hP hD hS hA [0, 5, 6] (by decide +kernel) rfl
  refine va_calll (va_runV (As := []) (rest := []) ⟨hx, hb, hml, hown, hts⟩ (n_allRows l G b_o b_ah b_be b_rf b_ro b_im b_ke b_tp b_nl b_op b_ar b_pi b_pa b_ws b_hw b_se b_re b_pt b_ip b_me b_tr b_ld b_wn H.size u_th u_sa u_fd u_td u_fr u_to u_so u_fa u_bd u_nc u_co u_le u_pd u_od z12 z13 z16 z17 z18 z19 z20 z21 z22 z23 z24 u_id u_wo z14 z15 u_st z28 z29 h_u_td h_u_fr h_u_to h_u_bd h_u_nc h_u_co h_u_pd i_1 i_2 i_3 i_4 i_5 i_6 i_7 i_9 h_u_id) (cwV 0 hts gV_X12_447 rfl rfl rfl hv_X12_allRows ⟨Nat.le_of_ble_eq_true rfl, Nat.le_of_ble_eq_true rfl⟩) (g5_preV hPc hK hDc hN hT hS hFc (ci := 12) (q0 := 0) rfl rfl) rfl rfl hl.1 rfl (lv_room (Nat.le_of_ble_eq_true rfl)) dX12_canFit_9 ⟨Nat.le_of_ble_eq_true rfl, Nat.le_of_ble_eq_true rfl⟩) hS (fun q _ h => hFc q h) hFc (fun r u t H locs ht hvm hw hB hz1 hk1 hS => ?_)
  obtain ⟨hP1, hD1⟩ := hB
  have hP1 := g5_ht ht hP1
  obtain ⟨z31, y32, rfl⟩ := hw
  have hJ9 := va_join (wr := [(b_ro, (arI G 5740 v_ro)), (b_se, (arJ G 13 z25)), (b_re, (arJ G 400 z26)), (b_pt, (arI G 200 z27)), (b_me, (arI G 1536 z30))]) hP hD [0, 5, 6] [1, 2, 3, 4, 7] rfl rfl (by decide +kernel) (by decide +kernel) hk1 hFc hP1 hD1
  clear hP hD hPc hDc hFc ht hvm hz1 hk1 hP1 hD1
  obtain ⟨hP, hD⟩ := hJ9
  refine g5_rs [(b_ro, (arI G 5740 v_ro)), (b_se, (arJ G 13 z25)), (b_re, (arJ G 400 z26)), (b_pt, (arI G 200 z27)), (b_me, (arI G 1536 z30)), (b_o, (oc12 u_th u_sa b_rf b_ro b_im b_ke u_fd b_tp u_td u_fr u_to u_so u_wo u_fa u_bd u_nc b_nl u_co b_op b_ar u_le b_pi b_pa u_pd u_od b_ws b_hw z12 b_se b_re z13 z14 z15 z16 z17 z18 z19 z20 b_pt z21 z22 b_ip z23 b_ah b_be b_me z24 b_tr b_ld u_st b_wn u_id)), (b_ah, (arJ G 49152 z28)), (b_be, (arJ G 49152 z29))] hP hD ?_
  clear hP hD
  intro hP hD
  refine g5_tl (v := z31) y32 ?_
  refine lv_lconst (v := 0) hx hb dX12_canFit_12 (by decide +kernel) ?_
  refine W.eq (g2 := F0 m 13 ls [.long 0, .long z31]) rfl ?_
  refine W.lcmp hx hb dX12_canFit_13 ?_
  refine lv_if_le (tgt := 21) hx hb dX12_canFit_14 (by decide +kernel) (fun c_33 => ?_) (fun c_33 => ?_)
  ·
    have i_33 : (lg_cmp z31 0).toInt ≤ 0 := g5_le (a := (lg_cmp z31 0).toInt) (b := 0) rfl (by decide +kernel) c_33
    refine lv_iconst (v := 0) hx hb dX12_canFit_21 (by decide +kernel) ?_
    exact W.zret (v := 0) hx hb hr rfl (fun t ht hW => ⟨⟨0, [(b_o, (oc12 u_th u_sa b_rf b_ro b_im b_ke u_fd b_tp u_td u_fr u_to u_so u_wo u_fa u_bd u_nc b_nl u_co b_op b_ar u_le b_pi b_pa u_pd u_od b_ws b_hw z12 b_se b_re z13 z14 z15 z16 z17 z18 z19 z20 b_pt z21 z22 b_ip z23 b_ah b_be b_me z24 b_tr b_ld u_st b_wn u_id)), (b_ro, (arI G 5740 v_ro)), (b_se, (arJ G 13 z25)), (b_re, (arJ G 400 z26)), (b_pt, (arI G 200 z27)), (b_ah, (arJ G 49152 z28)), (b_be, (arJ G 49152 z29)), (b_me, (arI G 1536 z30))], rfl, ⟨0, z12, z13, z14, z15, z16, z17, z18, z19, z20, z21, z22, z23, z24, z25, z26, z27, z28, z29, z30, ⟨by have zc_o_r : (0 : Int32).toInt = 0 := (by decide +kernel); omega, by have zc_o_r : (0 : Int32).toInt = 0 := (by decide +kernel); omega⟩, i_1, i_2, i_3, i_4, i_5, i_6, i_7, i_8, i_9, i_10, i_11, rfl, rfl⟩, by rw [ht]; exact hP.sub [5, 0, 1, 2, 3, 6, 7, 4] rfl, hD.sub [5, 0, 1, 2, 3, 6, 7, 4] (by decide +kernel) rfl⟩, hS.F ht⟩) hS.2.2 dX12_canFit_22
  ·
    have i_33 : (lg_cmp z31 0).toInt > 0 := g5_leN (a := (lg_cmp z31 0).toInt) (b := 0) rfl (by decide +kernel) c_33
    refine lv_iconst (v := 1) hx hb dX12_canFit_17 (by decide +kernel) ?_
    refine lv_goto (tgt := 22) hx hb dX12_canFit_18 (by decide +kernel) ?_
    exact W.zret (v := 1) hx hb hr rfl (fun t ht hW => ⟨⟨1, [(b_o, (oc12 u_th u_sa b_rf b_ro b_im b_ke u_fd b_tp u_td u_fr u_to u_so u_wo u_fa u_bd u_nc b_nl u_co b_op b_ar u_le b_pi b_pa u_pd u_od b_ws b_hw z12 b_se b_re z13 z14 z15 z16 z17 z18 z19 z20 b_pt z21 z22 b_ip z23 b_ah b_be b_me z24 b_tr b_ld u_st b_wn u_id)), (b_ro, (arI G 5740 v_ro)), (b_se, (arJ G 13 z25)), (b_re, (arJ G 400 z26)), (b_pt, (arI G 200 z27)), (b_ah, (arJ G 49152 z28)), (b_be, (arJ G 49152 z29)), (b_me, (arI G 1536 z30))], rfl, ⟨1, z12, z13, z14, z15, z16, z17, z18, z19, z20, z21, z22, z23, z24, z25, z26, z27, z28, z29, z30, ⟨by have zc_o_r : (1 : Int32).toInt = 1 := (by decide +kernel); omega, by have zc_o_r : (1 : Int32).toInt = 1 := (by decide +kernel); omega⟩, i_1, i_2, i_3, i_4, i_5, i_6, i_7, i_8, i_9, i_10, i_11, rfl, rfl⟩, by rw [ht]; exact hP.sub [5, 0, 1, 2, 3, 6, 7, 4] rfl, hD.sub [5, 0, 1, 2, 3, 6, 7, 4] (by decide +kernel) rfl⟩, hS.F ht⟩) hS.2.2 dX12_canFit_22
set_option maxHeartbeats 4000000 in
set_option maxRecDepth 100000 in
theorem n_coreP (l : Launch) (G : g5_G) (b_o b_ro b_se b_re b_pt b_ah b_be b_me b_rf b_im b_ke b_tp b_nl b_op b_ar b_pi b_pa b_ws b_hw b_ip b_tr b_ld b_wn : Nat) (sz : Nat) (u_th : Int32) (u_sa : Int32) (u_fd : Int32) (u_td : Int32) (u_fr : Int32) (u_to : Int32) (u_so : Int32) (u_fa : Int32) (u_bd : Int32) (u_nc : Int32) (u_co : Int32) (u_le : Int32) (u_pd : Int32) (u_od : Int32) (u_la : Int32) (u_bk : Int32) (u_ce : Int32) (u_ho : Int32) (u_wy : Int32) (u_bt : Int32) (u_ps : Int32) (u_tg : Int32) (u_sn : Int32) (u_ic : Int32) (u_wd : Int32) (u_id : Int32) (u_wo : Int64) (u_va : Int64) (u_su : Int64) (u_st : Int64) (v_ro : Nat → Int32) (v_se : Nat → Int64) (v_re : Nat → Int64) (v_pt : Nat → Int32) (v_ah : Nat → Int64) (v_be : Nat → Int64) (v_me : Nat → Int32) (h_u_td : 0 ≤ u_td.toInt ∧ u_td.toInt ≤ 400) (h_u_fr : 0 ≤ u_fr.toInt ∧ u_fr.toInt ≤ 400) (h_u_to : 0 ≤ u_to.toInt ∧ u_to.toInt ≤ 400) (h_u_bd : 0 ≤ u_bd.toInt ∧ u_bd.toInt ≤ 1) (h_u_nc : 0 ≤ u_nc.toInt ∧ u_nc.toInt ≤ 12) (h_u_co : 0 ≤ u_co.toInt ∧ u_co.toInt ≤ 400) (h_u_pd : 0 ≤ u_pd.toInt ∧ u_pd.toInt ≤ 400) (h_u_la : 0 ≤ u_la.toInt ∧ u_la.toInt ≤ 4840) (h_u_bk : 0 ≤ u_bk.toInt ∧ u_bk.toInt ≤ 1) (h_u_ce : 0 ≤ u_ce.toInt ∧ u_ce.toInt ≤ 63) (h_u_ho : 0 ≤ u_ho.toInt ∧ u_ho.toInt ≤ 23) (h_u_wy : 0 ≤ u_wy.toInt ∧ u_wy.toInt ≤ 3) (h_u_bt : 0 ≤ u_bt.toInt ∧ u_bt.toInt ≤ 1000000) (h_u_ps : 0 ≤ u_ps.toInt ∧ u_ps.toInt ≤ 200) (h_u_ic : 0 ≤ u_ic.toInt ∧ u_ic.toInt ≤ 1) (h_u_id : 0 ≤ u_id.toInt ∧ u_id.toInt ≤ 1) (r_ro : MI v_ro) (r_pt : PTI v_pt) (r_me : MEI v_me) (e_ah : AH0 v_ah v_me) : Met l yX12_core (wsG yX12_core cX12_core 3 (some .int)) ({ frames := 10, cells := 0, slots := 0, locals := 252 }) (va_Pc [.ref b_o] (g5_P G [(b_o, (oc12 u_th u_sa b_rf b_ro b_im b_ke u_fd b_tp u_td u_fr u_to u_so u_wo u_fa u_bd u_nc b_nl u_co b_op b_ar u_le b_pi b_pa u_pd u_od b_ws b_hw u_la b_se b_re u_bk u_va u_su u_ce u_ho u_wy u_bt u_ps b_pt u_tg u_sn b_ip u_ic b_ah b_be b_me u_wd b_tr b_ld u_st b_wn u_id)), (b_ro, (arI G 5740 v_ro)), (b_se, (arJ G 13 v_se)), (b_re, (arJ G 400 v_re)), (b_pt, (arI G 200 v_pt)), (b_ah, (arJ G 49152 v_ah)), (b_be, (arJ G 49152 v_be)), (b_me, (arI G 1536 v_me))] sz)) (va_Qi (fun (r : Int32) (u : va_W) => (∃ (o_r : Int32) (o_th : Int32) (o_la : Int32) (o_bk : Int32) (o_va : Int64) (o_su : Int64) (o_ce : Int32) (o_ho : Int32) (o_wy : Int32) (o_bt : Int32) (o_ps : Int32) (o_tg : Int32) (o_sn : Int32) (o_ic : Int32) (o_wd : Int32) (o_se : Nat → Int64) (o_re : Nat → Int64) (o_pt : Nat → Int32) (o_ah : Nat → Int64) (o_be : Nat → Int64) (o_me : Nat → Int32), (0 ≤ o_la.toInt ∧ o_la.toInt ≤ 4840) ∧ (0 ≤ o_bk.toInt ∧ o_bk.toInt ≤ 1) ∧ (0 ≤ o_ce.toInt ∧ o_ce.toInt ≤ 63) ∧ (0 ≤ o_ho.toInt ∧ o_ho.toInt ≤ 23) ∧ (0 ≤ o_wy.toInt ∧ o_wy.toInt ≤ 3) ∧ (0 ≤ o_bt.toInt ∧ o_bt.toInt ≤ 1000000) ∧ (0 ≤ o_ps.toInt ∧ o_ps.toInt ≤ 200) ∧ (PTI o_pt) ∧ (0 ≤ o_ic.toInt ∧ o_ic.toInt ≤ 1) ∧ (MEI o_me) ∧ (AH0 o_ah o_me) ∧ (r = o_r) ∧ (u = [(b_o, (oc12 o_th u_sa b_rf b_ro b_im b_ke u_fd b_tp u_td u_fr u_to u_so u_wo u_fa u_bd u_nc b_nl u_co b_op b_ar u_le b_pi b_pa u_pd u_od b_ws b_hw o_la b_se b_re o_bk o_va o_su o_ce o_ho o_wy o_bt o_ps b_pt o_tg o_sn b_ip o_ic b_ah b_be b_me o_wd b_tr b_ld u_st b_wn u_id)), (b_ro, (arI G 5740 v_ro)), (b_se, (arJ G 13 o_se)), (b_re, (arJ G 400 o_re)), (b_pt, (arI G 200 o_pt)), (b_ah, (arJ G 49152 o_ah)), (b_be, (arJ G 49152 o_be)), (b_me, (arI G 1536 o_me))]))) (g5_B G (va_A [(b_o, (oc12 u_th u_sa b_rf b_ro b_im b_ke u_fd b_tp u_td u_fr u_to u_so u_wo u_fa u_bd u_nc b_nl u_co b_op b_ar u_le b_pi b_pa u_pd u_od b_ws b_hw u_la b_se b_re u_bk u_va u_su u_ce u_ho u_wy u_bt u_ps b_pt u_tg u_sn b_ip u_ic b_ah b_be b_me u_wd b_tr b_ld u_st b_wn u_id)), (b_ro, (arI G 5740 v_ro)), (b_se, (arJ G 13 v_se)), (b_re, (arJ G 400 v_re)), (b_pt, (arI G 200 v_pt)), (b_ah, (arJ G 49152 v_ah)), (b_be, (arJ G 49152 v_be)), (b_me, (arI G 1536 v_me))] sz)) (va_A [(b_o, (oc12 u_th u_sa b_rf b_ro b_im b_ke u_fd b_tp u_td u_fr u_to u_so u_wo u_fa u_bd u_nc b_nl u_co b_op b_ar u_le b_pi b_pa u_pd u_od b_ws b_hw u_la b_se b_re u_bk u_va u_su u_ce u_ho u_wy u_bt u_ps b_pt u_tg u_sn b_ip u_ic b_ah b_be b_me u_wd b_tr b_ld u_st b_wn u_id)), (b_ro, (arI G 5740 v_ro)), (b_se, (arJ G 13 v_se)), (b_re, (arJ G 400 v_re)), (b_pt, (arI G 200 v_pt)), (b_ah, (arJ G 49152 v_ah)), (b_be, (arJ G 49152 v_be)), (b_me, (arI G 1536 v_me))] sz)) 0 0 (va_A [(b_o, (oc12 u_th u_sa b_rf b_ro b_im b_ke u_fd b_tp u_td u_fr u_to u_so u_wo u_fa u_bd u_nc b_nl u_co b_op b_ar u_le b_pi b_pa u_pd u_od b_ws b_hw u_la b_se b_re u_bk u_va u_su u_ce u_ho u_wy u_bt u_ps b_pt u_tg u_sn b_ip u_ic b_ah b_be b_me u_wd b_tr b_ld u_st b_wn u_id)), (b_ro, (arI G 5740 v_ro)), (b_se, (arJ G 13 v_se)), (b_re, (arJ G 400 v_re)), (b_pt, (arI G 200 v_pt)), (b_ah, (arJ G 49152 v_ah)), (b_be, (arJ G 49152 v_be)), (b_me, (arI G 1536 v_me))] sz) := by
  refine Met.ofW (cc := cX12_core) (maxL := 3) (ret := (some .int)) (by decide +kernel) rfl ?_
  intro p e s m args below meth c s₁ B hml hv
  obtain ⟨rfl, hsz, hP, hK, hD0, hN, hT⟩ := hv
  have hx := B.exec
  have hb := B.bytes
  have hr := B.returns
  have hts : ∀ w ∈ tblG, w.before _ s = true := fun w h => atoms_spec (ws := (wsG yX12_core cX12_core 3 (some .int))) B.pre w (List.mem_cons_of_mem _ h)
  have hown : s.vm.findClass RX12 = some m.cls := findClass_of_methodNamed B.named
  have hlocks := B.notSynchronized
  subst hsz
  have hD := hD0.self (sz := s.heap.size)
  generalize hAe : va_A [(b_o, (oc12 u_th u_sa b_rf b_ro b_im b_ke u_fd b_tp u_td u_fr u_to u_so u_wo u_fa u_bd u_nc b_nl u_co b_op b_ar u_le b_pi b_pa u_pd u_od b_ws b_hw u_la b_se b_re u_bk u_va u_su u_ce u_ho u_wy u_bt u_ps b_pt u_tg u_sn b_ip u_ic b_ah b_be b_me u_wd b_tr b_ld u_st b_wn u_id)), (b_ro, (arI G 5740 v_ro)), (b_se, (arJ G 13 v_se)), (b_re, (arJ G 400 v_re)), (b_pt, (arI G 200 v_pt)), (b_ah, (arJ G 49152 v_ah)), (b_be, (arJ G 49152 v_be)), (b_me, (arI G 1536 v_me))] s.heap.size = A at hD hT ⊢
  have hA : ∀ q : Nat, s.heap.size ≤ q → A q := fun q h => by rw [← hAe]; exact Or.inr h
  have hS : va_S A s.heap s.heap [] := va_S.rf
  replace hP : va_P G.1 vwCl [(b_o, (oc12 u_th u_sa b_rf b_ro b_im b_ke u_fd b_tp u_td u_fr u_to u_so u_wo u_fa u_bd u_nc b_nl u_co b_op b_ar u_le b_pi b_pa u_pd u_od b_ws b_hw u_la b_se b_re u_bk u_va u_su u_ce u_ho u_wy u_bt u_ps b_pt u_tg u_sn b_ip u_ic b_ah b_be b_me u_wd b_tr b_ld u_st b_wn u_id)), (b_ro, (arI G 5740 v_ro)), (b_se, (arJ G 13 v_se)), (b_re, (arJ G 400 v_re)), (b_pt, (arI G 200 v_pt)), (b_ah, (arJ G 49152 v_ah)), (b_be, (arJ G 49152 v_be)), (b_me, (arI G 1536 v_me))] s.heap := hP
  have hl := lv_entry ([.ref b_o]) (n := 3) (Nat.le_of_ble_eq_true rfl)
  rw [lg_entry_eq]
  generalize (lg_sl ([.ref b_o]) ++ List.replicate (3 - (lg_sl ([.ref b_o])).length) Slot.unset).toArray = ls at hl ⊢
  replace hl : lv_has ls 3 [(0, .ref b_o)] := hl
  refine lv_aload_n hx hb dX12_core_0 rfl (lv_at hl 0 rfl) ?_
  refine lv_iconst (v := 0) hx hb dX12_core_1 (by decide +kernel) ?_
  refine va_put (D := G.1) (ci := 12) (v := .int 0) (ty := .int) (C := RX12) (T := TX12) (N := 52) hx hb hts inG_X12 tyX12 tyX12_ok nmX12 hown hK hP hD hS 0 rfl rfl 0 (by decide +kernel) (hts _ fl_X12_107) (fun _ h9 => h9) rfl (by decide +kernel) rfl rfl (Nat.le_of_ble_eq_true rfl) dX12_core_2 ?_
  clear hP hD hS
  intro H locs hP hD hS
  refine g5_rs [(b_o, (oc12 0 u_sa b_rf b_ro b_im b_ke u_fd b_tp u_td u_fr u_to u_so u_wo u_fa u_bd u_nc b_nl u_co b_op b_ar u_le b_pi b_pa u_pd u_od b_ws b_hw u_la b_se b_re u_bk u_va u_su u_ce u_ho u_wy u_bt u_ps b_pt u_tg u_sn b_ip u_ic b_ah b_be b_me u_wd b_tr b_ld u_st b_wn u_id)), (b_ro, (arI G 5740 v_ro)), (b_se, (arJ G 13 v_se)), (b_re, (arJ G 400 v_re)), (b_pt, (arI G 200 v_pt)), (b_ah, (arJ G 49152 v_ah)), (b_be, (arJ G 49152 v_be)), (b_me, (arI G 1536 v_me))] hP hD ?_
  clear hP hD
  intro hP hD
  refine lv_iconst (v := 1) hx hb dX12_core_5 (by decide +kernel) ?_
  refine W.eq (g2 := F0 m 6 ls [.int 1]) rfl ?_
  refine lv_aload_n hx hb dX12_core_6 rfl (lv_at hl 0 rfl) ?_
  refine va_get (D := G.1) (ci := 12) (v := .ref b_ro) (C := RX12) (T := TX12) (N := 52) hx hb hts inG_X12 hown hK hP 0 rfl rfl 3 (by decide +kernel) (hts _ fl_X12_13) (fun _ h9 => h9) rfl dX12_core_7 ?_
  refine lv_iconst (v := 5) hx hb dX12_core_10 (by decide +kernel) ?_
  refine va_iald hx hb hK hP 1 0 rfl rfl (i := 5) (by unfold vp_in; decide) dX12_core_11 ?_
  refine g5_ti (v := (v_ro 5)) rfl ?_
  have hr_1 : 0 ≤ (v_ro 5).toInt ∧ (v_ro 5).toInt ≤ 10 := mi_5 r_ro
  refine lv_ishl hx hb dX12_core_12 ?_
  refine W.eq (g2 := F0 m 13 ls [.int (1 <<< ((v_ro 5) &&& 31))]) rfl ?_
  refine lv_iconst (v := 1) hx hb dX12_core_13 (by decide +kernel) ?_
  refine lv_isub hx hb dX12_core_14 ?_
  refine lv_istore_n (lv' := [(1, .int ((1 <<< ((v_ro 5) &&& 31)) - 1)), (0, .ref b_o)]) hx hb dX12_core_15 rfl hl (by decide +kernel) rfl ?_
  clear hl
  intro ls hl
  refine lv_aload_n hx hb dX12_core_16 rfl (lv_at hl 1 rfl) ?_
  refine lv_iload_n hx hb dX12_core_17 rfl (lv_at hl 0 rfl) ?_
  refine W.eq (g2 := F0 m 18 ls [.int ((1 <<< ((v_ro 5) &&& 31)) - 1), .ref b_o]) rfl ?_
  obtain ⟨hPc, hDc, hFc⟩ := g5_sub3 (wc := [(b_o, (oc12 0 u_sa b_rf b_ro b_im b_ke u_fd b_tp u_td u_fr u_to u_so u_wo u_fa u_bd u_nc b_nl u_co b_op b_ar u_le b_pi b_pa u_pd u_od b_ws b_hw u_la b_se b_re u_bk u_va u_su u_ce u_ho u_wy u_bt u_ps b_pt u_tg u_sn b_ip u_ic b_ah b_be b_me u_wd b_tr b_ld u_st b_wn u_id)), (b_ro, (arI G 5740 v_ro)), (b_se, (arJ G 13 v_se)), (b_re, (arJ G 400 v_re)), (b_pt, (arI G 200 v_pt)), (b_ah, (arJ G 49152 v_ah)), (b_be, (arJ G 49152 v_be)), (b_me, (arI G 1536 v_me))]) hP hD hS hA [0, 1, 2, 3, 4, 5, 6, 7] (by decide +kernel) rfl
  refine va_calli (va_runV (As := [.int ((1 <<< ((v_ro 5) &&& 31)) - 1)]) (rest := []) ⟨hx, hb, hml, hown, hts⟩ (n_canFitP l G b_o b_ro b_se b_re b_pt b_ah b_be b_me b_rf b_im b_ke b_tp b_nl b_op b_ar b_pi b_pa b_ws b_hw b_ip b_tr b_ld b_wn H.size 0 u_sa u_fd u_td u_fr u_to u_so u_fa u_bd u_nc u_co u_le u_pd u_od u_la u_bk u_ce u_ho u_wy u_bt u_ps u_tg u_sn u_ic u_wd u_id ((1 <<< ((v_ro 5) &&& 31)) - 1) u_wo u_va u_su u_st v_ro v_se v_re v_pt v_ah v_be v_me h_u_td h_u_fr h_u_to h_u_bd h_u_nc h_u_co h_u_pd h_u_la h_u_bk h_u_ce h_u_ho h_u_wy h_u_bt h_u_ps h_u_ic h_u_id (r_ro) (r_pt) (r_me)) (cwV 1 hts gV_X12_451 rfl rfl rfl hv_X12_canFit ⟨Nat.le_of_ble_eq_true rfl, Nat.le_of_ble_eq_true rfl⟩) (g5_preV hPc hK hDc hN hT hS hFc (ci := 12) (q0 := 0) rfl rfl) rfl rfl hl.1 rfl (lv_room (Nat.le_of_ble_eq_true rfl)) dX12_core_18 ⟨Nat.le_of_ble_eq_true rfl, Nat.le_of_ble_eq_true rfl⟩) hS (fun q _ h => hFc q h) hFc (fun r u t H locs ht hvm hw hB hz1 hk1 hS => ?_)
  obtain ⟨hP1, hD1⟩ := hB
  have hP1 := g5_ht ht hP1
  obtain ⟨z14, z15, z16, z17, z18, z19, z20, z21, z22, z23, z24, z25, z26, z27, z28, z29, z30, z31, z32, z33, (i_2 : 0 ≤ z14.toInt ∧ z14.toInt ≤ 1), (i_3 : 0 ≤ z15.toInt ∧ z15.toInt ≤ 4840), (i_4 : 0 ≤ z16.toInt ∧ z16.toInt ≤ 1), (i_5 : 0 ≤ z19.toInt ∧ z19.toInt ≤ 63), (i_6 : 0 ≤ z20.toInt ∧ z20.toInt ≤ 23), (i_7 : 0 ≤ z21.toInt ∧ z21.toInt ≤ 3), (i_8 : 0 ≤ z22.toInt ∧ z22.toInt ≤ 1000000), (i_9 : 0 ≤ z23.toInt ∧ z23.toInt ≤ 200), (i_10 : PTI z30), (i_11 : 0 ≤ z26.toInt ∧ z26.toInt ≤ 1), (i_12 : MEI z33), (i_13 : AH0 z31 z33), y34, rfl⟩ := hw
  have hJ9 := va_join (wr := []) hP hD [0, 1, 2, 3, 4, 5, 6, 7] [] rfl rfl (by decide +kernel) (by decide +kernel) hk1 hFc hP1 hD1
  clear hP hD hPc hDc hFc ht hvm hz1 hk1 hP1 hD1
  obtain ⟨hP, hD⟩ := hJ9
  refine g5_rs [(b_o, (oc12 0 u_sa b_rf b_ro b_im b_ke u_fd b_tp u_td u_fr u_to u_so u_wo u_fa u_bd u_nc b_nl u_co b_op b_ar u_le b_pi b_pa u_pd u_od b_ws b_hw z15 b_se b_re z16 z17 z18 z19 z20 z21 z22 z23 b_pt z24 z25 b_ip z26 b_ah b_be b_me z27 b_tr b_ld u_st b_wn u_id)), (b_ro, (arI G 5740 v_ro)), (b_se, (arJ G 13 z28)), (b_re, (arJ G 400 z29)), (b_pt, (arI G 200 z30)), (b_ah, (arJ G 49152 z31)), (b_be, (arJ G 49152 z32)), (b_me, (arI G 1536 z33))] hP hD ?_
  clear hP hD
  intro hP hD
  refine g5_ti (v := z14) y34 ?_
  refine lv_if_eq (tgt := 26) hx hb dX12_core_21 (by decide +kernel) (fun c_35 => ?_) (fun c_35 => ?_)
  ·
    have i_35 : z14.toInt = 0 := g5_eq (a := z14.toInt) (b := 0) rfl (by decide +kernel) c_35
    refine lv_aload_n hx hb dX12_core_26 rfl (lv_at hl 1 rfl) ?_
    refine lv_iconst (v := 0) hx hb dX12_core_27 (by decide +kernel) ?_
    obtain ⟨hPc, hDc, hFc⟩ := g5_sub3 (wc := [(b_o, (oc12 0 u_sa b_rf b_ro b_im b_ke u_fd b_tp u_td u_fr u_to u_so u_wo u_fa u_bd u_nc b_nl u_co b_op b_ar u_le b_pi b_pa u_pd u_od b_ws b_hw z15 b_se b_re z16 z17 z18 z19 z20 z21 z22 z23 b_pt z24 z25 b_ip z26 b_ah b_be b_me z27 b_tr b_ld u_st b_wn u_id)), (b_ro, (arI G 5740 v_ro)), (b_se, (arJ G 13 z28)), (b_re, (arJ G 400 z29)), (b_pt, (arI G 200 z30)), (b_ah, (arJ G 49152 z31)), (b_be, (arJ G 49152 z32)), (b_me, (arI G 1536 z33))]) hP hD hS hA [0, 1, 2, 3, 4, 5, 6, 7] (by decide +kernel) rfl
    refine va_calli (va_runV (As := [.int 0]) (rest := []) ⟨hx, hb, hml, hown, hts⟩ (n_canFitP l G b_o b_ro b_se b_re b_pt b_ah b_be b_me b_rf b_im b_ke b_tp b_nl b_op b_ar b_pi b_pa b_ws b_hw b_ip b_tr b_ld b_wn H.size 0 u_sa u_fd u_td u_fr u_to u_so u_fa u_bd u_nc u_co u_le u_pd u_od z15 z16 z19 z20 z21 z22 z23 z24 z25 z26 z27 u_id 0 u_wo z17 z18 u_st v_ro z28 z29 z30 z31 z32 z33 h_u_td h_u_fr h_u_to h_u_bd h_u_nc h_u_co h_u_pd i_3 i_4 i_5 i_6 i_7 i_8 i_9 i_11 h_u_id (r_ro) (i_10) (i_12)) (cwV 1 hts gV_X12_451 rfl rfl rfl hv_X12_canFit ⟨Nat.le_of_ble_eq_true rfl, Nat.le_of_ble_eq_true rfl⟩) (g5_preV hPc hK hDc hN hT hS hFc (ci := 12) (q0 := 0) rfl rfl) rfl rfl hl.1 rfl (lv_room (Nat.le_of_ble_eq_true rfl)) dX12_core_28 ⟨Nat.le_of_ble_eq_true rfl, Nat.le_of_ble_eq_true rfl⟩) hS (fun q _ h => hFc q h) hFc (fun r u t H locs ht hvm hw hB hz1 hk1 hS => ?_)
    obtain ⟨hP1, hD1⟩ := hB
    have hP1 := g5_ht ht hP1
    obtain ⟨z48, z49, z50, z51, z52, z53, z54, z55, z56, z57, z58, z59, z60, z61, z62, z63, z64, z65, z66, z67, (i_36 : 0 ≤ z48.toInt ∧ z48.toInt ≤ 1), (i_37 : 0 ≤ z49.toInt ∧ z49.toInt ≤ 4840), (i_38 : 0 ≤ z50.toInt ∧ z50.toInt ≤ 1), (i_39 : 0 ≤ z53.toInt ∧ z53.toInt ≤ 63), (i_40 : 0 ≤ z54.toInt ∧ z54.toInt ≤ 23), (i_41 : 0 ≤ z55.toInt ∧ z55.toInt ≤ 3), (i_42 : 0 ≤ z56.toInt ∧ z56.toInt ≤ 1000000), (i_43 : 0 ≤ z57.toInt ∧ z57.toInt ≤ 200), (i_44 : PTI z64), (i_45 : 0 ≤ z60.toInt ∧ z60.toInt ≤ 1), (i_46 : MEI z67), (i_47 : AH0 z65 z67), y68, rfl⟩ := hw
    have hJ9 := va_join (wr := []) hP hD [0, 1, 2, 3, 4, 5, 6, 7] [] rfl rfl (by decide +kernel) (by decide +kernel) hk1 hFc hP1 hD1
    clear hP hD hPc hDc hFc ht hvm hz1 hk1 hP1 hD1
    obtain ⟨hP, hD⟩ := hJ9
    refine g5_rs [(b_o, (oc12 0 u_sa b_rf b_ro b_im b_ke u_fd b_tp u_td u_fr u_to u_so u_wo u_fa u_bd u_nc b_nl u_co b_op b_ar u_le b_pi b_pa u_pd u_od b_ws b_hw z49 b_se b_re z50 z51 z52 z53 z54 z55 z56 z57 b_pt z58 z59 b_ip z60 b_ah b_be b_me z61 b_tr b_ld u_st b_wn u_id)), (b_ro, (arI G 5740 v_ro)), (b_se, (arJ G 13 z62)), (b_re, (arJ G 400 z63)), (b_pt, (arI G 200 z64)), (b_ah, (arJ G 49152 z65)), (b_be, (arJ G 49152 z66)), (b_me, (arI G 1536 z67))] hP hD ?_
    clear hP hD
    intro hP hD
    refine g5_ti (v := z48) y68 ?_
    refine lv_if_ne (tgt := 36) hx hb dX12_core_31 (by decide +kernel) (fun c_69 => ?_) (fun c_69 => ?_)
    ·
      have n_69 : gNe (z48.toInt) (0) := g5_ne (a := z48.toInt) (b := 0) rfl (by decide +kernel) c_69
      have i_69 : z48.toInt ≥ 1 := by have z := g5_ne (a := z48.toInt) (b := 0) (by rfl) (by decide +kernel) c_69; omega
      refine lv_iconst (v := 0) hx hb dX12_core_36 (by decide +kernel) ?_
      refine lv_istore_n (lv' := [(2, .int 0), (1, .int ((1 <<< ((v_ro 5) &&& 31)) - 1)), (0, .ref b_o)]) hx hb dX12_core_37 rfl hl (by decide +kernel) rfl ?_
      clear hl
      intro ls hl
      refine g5_loop (α := (Int32) × (Int32) × (Int32) × (Int32) × (Int64) × (Int64) × (Int32) × (Int32) × (Int32) × (Int32) × (Int32) × (Int32) × (Int32) × (Int32) × (Int32) × (Nat → Int64) × (Nat → Int64) × (Nat → Int32) × (Nat → Int64) × (Nat → Int64) × (Nat → Int32)) (fun (q : (Int32) × (Int32) × (Int32) × (Int32) × (Int64) × (Int64) × (Int32) × (Int32) × (Int32) × (Int32) × (Int32) × (Int32) × (Int32) × (Int32) × (Int32) × (Nat → Int64) × (Nat → Int64) × (Nat → Int32) × (Nat → Int64) × (Nat → Int64) × (Nat → Int32)) (ls : Array Slot) (H : Heap) (locs : List Loc) => match q with | (k38_2, k38_1, k38_la, k38_bk, k38_va, k38_su, k38_ce, k38_ho, k38_wy, k38_bt, k38_ps, k38_tg, k38_sn, k38_ic, k38_wd, k38_se, k38_re, k38_pt, k38_ah, k38_be, k38_me) => lv_has ls 3 [(1, .int k38_1), (2, .int k38_2), (0, .ref b_o)] ∧ va_P G.1 vwCl [(b_o, (oc12 0 u_sa b_rf b_ro b_im b_ke u_fd b_tp u_td u_fr u_to u_so u_wo u_fa u_bd u_nc b_nl u_co b_op b_ar u_le b_pi b_pa u_pd u_od b_ws b_hw k38_la b_se b_re k38_bk k38_va k38_su k38_ce k38_ho k38_wy k38_bt k38_ps b_pt k38_tg k38_sn b_ip k38_ic b_ah b_be b_me k38_wd b_tr b_ld u_st b_wn u_id)), (b_ro, (arI G 5740 v_ro)), (b_se, (arJ G 13 k38_se)), (b_re, (arJ G 400 k38_re)), (b_pt, (arI G 200 k38_pt)), (b_ah, (arJ G 49152 k38_ah)), (b_be, (arJ G 49152 k38_be)), (b_me, (arI G 1536 k38_me))] H ∧ va_D A [(b_o, (oc12 0 u_sa b_rf b_ro b_im b_ke u_fd b_tp u_td u_fr u_to u_so u_wo u_fa u_bd u_nc b_nl u_co b_op b_ar u_le b_pi b_pa u_pd u_od b_ws b_hw k38_la b_se b_re k38_bk k38_va k38_su k38_ce k38_ho k38_wy k38_bt k38_ps b_pt k38_tg k38_sn b_ip k38_ic b_ah b_be b_me k38_wd b_tr b_ld u_st b_wn u_id)), (b_ro, (arI G 5740 v_ro)), (b_se, (arJ G 13 k38_se)), (b_re, (arJ G 400 k38_re)), (b_pt, (arI G 200 k38_pt)), (b_ah, (arJ G 49152 k38_ah)), (b_be, (arJ G 49152 k38_be)), (b_me, (arI G 1536 k38_me))] ∧ va_S A s.heap H locs ∧ (0 ≤ k38_2.toInt ∧ k38_2.toInt ≤ 10) ∧ (0 ≤ k38_la.toInt ∧ k38_la.toInt ≤ 4840) ∧ (0 ≤ k38_bk.toInt ∧ k38_bk.toInt ≤ 1) ∧ (0 ≤ k38_ce.toInt ∧ k38_ce.toInt ≤ 63) ∧ (0 ≤ k38_ho.toInt ∧ k38_ho.toInt ≤ 23) ∧ (0 ≤ k38_wy.toInt ∧ k38_wy.toInt ≤ 3) ∧ (0 ≤ k38_bt.toInt ∧ k38_bt.toInt ≤ 1000000) ∧ (0 ≤ k38_ps.toInt ∧ k38_ps.toInt ≤ 200) ∧ (0 ≤ k38_ic.toInt ∧ k38_ic.toInt ≤ 1) ∧ (PTI k38_pt) ∧ (MEI k38_me) ∧ (AH0 k38_ah k38_me)) (fun (q : (Int32) × (Int32) × (Int32) × (Int32) × (Int64) × (Int64) × (Int32) × (Int32) × (Int32) × (Int32) × (Int32) × (Int32) × (Int32) × (Int32) × (Int32) × (Nat → Int64) × (Nat → Int64) × (Nat → Int32) × (Nat → Int64) × (Nat → Int64) × (Nat → Int32)) => match q with | (k38_2, k38_1, k38_la, k38_bk, k38_va, k38_su, k38_ce, k38_ho, k38_wy, k38_bt, k38_ps, k38_tg, k38_sn, k38_ic, k38_wd, k38_se, k38_re, k38_pt, k38_ah, k38_be, k38_me) => Int.toNat (10 - k38_2.toInt)) (0, ((1 <<< ((v_ro 5) &&& 31)) - 1), z49, z50, z51, z52, z53, z54, z55, z56, z57, z58, z59, z60, z61, z62, z63, z64, z65, z66, z67) ⟨lv_sub hl [1, 0, 2] rfl, hP, hD, hS, ⟨by decide, by decide⟩, i_37, i_38, i_39, i_40, i_41, i_42, i_43, i_45, i_44, i_46, i_47⟩ ?_
      rintro ⟨k38_2, k38_1, k38_la, k38_bk, k38_va, k38_su, k38_ce, k38_ho, k38_wy, k38_bt, k38_ps, k38_tg, k38_sn, k38_ic, k38_wd, k38_se, k38_re, k38_pt, k38_ah, k38_be, k38_me⟩ ls H locs ⟨hl, hP, hD, hS, (i_70 : 0 ≤ k38_2.toInt ∧ k38_2.toInt ≤ 10), (i_71 : 0 ≤ k38_la.toInt ∧ k38_la.toInt ≤ 4840), (i_72 : 0 ≤ k38_bk.toInt ∧ k38_bk.toInt ≤ 1), (i_73 : 0 ≤ k38_ce.toInt ∧ k38_ce.toInt ≤ 63), (i_74 : 0 ≤ k38_ho.toInt ∧ k38_ho.toInt ≤ 23), (i_75 : 0 ≤ k38_wy.toInt ∧ k38_wy.toInt ≤ 3), (i_76 : 0 ≤ k38_bt.toInt ∧ k38_bt.toInt ≤ 1000000), (i_77 : 0 ≤ k38_ps.toInt ∧ k38_ps.toInt ≤ 200), (i_78 : 0 ≤ k38_ic.toInt ∧ k38_ic.toInt ≤ 1), (i_79 : PTI k38_pt), (i_80 : MEI k38_me), (i_81 : AH0 k38_ah k38_me)⟩ ih_38_82
      replace hl : lv_has ls 3 [(1, .int k38_1), (2, .int k38_2), (0, .ref b_o)] := hl
      refine g5_rs [(b_o, (oc12 0 u_sa b_rf b_ro b_im b_ke u_fd b_tp u_td u_fr u_to u_so u_wo u_fa u_bd u_nc b_nl u_co b_op b_ar u_le b_pi b_pa u_pd u_od b_ws b_hw k38_la b_se b_re k38_bk k38_va k38_su k38_ce k38_ho k38_wy k38_bt k38_ps b_pt k38_tg k38_sn b_ip k38_ic b_ah b_be b_me k38_wd b_tr b_ld u_st b_wn u_id)), (b_ro, (arI G 5740 v_ro)), (b_se, (arJ G 13 k38_se)), (b_re, (arJ G 400 k38_re)), (b_pt, (arI G 200 k38_pt)), (b_ah, (arJ G 49152 k38_ah)), (b_be, (arJ G 49152 k38_be)), (b_me, (arI G 1536 k38_me))] hP hD ?_
      clear hP hD
      intro hP hD
      refine lv_iload_n hx hb dX12_core_38 rfl (lv_at hl 1 rfl) ?_
      refine lv_aload_n hx hb dX12_core_39 rfl (lv_at hl 2 rfl) ?_
      refine va_get (D := G.1) (ci := 12) (v := .ref b_ro) (C := RX12) (T := TX12) (N := 52) hx hb hts inG_X12 hown hK hP 0 rfl rfl 3 (by decide +kernel) (hts _ fl_X12_13) (fun _ h9 => h9) rfl dX12_core_40 ?_
      refine lv_iconst (v := 5) hx hb dX12_core_43 (by decide +kernel) ?_
      refine W.eq (g2 := F0 m 44 ls [.int 5, .ref b_ro, .int k38_2]) rfl ?_
      refine va_iald hx hb hK hP 1 0 rfl rfl (i := 5) (by unfold vp_in; decide) dX12_core_44 ?_
      refine g5_ti (v := (v_ro 5)) rfl ?_
      have hr_83 : 0 ≤ (v_ro 5).toInt ∧ (v_ro 5).toInt ≤ 10 := mi_5 r_ro
      refine lv_icmp_ge (tgt := 80) hx hb dX12_core_45 (by decide +kernel) (fun c_84 => ?_) (fun c_84 => ?_)
      ·
        have i_84 : k38_2.toInt ≥ (v_ro 5).toInt := g5_ge (a := k38_2.toInt) (b := (v_ro 5).toInt) rfl rfl c_84
        refine lv_iload_n hx hb dX12_core_80 rfl (lv_at hl 0 rfl) ?_
        exact W.iret (v := k38_1) hx hb hr (fun t ht hW => ⟨⟨k38_1, [(b_o, (oc12 0 u_sa b_rf b_ro b_im b_ke u_fd b_tp u_td u_fr u_to u_so u_wo u_fa u_bd u_nc b_nl u_co b_op b_ar u_le b_pi b_pa u_pd u_od b_ws b_hw k38_la b_se b_re k38_bk k38_va k38_su k38_ce k38_ho k38_wy k38_bt k38_ps b_pt k38_tg k38_sn b_ip k38_ic b_ah b_be b_me k38_wd b_tr b_ld u_st b_wn u_id)), (b_ro, (arI G 5740 v_ro)), (b_se, (arJ G 13 k38_se)), (b_re, (arJ G 400 k38_re)), (b_pt, (arI G 200 k38_pt)), (b_ah, (arJ G 49152 k38_ah)), (b_be, (arJ G 49152 k38_be)), (b_me, (arI G 1536 k38_me))], rfl, ⟨k38_1, 0, k38_la, k38_bk, k38_va, k38_su, k38_ce, k38_ho, k38_wy, k38_bt, k38_ps, k38_tg, k38_sn, k38_ic, k38_wd, k38_se, k38_re, k38_pt, k38_ah, k38_be, k38_me, i_71, i_72, i_73, i_74, i_75, i_76, i_77, i_79, i_78, i_80, i_81, rfl, rfl⟩, by rw [ht]; exact hP.sub [0, 1, 2, 3, 4, 5, 6, 7] rfl, hD.sub [0, 1, 2, 3, 4, 5, 6, 7] (by decide +kernel) rfl⟩, hS.F ht⟩) hS.2.2 dX12_core_81
      ·
        have i_84 : k38_2.toInt < (v_ro 5).toInt := g5_geN (a := k38_2.toInt) (b := (v_ro 5).toInt) rfl rfl c_84
        refine lv_aload_n hx hb dX12_core_48 rfl (lv_at hl 2 rfl) ?_
        refine lv_iload_n hx hb dX12_core_49 rfl (lv_at hl 0 rfl) ?_
        refine lv_iconst (v := 1) hx hb dX12_core_50 (by decide +kernel) ?_
        refine lv_iload_n hx hb dX12_core_51 rfl (lv_at hl 1 rfl) ?_
        refine W.eq (g2 := F0 m 52 ls [.int k38_2, .int 1, .int k38_1, .ref b_o]) rfl ?_
        refine lv_ishl hx hb dX12_core_52 ?_
        refine lv_iconst (v := (-1)) hx hb dX12_core_53 (by decide +kernel) ?_
        refine lv_ixor hx hb dX12_core_54 ?_
        refine lv_iand hx hb dX12_core_55 ?_
        obtain ⟨hPc, hDc, hFc⟩ := g5_sub3 (wc := [(b_o, (oc12 0 u_sa b_rf b_ro b_im b_ke u_fd b_tp u_td u_fr u_to u_so u_wo u_fa u_bd u_nc b_nl u_co b_op b_ar u_le b_pi b_pa u_pd u_od b_ws b_hw k38_la b_se b_re k38_bk k38_va k38_su k38_ce k38_ho k38_wy k38_bt k38_ps b_pt k38_tg k38_sn b_ip k38_ic b_ah b_be b_me k38_wd b_tr b_ld u_st b_wn u_id)), (b_ro, (arI G 5740 v_ro)), (b_se, (arJ G 13 k38_se)), (b_re, (arJ G 400 k38_re)), (b_pt, (arI G 200 k38_pt)), (b_ah, (arJ G 49152 k38_ah)), (b_be, (arJ G 49152 k38_be)), (b_me, (arI G 1536 k38_me))]) hP hD hS hA [0, 1, 2, 3, 4, 5, 6, 7] (by decide +kernel) rfl
        refine va_calli (va_runV (As := [.int (k38_1 &&& ((1 <<< (k38_2 &&& 31)) ^^^ (-1)))]) (rest := []) ⟨hx, hb, hml, hown, hts⟩ (n_canFitP l G b_o b_ro b_se b_re b_pt b_ah b_be b_me b_rf b_im b_ke b_tp b_nl b_op b_ar b_pi b_pa b_ws b_hw b_ip b_tr b_ld b_wn H.size 0 u_sa u_fd u_td u_fr u_to u_so u_fa u_bd u_nc u_co u_le u_pd u_od k38_la k38_bk k38_ce k38_ho k38_wy k38_bt k38_ps k38_tg k38_sn k38_ic k38_wd u_id (k38_1 &&& ((1 <<< (k38_2 &&& 31)) ^^^ (-1))) u_wo k38_va k38_su u_st v_ro k38_se k38_re k38_pt k38_ah k38_be k38_me h_u_td h_u_fr h_u_to h_u_bd h_u_nc h_u_co h_u_pd i_71 i_72 i_73 i_74 i_75 i_76 i_77 i_78 h_u_id (r_ro) (i_79) (i_80)) (cwV 1 hts gV_X12_451 rfl rfl rfl hv_X12_canFit ⟨Nat.le_of_ble_eq_true rfl, Nat.le_of_ble_eq_true rfl⟩) (g5_preV hPc hK hDc hN hT hS hFc (ci := 12) (q0 := 0) rfl rfl) rfl rfl hl.1 rfl (lv_room (Nat.le_of_ble_eq_true rfl)) dX12_core_56 ⟨Nat.le_of_ble_eq_true rfl, Nat.le_of_ble_eq_true rfl⟩) hS (fun q _ h => hFc q h) hFc (fun r u t H locs ht hvm hw hB hz1 hk1 hS => ?_)
        obtain ⟨hP1, hD1⟩ := hB
        have hP1 := g5_ht ht hP1
        obtain ⟨z97, z98, z99, z100, z101, z102, z103, z104, z105, z106, z107, z108, z109, z110, z111, z112, z113, z114, z115, z116, (i_85 : 0 ≤ z97.toInt ∧ z97.toInt ≤ 1), (i_86 : 0 ≤ z98.toInt ∧ z98.toInt ≤ 4840), (i_87 : 0 ≤ z99.toInt ∧ z99.toInt ≤ 1), (i_88 : 0 ≤ z102.toInt ∧ z102.toInt ≤ 63), (i_89 : 0 ≤ z103.toInt ∧ z103.toInt ≤ 23), (i_90 : 0 ≤ z104.toInt ∧ z104.toInt ≤ 3), (i_91 : 0 ≤ z105.toInt ∧ z105.toInt ≤ 1000000), (i_92 : 0 ≤ z106.toInt ∧ z106.toInt ≤ 200), (i_93 : PTI z113), (i_94 : 0 ≤ z109.toInt ∧ z109.toInt ≤ 1), (i_95 : MEI z116), (i_96 : AH0 z114 z116), y117, rfl⟩ := hw
        have hJ9 := va_join (wr := []) hP hD [0, 1, 2, 3, 4, 5, 6, 7] [] rfl rfl (by decide +kernel) (by decide +kernel) hk1 hFc hP1 hD1
        clear hP hD hPc hDc hFc ht hvm hz1 hk1 hP1 hD1
        obtain ⟨hP, hD⟩ := hJ9
        refine g5_rs [(b_o, (oc12 0 u_sa b_rf b_ro b_im b_ke u_fd b_tp u_td u_fr u_to u_so u_wo u_fa u_bd u_nc b_nl u_co b_op b_ar u_le b_pi b_pa u_pd u_od b_ws b_hw z98 b_se b_re z99 z100 z101 z102 z103 z104 z105 z106 b_pt z107 z108 b_ip z109 b_ah b_be b_me z110 b_tr b_ld u_st b_wn u_id)), (b_ro, (arI G 5740 v_ro)), (b_se, (arJ G 13 z111)), (b_re, (arJ G 400 z112)), (b_pt, (arI G 200 z113)), (b_ah, (arJ G 49152 z114)), (b_be, (arJ G 49152 z115)), (b_me, (arI G 1536 z116))] hP hD ?_
        clear hP hD
        intro hP hD
        refine g5_ti (v := z97) y117 ?_
        refine W.eq (g2 := F0 m 59 ls [.int z97]) rfl ?_
        refine lv_if_eq (tgt := 66) hx hb dX12_core_59 (by decide +kernel) (fun c_118 => ?_) (fun c_118 => ?_)
        ·
          have i_118 : z97.toInt = 0 := g5_eq (a := z97.toInt) (b := 0) rfl (by decide +kernel) c_118
          refine lv_iload_n hx hb dX12_core_66 rfl (lv_at hl 0 rfl) ?_
          refine lv_iconst (v := 1) hx hb dX12_core_67 (by decide +kernel) ?_
          refine lv_iload_n hx hb dX12_core_68 rfl (lv_at hl 1 rfl) ?_
          refine lv_ishl hx hb dX12_core_69 ?_
          refine W.eq (g2 := F0 m 70 ls [.int (1 <<< (k38_2 &&& 31)), .int k38_1]) rfl ?_
          refine lv_iconst (v := (-1)) hx hb dX12_core_70 (by decide +kernel) ?_
          refine lv_ixor hx hb dX12_core_71 ?_
          refine lv_iand hx hb dX12_core_72 ?_
          refine lv_istore_n (lv' := [(1, .int (k38_1 &&& ((1 <<< (k38_2 &&& 31)) ^^^ (-1)))), (2, .int k38_2), (0, .ref b_o)]) hx hb dX12_core_73 rfl hl (by decide +kernel) rfl ?_
          clear hl
          intro ls hl
          refine lv_iinc (v := (k38_2 + 1)) (lv' := [(2, .int (k38_2 + 1)), (1, .int (k38_1 &&& ((1 <<< (k38_2 &&& 31)) ^^^ (-1)))), (0, .ref b_o)]) hx hb dX12_core_74 hl (k := 1) rfl rfl (by decide +kernel) rfl ?_
          clear hl
          intro ls hl
          have t_119 : (k38_2 + 1).toInt = k38_2.toInt + 1 := g5_iadd (a := k38_2.toInt) (b := 1) rfl (by decide +kernel) (by omega) (by omega)
          refine W.eq (g2 := F0 m 77 ls []) rfl ?_
          refine lv_goto (tgt := 38) hx hb dX12_core_77 (by decide +kernel) ?_
          exact ih_38_82 ((k38_2 + 1), (k38_1 &&& ((1 <<< (k38_2 &&& 31)) ^^^ (-1))), z98, z99, z100, z101, z102, z103, z104, z105, z106, z107, z108, z109, z110, z111, z112, z113, z114, z115, z116) ls H locs (show Int.toNat (10 - (k38_2 + 1).toInt) < Int.toNat (10 - k38_2.toInt) from g_up (show k38_2.toInt < (k38_2 + 1).toInt by omega) (show k38_2.toInt < 10 by omega)) ⟨lv_sub hl [1, 0, 2] rfl, hP, hD, hS, ⟨by omega, by omega⟩, i_86, i_87, i_88, i_89, i_90, i_91, i_92, i_94, i_93, i_95, i_96⟩
        ·
          have n_118 : gNe (z97.toInt) (0) := g5_eqN (a := z97.toInt) (b := 0) rfl (by decide +kernel) c_118
          have i_118 : z97.toInt ≥ 1 := by have z := g5_eqN (a := z97.toInt) (b := 0) (by rfl) (by decide +kernel) c_118; omega
          refine lv_iload_n hx hb dX12_core_62 rfl (lv_at hl 0 rfl) ?_
          refine lv_goto (tgt := 73) hx hb dX12_core_63 (by decide +kernel) ?_
          refine lv_istore_n (lv' := [(1, .int k38_1), (2, .int k38_2), (0, .ref b_o)]) hx hb dX12_core_73 rfl hl (by decide +kernel) rfl ?_
          clear hl
          intro ls hl
          refine lv_iinc (v := (k38_2 + 1)) (lv' := [(2, .int (k38_2 + 1)), (1, .int k38_1), (0, .ref b_o)]) hx hb dX12_core_74 hl (k := 1) rfl rfl (by decide +kernel) rfl ?_
          clear hl
          intro ls hl
          have t_120 : (k38_2 + 1).toInt = k38_2.toInt + 1 := g5_iadd (a := k38_2.toInt) (b := 1) rfl (by decide +kernel) (by omega) (by omega)
          refine W.eq (g2 := F0 m 77 ls []) rfl ?_
          refine lv_goto (tgt := 38) hx hb dX12_core_77 (by decide +kernel) ?_
          exact ih_38_82 ((k38_2 + 1), k38_1, z98, z99, z100, z101, z102, z103, z104, z105, z106, z107, z108, z109, z110, z111, z112, z113, z114, z115, z116) ls H locs (show Int.toNat (10 - (k38_2 + 1).toInt) < Int.toNat (10 - k38_2.toInt) from g_up (show k38_2.toInt < (k38_2 + 1).toInt by omega) (show k38_2.toInt < 10 by omega)) ⟨lv_sub hl [1, 0, 2] rfl, hP, hD, hS, ⟨by omega, by omega⟩, i_86, i_87, i_88, i_89, i_90, i_91, i_92, i_94, i_93, i_95, i_96⟩
    ·
      have i_69 : z48.toInt = 0 := g5_neN (a := z48.toInt) (b := 0) rfl (by decide +kernel) c_69
      refine lv_iconst (v := (-1)) hx hb dX12_core_34 (by decide +kernel) ?_
      exact W.iret (v := (-1)) hx hb hr (fun t ht hW => ⟨⟨(-1), [(b_o, (oc12 0 u_sa b_rf b_ro b_im b_ke u_fd b_tp u_td u_fr u_to u_so u_wo u_fa u_bd u_nc b_nl u_co b_op b_ar u_le b_pi b_pa u_pd u_od b_ws b_hw z49 b_se b_re z50 z51 z52 z53 z54 z55 z56 z57 b_pt z58 z59 b_ip z60 b_ah b_be b_me z61 b_tr b_ld u_st b_wn u_id)), (b_ro, (arI G 5740 v_ro)), (b_se, (arJ G 13 z62)), (b_re, (arJ G 400 z63)), (b_pt, (arI G 200 z64)), (b_ah, (arJ G 49152 z65)), (b_be, (arJ G 49152 z66)), (b_me, (arI G 1536 z67))], rfl, ⟨(-1), 0, z49, z50, z51, z52, z53, z54, z55, z56, z57, z58, z59, z60, z61, z62, z63, z64, z65, z66, z67, i_37, i_38, i_39, i_40, i_41, i_42, i_43, i_44, i_45, i_46, i_47, rfl, rfl⟩, by rw [ht]; exact hP.sub [0, 1, 2, 3, 4, 5, 6, 7] rfl, hD.sub [0, 1, 2, 3, 4, 5, 6, 7] (by decide +kernel) rfl⟩, hS.F ht⟩) hS.2.2 dX12_core_35
  ·
    have n_35 : gNe (z14.toInt) (0) := g5_eqN (a := z14.toInt) (b := 0) rfl (by decide +kernel) c_35
    have i_35 : z14.toInt ≥ 1 := by have z := g5_eqN (a := z14.toInt) (b := 0) (by rfl) (by decide +kernel) c_35; omega
    refine lv_iconst (v := 0) hx hb dX12_core_24 (by decide +kernel) ?_
    exact W.iret (v := 0) hx hb hr (fun t ht hW => ⟨⟨0, [(b_o, (oc12 0 u_sa b_rf b_ro b_im b_ke u_fd b_tp u_td u_fr u_to u_so u_wo u_fa u_bd u_nc b_nl u_co b_op b_ar u_le b_pi b_pa u_pd u_od b_ws b_hw z15 b_se b_re z16 z17 z18 z19 z20 z21 z22 z23 b_pt z24 z25 b_ip z26 b_ah b_be b_me z27 b_tr b_ld u_st b_wn u_id)), (b_ro, (arI G 5740 v_ro)), (b_se, (arJ G 13 z28)), (b_re, (arJ G 400 z29)), (b_pt, (arI G 200 z30)), (b_ah, (arJ G 49152 z31)), (b_be, (arJ G 49152 z32)), (b_me, (arI G 1536 z33))], rfl, ⟨0, 0, z15, z16, z17, z18, z19, z20, z21, z22, z23, z24, z25, z26, z27, z28, z29, z30, z31, z32, z33, i_3, i_4, i_5, i_6, i_7, i_8, i_9, i_10, i_11, i_12, i_13, rfl, rfl⟩, by rw [ht]; exact hP.sub [0, 1, 2, 3, 4, 5, 6, 7] rfl, hD.sub [0, 1, 2, 3, 4, 5, 6, 7] (by decide +kernel) rfl⟩, hS.F ht⟩) hS.2.2 dX12_core_25
set_option maxHeartbeats 4000000 in
set_option maxRecDepth 100000 in
theorem n_tellsP (l : Launch) (G : g5_G) (b_o b_ro b_se b_re b_pt b_ah b_be b_me b_rf b_im b_ke b_tp b_nl b_op b_ar b_pi b_pa b_ws b_hw b_ip b_tr b_ld b_wn : Nat) (sz : Nat) (u_th : Int32) (u_sa : Int32) (u_fd : Int32) (u_td : Int32) (u_fr : Int32) (u_to : Int32) (u_so : Int32) (u_fa : Int32) (u_bd : Int32) (u_nc : Int32) (u_co : Int32) (u_le : Int32) (u_pd : Int32) (u_od : Int32) (u_la : Int32) (u_bk : Int32) (u_ce : Int32) (u_ho : Int32) (u_wy : Int32) (u_bt : Int32) (u_ps : Int32) (u_tg : Int32) (u_sn : Int32) (u_ic : Int32) (u_wd : Int32) (u_id : Int32) (p_1 : Int32) (p_2 : Int32) (p_3 : Int32) (u_wo : Int64) (u_va : Int64) (u_su : Int64) (u_st : Int64) (v_ro : Nat → Int32) (v_se : Nat → Int64) (v_re : Nat → Int64) (v_pt : Nat → Int32) (v_ah : Nat → Int64) (v_be : Nat → Int64) (v_me : Nat → Int32) (h_u_td : 0 ≤ u_td.toInt ∧ u_td.toInt ≤ 400) (h_u_fr : 0 ≤ u_fr.toInt ∧ u_fr.toInt ≤ 400) (h_u_to : 0 ≤ u_to.toInt ∧ u_to.toInt ≤ 400) (h_u_bd : 0 ≤ u_bd.toInt ∧ u_bd.toInt ≤ 1) (h_u_nc : 0 ≤ u_nc.toInt ∧ u_nc.toInt ≤ 12) (h_u_co : 0 ≤ u_co.toInt ∧ u_co.toInt ≤ 400) (h_u_pd : 0 ≤ u_pd.toInt ∧ u_pd.toInt ≤ 400) (h_u_la : 0 ≤ u_la.toInt ∧ u_la.toInt ≤ 4840) (h_u_bk : 0 ≤ u_bk.toInt ∧ u_bk.toInt ≤ 1) (h_u_ce : 0 ≤ u_ce.toInt ∧ u_ce.toInt ≤ 63) (h_u_ho : 0 ≤ u_ho.toInt ∧ u_ho.toInt ≤ 23) (h_u_wy : 0 ≤ u_wy.toInt ∧ u_wy.toInt ≤ 3) (h_u_bt : 0 ≤ u_bt.toInt ∧ u_bt.toInt ≤ 1000000) (h_u_ps : 0 ≤ u_ps.toInt ∧ u_ps.toInt ≤ 200) (h_u_ic : 0 ≤ u_ic.toInt ∧ u_ic.toInt ≤ 1) (h_u_id : 0 ≤ u_id.toInt ∧ u_id.toInt ≤ 1) (r_ro : MI v_ro) (r_pt : PTI v_pt) (r_me : MEI v_me) (e_ah : AH0 v_ah v_me) : Met l yX12_tells (wsG yX12_tells cX12_tells 6 (some .long)) ({ frames := 10, cells := 0, slots := 0, locals := 251 }) (va_Pc [.ref b_o, .int p_1, .int p_2, .int p_3] (g5_P G [(b_o, (oc12 u_th u_sa b_rf b_ro b_im b_ke u_fd b_tp u_td u_fr u_to u_so u_wo u_fa u_bd u_nc b_nl u_co b_op b_ar u_le b_pi b_pa u_pd u_od b_ws b_hw u_la b_se b_re u_bk u_va u_su u_ce u_ho u_wy u_bt u_ps b_pt u_tg u_sn b_ip u_ic b_ah b_be b_me u_wd b_tr b_ld u_st b_wn u_id)), (b_ro, (arI G 5740 v_ro)), (b_se, (arJ G 13 v_se)), (b_re, (arJ G 400 v_re)), (b_pt, (arI G 200 v_pt)), (b_ah, (arJ G 49152 v_ah)), (b_be, (arJ G 49152 v_be)), (b_me, (arI G 1536 v_me))] sz)) (va_Ql (fun (r : Int64) (u : va_W) => (∃ (o_r : Int64) (o_th : Int32) (o_la : Int32) (o_bk : Int32) (o_va : Int64) (o_su : Int64) (o_ce : Int32) (o_ho : Int32) (o_wy : Int32) (o_bt : Int32) (o_ps : Int32) (o_tg : Int32) (o_sn : Int32) (o_ic : Int32) (o_wd : Int32) (o_se : Nat → Int64) (o_re : Nat → Int64) (o_pt : Nat → Int32) (o_ah : Nat → Int64) (o_be : Nat → Int64) (o_me : Nat → Int32), (0 ≤ o_la.toInt ∧ o_la.toInt ≤ 4840) ∧ (0 ≤ o_bk.toInt ∧ o_bk.toInt ≤ 1) ∧ (0 ≤ o_ce.toInt ∧ o_ce.toInt ≤ 63) ∧ (0 ≤ o_ho.toInt ∧ o_ho.toInt ≤ 23) ∧ (0 ≤ o_wy.toInt ∧ o_wy.toInt ≤ 3) ∧ (0 ≤ o_bt.toInt ∧ o_bt.toInt ≤ 1000000) ∧ (0 ≤ o_ps.toInt ∧ o_ps.toInt ≤ 200) ∧ (PTI o_pt) ∧ (0 ≤ o_ic.toInt ∧ o_ic.toInt ≤ 1) ∧ (MEI o_me) ∧ (AH0 o_ah o_me) ∧ (r = o_r) ∧ (u = [(b_o, (oc12 o_th u_sa b_rf b_ro b_im b_ke u_fd b_tp u_td u_fr u_to u_so u_wo u_fa u_bd u_nc b_nl u_co b_op b_ar u_le b_pi b_pa u_pd u_od b_ws b_hw o_la b_se b_re o_bk o_va o_su o_ce o_ho o_wy o_bt o_ps b_pt o_tg o_sn b_ip o_ic b_ah b_be b_me o_wd b_tr b_ld u_st b_wn u_id)), (b_ro, (arI G 5740 v_ro)), (b_se, (arJ G 13 o_se)), (b_re, (arJ G 400 o_re)), (b_pt, (arI G 200 o_pt)), (b_ah, (arJ G 49152 o_ah)), (b_be, (arJ G 49152 o_be)), (b_me, (arI G 1536 o_me))]))) (g5_B G (va_A [(b_o, (oc12 u_th u_sa b_rf b_ro b_im b_ke u_fd b_tp u_td u_fr u_to u_so u_wo u_fa u_bd u_nc b_nl u_co b_op b_ar u_le b_pi b_pa u_pd u_od b_ws b_hw u_la b_se b_re u_bk u_va u_su u_ce u_ho u_wy u_bt u_ps b_pt u_tg u_sn b_ip u_ic b_ah b_be b_me u_wd b_tr b_ld u_st b_wn u_id)), (b_ro, (arI G 5740 v_ro)), (b_se, (arJ G 13 v_se)), (b_re, (arJ G 400 v_re)), (b_pt, (arI G 200 v_pt)), (b_ah, (arJ G 49152 v_ah)), (b_be, (arJ G 49152 v_be)), (b_me, (arI G 1536 v_me))] sz)) (va_A [(b_o, (oc12 u_th u_sa b_rf b_ro b_im b_ke u_fd b_tp u_td u_fr u_to u_so u_wo u_fa u_bd u_nc b_nl u_co b_op b_ar u_le b_pi b_pa u_pd u_od b_ws b_hw u_la b_se b_re u_bk u_va u_su u_ce u_ho u_wy u_bt u_ps b_pt u_tg u_sn b_ip u_ic b_ah b_be b_me u_wd b_tr b_ld u_st b_wn u_id)), (b_ro, (arI G 5740 v_ro)), (b_se, (arJ G 13 v_se)), (b_re, (arJ G 400 v_re)), (b_pt, (arI G 200 v_pt)), (b_ah, (arJ G 49152 v_ah)), (b_be, (arJ G 49152 v_be)), (b_me, (arI G 1536 v_me))] sz)) 0 0 (va_A [(b_o, (oc12 u_th u_sa b_rf b_ro b_im b_ke u_fd b_tp u_td u_fr u_to u_so u_wo u_fa u_bd u_nc b_nl u_co b_op b_ar u_le b_pi b_pa u_pd u_od b_ws b_hw u_la b_se b_re u_bk u_va u_su u_ce u_ho u_wy u_bt u_ps b_pt u_tg u_sn b_ip u_ic b_ah b_be b_me u_wd b_tr b_ld u_st b_wn u_id)), (b_ro, (arI G 5740 v_ro)), (b_se, (arJ G 13 v_se)), (b_re, (arJ G 400 v_re)), (b_pt, (arI G 200 v_pt)), (b_ah, (arJ G 49152 v_ah)), (b_be, (arJ G 49152 v_be)), (b_me, (arI G 1536 v_me))] sz) := by
  refine Met.ofW (cc := cX12_tells) (maxL := 6) (ret := (some .long)) (by decide +kernel) rfl ?_
  intro p e s m args below meth c s₁ B hml hv
  obtain ⟨rfl, hsz, hP, hK, hD0, hN, hT⟩ := hv
  have hx := B.exec
  have hb := B.bytes
  have hr := B.returns
  have hts : ∀ w ∈ tblG, w.before _ s = true := fun w h => atoms_spec (ws := (wsG yX12_tells cX12_tells 6 (some .long))) B.pre w (List.mem_cons_of_mem _ h)
  have hown : s.vm.findClass RX12 = some m.cls := findClass_of_methodNamed B.named
  have hlocks := B.notSynchronized
  subst hsz
  have hD := hD0.self (sz := s.heap.size)
  generalize hAe : va_A [(b_o, (oc12 u_th u_sa b_rf b_ro b_im b_ke u_fd b_tp u_td u_fr u_to u_so u_wo u_fa u_bd u_nc b_nl u_co b_op b_ar u_le b_pi b_pa u_pd u_od b_ws b_hw u_la b_se b_re u_bk u_va u_su u_ce u_ho u_wy u_bt u_ps b_pt u_tg u_sn b_ip u_ic b_ah b_be b_me u_wd b_tr b_ld u_st b_wn u_id)), (b_ro, (arI G 5740 v_ro)), (b_se, (arJ G 13 v_se)), (b_re, (arJ G 400 v_re)), (b_pt, (arI G 200 v_pt)), (b_ah, (arJ G 49152 v_ah)), (b_be, (arJ G 49152 v_be)), (b_me, (arI G 1536 v_me))] s.heap.size = A at hD hT ⊢
  have hA : ∀ q : Nat, s.heap.size ≤ q → A q := fun q h => by rw [← hAe]; exact Or.inr h
  have hS : va_S A s.heap s.heap [] := va_S.rf
  replace hP : va_P G.1 vwCl [(b_o, (oc12 u_th u_sa b_rf b_ro b_im b_ke u_fd b_tp u_td u_fr u_to u_so u_wo u_fa u_bd u_nc b_nl u_co b_op b_ar u_le b_pi b_pa u_pd u_od b_ws b_hw u_la b_se b_re u_bk u_va u_su u_ce u_ho u_wy u_bt u_ps b_pt u_tg u_sn b_ip u_ic b_ah b_be b_me u_wd b_tr b_ld u_st b_wn u_id)), (b_ro, (arI G 5740 v_ro)), (b_se, (arJ G 13 v_se)), (b_re, (arJ G 400 v_re)), (b_pt, (arI G 200 v_pt)), (b_ah, (arJ G 49152 v_ah)), (b_be, (arJ G 49152 v_be)), (b_me, (arI G 1536 v_me))] s.heap := hP
  have hl := lv_entry ([.ref b_o, .int p_1, .int p_2, .int p_3]) (n := 6) (Nat.le_of_ble_eq_true rfl)
  rw [lg_entry_eq]
  generalize (lg_sl ([.ref b_o, .int p_1, .int p_2, .int p_3]) ++ List.replicate (6 - (lg_sl ([.ref b_o, .int p_1, .int p_2, .int p_3])).length) Slot.unset).toArray = ls at hl ⊢
  replace hl : lv_has ls 6 [(0, .ref b_o), (1, .int p_1), (2, .int p_2), (3, .int p_3)] := hl
  refine lv_aload_n hx hb dX12_tells_0 rfl (lv_at hl 0 rfl) ?_
  refine lv_iconst (v := 0) hx hb dX12_tells_1 (by decide +kernel) ?_
  refine va_put (D := G.1) (ci := 12) (v := .int 0) (ty := .int) (C := RX12) (T := TX12) (N := 52) hx hb hts inG_X12 tyX12 tyX12_ok nmX12 hown hK hP hD hS 0 rfl rfl 0 (by decide +kernel) (hts _ fl_X12_107) (fun _ h9 => h9) rfl (by decide +kernel) rfl rfl (Nat.le_of_ble_eq_true rfl) dX12_tells_2 ?_
  clear hP hD hS
  intro H locs hP hD hS
  refine g5_rs [(b_o, (oc12 0 u_sa b_rf b_ro b_im b_ke u_fd b_tp u_td u_fr u_to u_so u_wo u_fa u_bd u_nc b_nl u_co b_op b_ar u_le b_pi b_pa u_pd u_od b_ws b_hw u_la b_se b_re u_bk u_va u_su u_ce u_ho u_wy u_bt u_ps b_pt u_tg u_sn b_ip u_ic b_ah b_be b_me u_wd b_tr b_ld u_st b_wn u_id)), (b_ro, (arI G 5740 v_ro)), (b_se, (arJ G 13 v_se)), (b_re, (arJ G 400 v_re)), (b_pt, (arI G 200 v_pt)), (b_ah, (arJ G 49152 v_ah)), (b_be, (arJ G 49152 v_be)), (b_me, (arI G 1536 v_me))] hP hD ?_
  clear hP hD
  intro hP hD
  refine lv_iload_n hx hb dX12_tells_5 rfl (lv_at hl 1 rfl) ?_
  refine W.eq (g2 := F0 m 6 ls [.int p_1]) rfl ?_
  refine lv_iload_n hx hb dX12_tells_6 rfl (lv_at hl 2 rfl) ?_
  refine lv_iload_n hx hb dX12_tells_7 rfl (lv_at hl 3 rfl) ?_
  obtain ⟨hPc, hDc, hFc⟩ := g5_sub3 (wc := []) hP hD hS hA [] (by decide +kernel) rfl
  refine va_calli (va_runS (As := [.int p_1, .int p_2, .int p_3]) (rest := []) ⟨hx, hb, hml, hown, hts⟩ (n_isLook l G H.size p_1 p_2 p_3) (va_cwS 3 hts gS_X12_397 rfl rfl rfl hs_X12_isLook ⟨Nat.le_of_ble_eq_true rfl, Nat.le_of_ble_eq_true rfl⟩) (g5_preS hPc hK hDc hN hT hS hFc) rfl rfl hl.1 rfl (lv_room (Nat.le_of_ble_eq_true rfl)) dX12_tells_8 ⟨Nat.le_of_ble_eq_true rfl, Nat.le_of_ble_eq_true rfl⟩) hS (fun q _ h => hFc q h) hFc (fun r u t H locs ht hvm hw hB hz1 hk1 hS => ?_)
  obtain ⟨hP1, hD1⟩ := hB
  have hP1 := g5_ht ht hP1
  rcases hw with ⟨(i_1 : 0 ≤ p_1.toInt ∧ p_1.toInt ≤ 63), (i_2 : 0 ≤ p_2.toInt ∧ p_2.toInt ≤ 3), (i_3 : 0 ≤ p_3.toInt ∧ p_3.toInt ≤ 23), rfl, rfl⟩ | ⟨rfl, rfl⟩
  ·
    have hJ9 := g5_same hP hk1
    clear hP hPc hDc hFc ht hvm hz1 hk1 hP1 hD1
    have hP := hJ9
    clear hJ9
    refine lv_if_ne (tgt := 18) hx hb dX12_tells_11 (by decide +kernel) (fun c_4 => ?_) (fun c_4 => ?_)
    ·
      refine lv_aload_n hx hb dX12_tells_18 rfl (lv_at hl 0 rfl) ?_
      refine lv_sipush (v := 1023) hx hb dX12_tells_19 (by decide +kernel) ?_
      refine lv_iload_n hx hb dX12_tells_22 rfl (lv_at hl 1 rfl) ?_
      refine lv_iload_n hx hb dX12_tells_23 rfl (lv_at hl 2 rfl) ?_
      refine W.eq (g2 := F0 m 24 ls [.int p_2, .int p_1, .int 1023, .ref b_o]) rfl ?_
      refine lv_iload_n hx hb dX12_tells_24 rfl (lv_at hl 3 rfl) ?_
      obtain ⟨hPc, hDc, hFc⟩ := g5_sub3 (wc := [(b_o, (oc12 0 u_sa b_rf b_ro b_im b_ke u_fd b_tp u_td u_fr u_to u_so u_wo u_fa u_bd u_nc b_nl u_co b_op b_ar u_le b_pi b_pa u_pd u_od b_ws b_hw u_la b_se b_re u_bk u_va u_su u_ce u_ho u_wy u_bt u_ps b_pt u_tg u_sn b_ip u_ic b_ah b_be b_me u_wd b_tr b_ld u_st b_wn u_id)), (b_ro, (arI G 5740 v_ro)), (b_se, (arJ G 13 v_se)), (b_re, (arJ G 400 v_re)), (b_pt, (arI G 200 v_pt)), (b_ah, (arJ G 49152 v_ah)), (b_be, (arJ G 49152 v_be)), (b_me, (arI G 1536 v_me))]) hP hD hS hA [0, 1, 2, 3, 4, 5, 6, 7] (by decide +kernel) rfl
      refine va_callv (va_runV (As := [.int 1023, .int p_1, .int p_2, .int p_3]) (rest := []) ⟨hx, hb, hml, hown, hts⟩ (n_countForP l G b_o b_ro b_se b_re b_pt b_ah b_be b_me b_rf b_im b_ke b_tp b_nl b_op b_ar b_pi b_pa b_ws b_hw b_ip b_tr b_ld b_wn H.size 0 u_sa u_fd u_td u_fr u_to u_so u_fa u_bd u_nc u_co u_le u_pd u_od u_la u_bk u_ce u_ho u_wy u_bt u_ps u_tg u_sn u_ic u_wd u_id 1023 p_1 p_2 p_3 u_wo u_va u_su u_st v_ro v_se v_re v_pt v_ah v_be v_me h_u_td h_u_fr h_u_to h_u_bd h_u_nc h_u_co h_u_pd h_u_la h_u_bk h_u_ce h_u_ho h_u_wy h_u_bt h_u_ps h_u_ic h_u_id i_1 ⟨by omega, by omega⟩ i_3 (r_ro) (r_pt) (r_me)) (cwV 4 hts gV_X12_425 rfl rfl rfl hv_X12_countFor ⟨Nat.le_of_ble_eq_true rfl, Nat.le_of_ble_eq_true rfl⟩) (g5_preV hPc hK hDc hN hT hS hFc (ci := 12) (q0 := 0) rfl rfl) rfl rfl hl.1 rfl (lv_room (Nat.le_of_ble_eq_true rfl)) dX12_tells_25 ⟨Nat.le_of_ble_eq_true rfl, Nat.le_of_ble_eq_true rfl⟩) hS (fun q _ h => hFc q h) hFc (fun u t H locs ht hvm hw hB hz1 hk1 hS => ?_)
      obtain ⟨hP1, hD1⟩ := hB
      have hP1 := g5_ht ht hP1
      obtain ⟨z16, z17, z18, z19, z20, z21, z22, z23, z24, z25, z26, z27, z28, z29, z30, z31, z32, z33, z34, (i_5 : 0 ≤ z16.toInt ∧ z16.toInt ≤ 4840), (i_6 : 0 ≤ z17.toInt ∧ z17.toInt ≤ 1), (i_7 : 0 ≤ z20.toInt ∧ z20.toInt ≤ 63), (i_8 : 0 ≤ z21.toInt ∧ z21.toInt ≤ 23), (i_9 : 0 ≤ z22.toInt ∧ z22.toInt ≤ 3), (i_10 : 0 ≤ z23.toInt ∧ z23.toInt ≤ 1000000), (i_11 : 0 ≤ z24.toInt ∧ z24.toInt ≤ 200), (i_12 : PTI z31), (i_13 : 0 ≤ z27.toInt ∧ z27.toInt ≤ 1), (i_14 : MEI z34), (i_15 : AH0 z32 z34), rfl⟩ := hw
      have hJ9 := va_join (wr := []) hP hD [0, 1, 2, 3, 4, 5, 6, 7] [] rfl rfl (by decide +kernel) (by decide +kernel) hk1 hFc hP1 hD1
      clear hP hD hPc hDc hFc ht hvm hz1 hk1 hP1 hD1
      obtain ⟨hP, hD⟩ := hJ9
      refine g5_rs [(b_o, (oc12 0 u_sa b_rf b_ro b_im b_ke u_fd b_tp u_td u_fr u_to u_so u_wo u_fa u_bd u_nc b_nl u_co b_op b_ar u_le b_pi b_pa u_pd u_od b_ws b_hw z16 b_se b_re z17 z18 z19 z20 z21 z22 z23 z24 b_pt z25 z26 b_ip z27 b_ah b_be b_me z28 b_tr b_ld u_st b_wn u_id)), (b_ro, (arI G 5740 v_ro)), (b_se, (arJ G 13 z29)), (b_re, (arJ G 400 z30)), (b_pt, (arI G 200 z31)), (b_ah, (arJ G 49152 z32)), (b_be, (arJ G 49152 z33)), (b_me, (arI G 1536 z34))] hP hD ?_
      clear hP hD
      intro hP hD
      refine lv_aload_n hx hb dX12_tells_28 rfl (lv_at hl 0 rfl) ?_
      obtain ⟨hPc, hDc, hFc⟩ := g5_sub3 (wc := [(b_o, (oc12 0 u_sa b_rf b_ro b_im b_ke u_fd b_tp u_td u_fr u_to u_so u_wo u_fa u_bd u_nc b_nl u_co b_op b_ar u_le b_pi b_pa u_pd u_od b_ws b_hw z16 b_se b_re z17 z18 z19 z20 z21 z22 z23 z24 b_pt z25 z26 b_ip z27 b_ah b_be b_me z28 b_tr b_ld u_st b_wn u_id)), (b_ah, (arJ G 49152 z32)), (b_be, (arJ G 49152 z33))]) hP hD hS hA [0, 5, 6] (by decide +kernel) rfl
      refine va_calll (va_runV (As := []) (rest := []) ⟨hx, hb, hml, hown, hts⟩ (n_allRows l G b_o b_ah b_be b_rf b_ro b_im b_ke b_tp b_nl b_op b_ar b_pi b_pa b_ws b_hw b_se b_re b_pt b_ip b_me b_tr b_ld b_wn H.size 0 u_sa u_fd u_td u_fr u_to u_so u_fa u_bd u_nc u_co u_le u_pd u_od z16 z17 z20 z21 z22 z23 z24 z25 z26 z27 z28 u_id u_wo z18 z19 u_st z32 z33 h_u_td h_u_fr h_u_to h_u_bd h_u_nc h_u_co h_u_pd i_5 i_6 i_7 i_8 i_9 i_10 i_11 i_13 h_u_id) (cwV 0 hts gV_X12_447 rfl rfl rfl hv_X12_allRows ⟨Nat.le_of_ble_eq_true rfl, Nat.le_of_ble_eq_true rfl⟩) (g5_preV hPc hK hDc hN hT hS hFc (ci := 12) (q0 := 0) rfl rfl) rfl rfl hl.1 rfl (lv_room (Nat.le_of_ble_eq_true rfl)) dX12_tells_29 ⟨Nat.le_of_ble_eq_true rfl, Nat.le_of_ble_eq_true rfl⟩) hS (fun q _ h => hFc q h) hFc (fun r u t H locs ht hvm hw hB hz1 hk1 hS => ?_)
      obtain ⟨hP1, hD1⟩ := hB
      have hP1 := g5_ht ht hP1
      obtain ⟨z35, y36, rfl⟩ := hw
      have hJ9 := va_join (wr := [(b_ro, (arI G 5740 v_ro)), (b_se, (arJ G 13 z29)), (b_re, (arJ G 400 z30)), (b_pt, (arI G 200 z31)), (b_me, (arI G 1536 z34))]) hP hD [0, 5, 6] [1, 2, 3, 4, 7] rfl rfl (by decide +kernel) (by decide +kernel) hk1 hFc hP1 hD1
      clear hP hD hPc hDc hFc ht hvm hz1 hk1 hP1 hD1
      obtain ⟨hP, hD⟩ := hJ9
      refine g5_rs [(b_ro, (arI G 5740 v_ro)), (b_se, (arJ G 13 z29)), (b_re, (arJ G 400 z30)), (b_pt, (arI G 200 z31)), (b_me, (arI G 1536 z34)), (b_o, (oc12 0 u_sa b_rf b_ro b_im b_ke u_fd b_tp u_td u_fr u_to u_so u_wo u_fa u_bd u_nc b_nl u_co b_op b_ar u_le b_pi b_pa u_pd u_od b_ws b_hw z16 b_se b_re z17 z18 z19 z20 z21 z22 z23 z24 b_pt z25 z26 b_ip z27 b_ah b_be b_me z28 b_tr b_ld u_st b_wn u_id)), (b_ah, (arJ G 49152 z32)), (b_be, (arJ G 49152 z33))] hP hD ?_
      clear hP hD
      intro hP hD
      refine g5_tl (v := z35) y36 ?_
      refine lv_lstore (lv' := [(4, .long z35), (0, .ref b_o), (1, .int p_1), (2, .int p_2), (3, .int p_3)]) hx hb dX12_tells_32 hl (by decide +kernel) rfl ?_
      clear hl
      intro ls hl
      refine W.eq (g2 := F0 m 34 ls []) rfl ?_
      refine lv_aload_n hx hb dX12_tells_34 rfl (lv_at hl 1 rfl) ?_
      obtain ⟨hPc, hDc, hFc⟩ := g5_sub3 (wc := [(b_o, (oc12 0 u_sa b_rf b_ro b_im b_ke u_fd b_tp u_td u_fr u_to u_so u_wo u_fa u_bd u_nc b_nl u_co b_op b_ar u_le b_pi b_pa u_pd u_od b_ws b_hw z16 b_se b_re z17 z18 z19 z20 z21 z22 z23 z24 b_pt z25 z26 b_ip z27 b_ah b_be b_me z28 b_tr b_ld u_st b_wn u_id)), (b_ro, (arI G 5740 v_ro)), (b_se, (arJ G 13 z29)), (b_re, (arJ G 400 z30)), (b_pt, (arI G 200 z31)), (b_ah, (arJ G 49152 z32)), (b_be, (arJ G 49152 z33)), (b_me, (arI G 1536 z34))]) hP hD hS hA [5, 0, 1, 2, 3, 6, 7, 4] (by decide +kernel) rfl
      refine va_callv (va_runV (As := []) (rest := []) ⟨hx, hb, hml, hown, hts⟩ (n_countRowsP l G b_o b_ro b_se b_re b_pt b_ah b_be b_me b_rf b_im b_ke b_tp b_nl b_op b_ar b_pi b_pa b_ws b_hw b_ip b_tr b_ld b_wn H.size 0 u_sa u_fd u_td u_fr u_to u_so u_fa u_bd u_nc u_co u_le u_pd u_od z16 z17 z20 z21 z22 z23 z24 z25 z26 z27 z28 u_id u_wo z18 z19 u_st v_ro z29 z30 z31 z32 z33 z34 h_u_td h_u_fr h_u_to h_u_bd h_u_nc h_u_co h_u_pd i_5 i_6 i_7 i_8 i_9 i_10 i_11 i_13 h_u_id (r_ro) (i_12) (i_14) (i_15)) (cwV 0 hts gV_X12_444 rfl rfl rfl hv_X12_countRows ⟨Nat.le_of_ble_eq_true rfl, Nat.le_of_ble_eq_true rfl⟩) (g5_preV hPc hK hDc hN hT hS hFc (ci := 12) (q0 := 0) rfl rfl) rfl rfl hl.1 rfl (lv_room (Nat.le_of_ble_eq_true rfl)) dX12_tells_35 ⟨Nat.le_of_ble_eq_true rfl, Nat.le_of_ble_eq_true rfl⟩) hS (fun q _ h => hFc q h) hFc (fun u t H locs ht hvm hw hB hz1 hk1 hS => ?_)
      obtain ⟨hP1, hD1⟩ := hB
      have hP1 := g5_ht ht hP1
      obtain ⟨z48, z49, z50, z51, z52, z53, z54, z55, z56, z57, z58, z59, z60, z61, z62, z63, z64, z65, z66, (i_37 : 0 ≤ z48.toInt ∧ z48.toInt ≤ 4840), (i_38 : 0 ≤ z49.toInt ∧ z49.toInt ≤ 1), (i_39 : 0 ≤ z52.toInt ∧ z52.toInt ≤ 63), (i_40 : 0 ≤ z53.toInt ∧ z53.toInt ≤ 23), (i_41 : 0 ≤ z54.toInt ∧ z54.toInt ≤ 3), (i_42 : 0 ≤ z55.toInt ∧ z55.toInt ≤ 1000000), (i_43 : 0 ≤ z56.toInt ∧ z56.toInt ≤ 200), (i_44 : PTI z63), (i_45 : 0 ≤ z59.toInt ∧ z59.toInt ≤ 1), (i_46 : MEI z66), (i_47 : AH0 z64 z66), rfl⟩ := hw
      have hJ9 := va_join (wr := []) hP hD [5, 0, 1, 2, 3, 6, 7, 4] [] rfl rfl (by decide +kernel) (by decide +kernel) hk1 hFc hP1 hD1
      clear hP hD hPc hDc hFc ht hvm hz1 hk1 hP1 hD1
      obtain ⟨hP, hD⟩ := hJ9
      refine g5_rs [(b_o, (oc12 0 u_sa b_rf b_ro b_im b_ke u_fd b_tp u_td u_fr u_to u_so u_wo u_fa u_bd u_nc b_nl u_co b_op b_ar u_le b_pi b_pa u_pd u_od b_ws b_hw z48 b_se b_re z49 z50 z51 z52 z53 z54 z55 z56 b_pt z57 z58 b_ip z59 b_ah b_be b_me z60 b_tr b_ld u_st b_wn u_id)), (b_ro, (arI G 5740 v_ro)), (b_se, (arJ G 13 z61)), (b_re, (arJ G 400 z62)), (b_pt, (arI G 200 z63)), (b_ah, (arJ G 49152 z64)), (b_be, (arJ G 49152 z65)), (b_me, (arI G 1536 z66))] hP hD ?_
      clear hP hD
      intro hP hD
      refine lv_aload_n hx hb dX12_tells_38 rfl (lv_at hl 1 rfl) ?_
      obtain ⟨hPc, hDc, hFc⟩ := g5_sub3 (wc := [(b_o, (oc12 0 u_sa b_rf b_ro b_im b_ke u_fd b_tp u_td u_fr u_to u_so u_wo u_fa u_bd u_nc b_nl u_co b_op b_ar u_le b_pi b_pa u_pd u_od b_ws b_hw z48 b_se b_re z49 z50 z51 z52 z53 z54 z55 z56 b_pt z57 z58 b_ip z59 b_ah b_be b_me z60 b_tr b_ld u_st b_wn u_id)), (b_ah, (arJ G 49152 z64)), (b_be, (arJ G 49152 z65))]) hP hD hS hA [0, 5, 6] (by decide +kernel) rfl
      refine va_calll (va_runV (As := []) (rest := []) ⟨hx, hb, hml, hown, hts⟩ (n_allRows l G b_o b_ah b_be b_rf b_ro b_im b_ke b_tp b_nl b_op b_ar b_pi b_pa b_ws b_hw b_se b_re b_pt b_ip b_me b_tr b_ld b_wn H.size 0 u_sa u_fd u_td u_fr u_to u_so u_fa u_bd u_nc u_co u_le u_pd u_od z48 z49 z52 z53 z54 z55 z56 z57 z58 z59 z60 u_id u_wo z50 z51 u_st z64 z65 h_u_td h_u_fr h_u_to h_u_bd h_u_nc h_u_co h_u_pd i_37 i_38 i_39 i_40 i_41 i_42 i_43 i_45 h_u_id) (cwV 0 hts gV_X12_447 rfl rfl rfl hv_X12_allRows ⟨Nat.le_of_ble_eq_true rfl, Nat.le_of_ble_eq_true rfl⟩) (g5_preV hPc hK hDc hN hT hS hFc (ci := 12) (q0 := 0) rfl rfl) rfl rfl hl.1 rfl (lv_room (Nat.le_of_ble_eq_true rfl)) dX12_tells_39 ⟨Nat.le_of_ble_eq_true rfl, Nat.le_of_ble_eq_true rfl⟩) hS (fun q _ h => hFc q h) hFc (fun r u t H locs ht hvm hw hB hz1 hk1 hS => ?_)
      obtain ⟨hP1, hD1⟩ := hB
      have hP1 := g5_ht ht hP1
      obtain ⟨z67, y68, rfl⟩ := hw
      have hJ9 := va_join (wr := [(b_ro, (arI G 5740 v_ro)), (b_se, (arJ G 13 z61)), (b_re, (arJ G 400 z62)), (b_pt, (arI G 200 z63)), (b_me, (arI G 1536 z66))]) hP hD [0, 5, 6] [1, 2, 3, 4, 7] rfl rfl (by decide +kernel) (by decide +kernel) hk1 hFc hP1 hD1
      clear hP hD hPc hDc hFc ht hvm hz1 hk1 hP1 hD1
      obtain ⟨hP, hD⟩ := hJ9
      refine g5_rs [(b_ro, (arI G 5740 v_ro)), (b_se, (arJ G 13 z61)), (b_re, (arJ G 400 z62)), (b_pt, (arI G 200 z63)), (b_me, (arI G 1536 z66)), (b_o, (oc12 0 u_sa b_rf b_ro b_im b_ke u_fd b_tp u_td u_fr u_to u_so u_wo u_fa u_bd u_nc b_nl u_co b_op b_ar u_le b_pi b_pa u_pd u_od b_ws b_hw z48 b_se b_re z49 z50 z51 z52 z53 z54 z55 z56 b_pt z57 z58 b_ip z59 b_ah b_be b_me z60 b_tr b_ld u_st b_wn u_id)), (b_ah, (arJ G 49152 z64)), (b_be, (arJ G 49152 z65))] hP hD ?_
      clear hP hD
      intro hP hD
      refine g5_tl (v := z67) y68 ?_
      refine lv_lload hx hb dX12_tells_42 (lv_at hl 0 rfl) ?_
      refine W.eq (g2 := F0 m 44 ls [.long z35, .long z67]) rfl ?_
      refine lv_lsub hx hb dX12_tells_44 ?_
      exact W.lret (v := (z67 - z35)) hx hb hr (fun t ht hW => ⟨⟨(z67 - z35), [(b_o, (oc12 0 u_sa b_rf b_ro b_im b_ke u_fd b_tp u_td u_fr u_to u_so u_wo u_fa u_bd u_nc b_nl u_co b_op b_ar u_le b_pi b_pa u_pd u_od b_ws b_hw z48 b_se b_re z49 z50 z51 z52 z53 z54 z55 z56 b_pt z57 z58 b_ip z59 b_ah b_be b_me z60 b_tr b_ld u_st b_wn u_id)), (b_ro, (arI G 5740 v_ro)), (b_se, (arJ G 13 z61)), (b_re, (arJ G 400 z62)), (b_pt, (arI G 200 z63)), (b_ah, (arJ G 49152 z64)), (b_be, (arJ G 49152 z65)), (b_me, (arI G 1536 z66))], rfl, ⟨(z67 - z35), 0, z48, z49, z50, z51, z52, z53, z54, z55, z56, z57, z58, z59, z60, z61, z62, z63, z64, z65, z66, i_37, i_38, i_39, i_40, i_41, i_42, i_43, i_44, i_45, i_46, i_47, rfl, rfl⟩, by rw [ht]; exact hP.sub [5, 0, 1, 2, 3, 6, 7, 4] rfl, hD.sub [5, 0, 1, 2, 3, 6, 7, 4] (by decide +kernel) rfl⟩, hS.F ht⟩) hS.2.2 dX12_tells_45
    ·
      exact absurd c_4 (by decide +kernel)
  ·
    have hJ9 := g5_same hP hk1
    clear hP hPc hDc hFc ht hvm hz1 hk1 hP1 hD1
    have hP := hJ9
    clear hJ9
    refine lv_if_ne (tgt := 18) hx hb dX12_tells_11 (by decide +kernel) (fun c_69 => ?_) (fun c_69 => ?_)
    ·
      exact absurd c_69 (by decide +kernel)
    ·
      refine lv_ldc2 (v := (-1)) hx hb hown (hts _ kl_X12_178) dX12_tells_14 ?_
      exact W.lret (v := (-1)) hx hb hr (fun t ht hW => ⟨⟨(-1), [(b_o, (oc12 0 u_sa b_rf b_ro b_im b_ke u_fd b_tp u_td u_fr u_to u_so u_wo u_fa u_bd u_nc b_nl u_co b_op b_ar u_le b_pi b_pa u_pd u_od b_ws b_hw u_la b_se b_re u_bk u_va u_su u_ce u_ho u_wy u_bt u_ps b_pt u_tg u_sn b_ip u_ic b_ah b_be b_me u_wd b_tr b_ld u_st b_wn u_id)), (b_ro, (arI G 5740 v_ro)), (b_se, (arJ G 13 v_se)), (b_re, (arJ G 400 v_re)), (b_pt, (arI G 200 v_pt)), (b_ah, (arJ G 49152 v_ah)), (b_be, (arJ G 49152 v_be)), (b_me, (arI G 1536 v_me))], rfl, ⟨(-1), 0, u_la, u_bk, u_va, u_su, u_ce, u_ho, u_wy, u_bt, u_ps, u_tg, u_sn, u_ic, u_wd, v_se, v_re, v_pt, v_ah, v_be, v_me, h_u_la, h_u_bk, h_u_ce, h_u_ho, h_u_wy, h_u_bt, h_u_ps, r_pt, h_u_ic, r_me, e_ah, rfl, rfl⟩, by rw [ht]; exact hP.sub [0, 1, 2, 3, 4, 5, 6, 7] rfl, hD.sub [0, 1, 2, 3, 4, 5, 6, 7] (by decide +kernel) rfl⟩, hS.F ht⟩) hS.2.2 dX12_tells_17
set_option maxHeartbeats 4000000 in
set_option maxRecDepth 100000 in
theorem n_surelyP (l : Launch) (G : g5_G) (b_o b_ro b_se b_re b_pt b_ah b_be b_me b_rf b_im b_ke b_tp b_nl b_op b_ar b_pi b_pa b_ws b_hw b_ip b_tr b_ld b_wn : Nat) (sz : Nat) (u_th : Int32) (u_sa : Int32) (u_fd : Int32) (u_td : Int32) (u_fr : Int32) (u_to : Int32) (u_so : Int32) (u_fa : Int32) (u_bd : Int32) (u_nc : Int32) (u_co : Int32) (u_le : Int32) (u_pd : Int32) (u_od : Int32) (u_la : Int32) (u_bk : Int32) (u_ce : Int32) (u_ho : Int32) (u_wy : Int32) (u_bt : Int32) (u_ps : Int32) (u_tg : Int32) (u_sn : Int32) (u_ic : Int32) (u_wd : Int32) (u_id : Int32) (p_1 : Int32) (u_wo : Int64) (u_va : Int64) (u_su : Int64) (u_st : Int64) (v_ro : Nat → Int32) (v_se : Nat → Int64) (v_re : Nat → Int64) (v_pt : Nat → Int32) (v_ah : Nat → Int64) (v_be : Nat → Int64) (v_me : Nat → Int32) (h_u_td : 0 ≤ u_td.toInt ∧ u_td.toInt ≤ 400) (h_u_fr : 0 ≤ u_fr.toInt ∧ u_fr.toInt ≤ 400) (h_u_to : 0 ≤ u_to.toInt ∧ u_to.toInt ≤ 400) (h_u_bd : 0 ≤ u_bd.toInt ∧ u_bd.toInt ≤ 1) (h_u_nc : 0 ≤ u_nc.toInt ∧ u_nc.toInt ≤ 12) (h_u_co : 0 ≤ u_co.toInt ∧ u_co.toInt ≤ 400) (h_u_pd : 0 ≤ u_pd.toInt ∧ u_pd.toInt ≤ 400) (h_u_la : 0 ≤ u_la.toInt ∧ u_la.toInt ≤ 4840) (h_u_bk : 0 ≤ u_bk.toInt ∧ u_bk.toInt ≤ 1) (h_u_ce : 0 ≤ u_ce.toInt ∧ u_ce.toInt ≤ 63) (h_u_ho : 0 ≤ u_ho.toInt ∧ u_ho.toInt ≤ 23) (h_u_wy : 0 ≤ u_wy.toInt ∧ u_wy.toInt ≤ 3) (h_u_bt : 0 ≤ u_bt.toInt ∧ u_bt.toInt ≤ 1000000) (h_u_ps : 0 ≤ u_ps.toInt ∧ u_ps.toInt ≤ 200) (h_u_ic : 0 ≤ u_ic.toInt ∧ u_ic.toInt ≤ 1) (h_u_id : 0 ≤ u_id.toInt ∧ u_id.toInt ≤ 1) (r_ro : MI v_ro) (r_pt : PTI v_pt) (r_me : MEI v_me) (e_ah : AH0 v_ah v_me) : Met l yX12_surely (wsG yX12_surely cX12_surely 5 (some .int)) ({ frames := 10, cells := 0, slots := 0, locals := 251 }) (va_Pc [.ref b_o, .int p_1] (g5_P G [(b_o, (oc12 u_th u_sa b_rf b_ro b_im b_ke u_fd b_tp u_td u_fr u_to u_so u_wo u_fa u_bd u_nc b_nl u_co b_op b_ar u_le b_pi b_pa u_pd u_od b_ws b_hw u_la b_se b_re u_bk u_va u_su u_ce u_ho u_wy u_bt u_ps b_pt u_tg u_sn b_ip u_ic b_ah b_be b_me u_wd b_tr b_ld u_st b_wn u_id)), (b_ro, (arI G 5740 v_ro)), (b_se, (arJ G 13 v_se)), (b_re, (arJ G 400 v_re)), (b_pt, (arI G 200 v_pt)), (b_ah, (arJ G 49152 v_ah)), (b_be, (arJ G 49152 v_be)), (b_me, (arI G 1536 v_me))] sz)) (va_Qi (fun (r : Int32) (u : va_W) => (∃ (o_r : Int32) (o_th : Int32) (o_la : Int32) (o_bk : Int32) (o_va : Int64) (o_su : Int64) (o_ce : Int32) (o_ho : Int32) (o_wy : Int32) (o_bt : Int32) (o_ps : Int32) (o_tg : Int32) (o_sn : Int32) (o_ic : Int32) (o_wd : Int32) (o_se : Nat → Int64) (o_re : Nat → Int64) (o_pt : Nat → Int32) (o_ah : Nat → Int64) (o_be : Nat → Int64) (o_me : Nat → Int32), (0 ≤ o_la.toInt ∧ o_la.toInt ≤ 4840) ∧ (0 ≤ o_bk.toInt ∧ o_bk.toInt ≤ 1) ∧ (0 ≤ o_ce.toInt ∧ o_ce.toInt ≤ 63) ∧ (0 ≤ o_ho.toInt ∧ o_ho.toInt ≤ 23) ∧ (0 ≤ o_wy.toInt ∧ o_wy.toInt ≤ 3) ∧ (0 ≤ o_bt.toInt ∧ o_bt.toInt ≤ 1000000) ∧ (0 ≤ o_ps.toInt ∧ o_ps.toInt ≤ 200) ∧ (PTI o_pt) ∧ (0 ≤ o_ic.toInt ∧ o_ic.toInt ≤ 1) ∧ (MEI o_me) ∧ (AH0 o_ah o_me) ∧ (r = o_r) ∧ (u = [(b_o, (oc12 o_th u_sa b_rf b_ro b_im b_ke u_fd b_tp u_td u_fr u_to u_so u_wo u_fa u_bd u_nc b_nl u_co b_op b_ar u_le b_pi b_pa u_pd u_od b_ws b_hw o_la b_se b_re o_bk o_va o_su o_ce o_ho o_wy o_bt o_ps b_pt o_tg o_sn b_ip o_ic b_ah b_be b_me o_wd b_tr b_ld u_st b_wn u_id)), (b_ro, (arI G 5740 v_ro)), (b_se, (arJ G 13 o_se)), (b_re, (arJ G 400 o_re)), (b_pt, (arI G 200 o_pt)), (b_ah, (arJ G 49152 o_ah)), (b_be, (arJ G 49152 o_be)), (b_me, (arI G 1536 o_me))]))) (g5_B G (va_A [(b_o, (oc12 u_th u_sa b_rf b_ro b_im b_ke u_fd b_tp u_td u_fr u_to u_so u_wo u_fa u_bd u_nc b_nl u_co b_op b_ar u_le b_pi b_pa u_pd u_od b_ws b_hw u_la b_se b_re u_bk u_va u_su u_ce u_ho u_wy u_bt u_ps b_pt u_tg u_sn b_ip u_ic b_ah b_be b_me u_wd b_tr b_ld u_st b_wn u_id)), (b_ro, (arI G 5740 v_ro)), (b_se, (arJ G 13 v_se)), (b_re, (arJ G 400 v_re)), (b_pt, (arI G 200 v_pt)), (b_ah, (arJ G 49152 v_ah)), (b_be, (arJ G 49152 v_be)), (b_me, (arI G 1536 v_me))] sz)) (va_A [(b_o, (oc12 u_th u_sa b_rf b_ro b_im b_ke u_fd b_tp u_td u_fr u_to u_so u_wo u_fa u_bd u_nc b_nl u_co b_op b_ar u_le b_pi b_pa u_pd u_od b_ws b_hw u_la b_se b_re u_bk u_va u_su u_ce u_ho u_wy u_bt u_ps b_pt u_tg u_sn b_ip u_ic b_ah b_be b_me u_wd b_tr b_ld u_st b_wn u_id)), (b_ro, (arI G 5740 v_ro)), (b_se, (arJ G 13 v_se)), (b_re, (arJ G 400 v_re)), (b_pt, (arI G 200 v_pt)), (b_ah, (arJ G 49152 v_ah)), (b_be, (arJ G 49152 v_be)), (b_me, (arI G 1536 v_me))] sz)) 0 0 (va_A [(b_o, (oc12 u_th u_sa b_rf b_ro b_im b_ke u_fd b_tp u_td u_fr u_to u_so u_wo u_fa u_bd u_nc b_nl u_co b_op b_ar u_le b_pi b_pa u_pd u_od b_ws b_hw u_la b_se b_re u_bk u_va u_su u_ce u_ho u_wy u_bt u_ps b_pt u_tg u_sn b_ip u_ic b_ah b_be b_me u_wd b_tr b_ld u_st b_wn u_id)), (b_ro, (arI G 5740 v_ro)), (b_se, (arJ G 13 v_se)), (b_re, (arJ G 400 v_re)), (b_pt, (arI G 200 v_pt)), (b_ah, (arJ G 49152 v_ah)), (b_be, (arJ G 49152 v_be)), (b_me, (arI G 1536 v_me))] sz) := by
  refine Met.ofW (cc := cX12_surely) (maxL := 5) (ret := (some .int)) (by decide +kernel) rfl ?_
  intro p e s m args below meth c s₁ B hml hv
  obtain ⟨rfl, hsz, hP, hK, hD0, hN, hT⟩ := hv
  have hx := B.exec
  have hb := B.bytes
  have hr := B.returns
  have hts : ∀ w ∈ tblG, w.before _ s = true := fun w h => atoms_spec (ws := (wsG yX12_surely cX12_surely 5 (some .int))) B.pre w (List.mem_cons_of_mem _ h)
  have hown : s.vm.findClass RX12 = some m.cls := findClass_of_methodNamed B.named
  have hlocks := B.notSynchronized
  subst hsz
  have hD := hD0.self (sz := s.heap.size)
  generalize hAe : va_A [(b_o, (oc12 u_th u_sa b_rf b_ro b_im b_ke u_fd b_tp u_td u_fr u_to u_so u_wo u_fa u_bd u_nc b_nl u_co b_op b_ar u_le b_pi b_pa u_pd u_od b_ws b_hw u_la b_se b_re u_bk u_va u_su u_ce u_ho u_wy u_bt u_ps b_pt u_tg u_sn b_ip u_ic b_ah b_be b_me u_wd b_tr b_ld u_st b_wn u_id)), (b_ro, (arI G 5740 v_ro)), (b_se, (arJ G 13 v_se)), (b_re, (arJ G 400 v_re)), (b_pt, (arI G 200 v_pt)), (b_ah, (arJ G 49152 v_ah)), (b_be, (arJ G 49152 v_be)), (b_me, (arI G 1536 v_me))] s.heap.size = A at hD hT ⊢
  have hA : ∀ q : Nat, s.heap.size ≤ q → A q := fun q h => by rw [← hAe]; exact Or.inr h
  have hS : va_S A s.heap s.heap [] := va_S.rf
  replace hP : va_P G.1 vwCl [(b_o, (oc12 u_th u_sa b_rf b_ro b_im b_ke u_fd b_tp u_td u_fr u_to u_so u_wo u_fa u_bd u_nc b_nl u_co b_op b_ar u_le b_pi b_pa u_pd u_od b_ws b_hw u_la b_se b_re u_bk u_va u_su u_ce u_ho u_wy u_bt u_ps b_pt u_tg u_sn b_ip u_ic b_ah b_be b_me u_wd b_tr b_ld u_st b_wn u_id)), (b_ro, (arI G 5740 v_ro)), (b_se, (arJ G 13 v_se)), (b_re, (arJ G 400 v_re)), (b_pt, (arI G 200 v_pt)), (b_ah, (arJ G 49152 v_ah)), (b_be, (arJ G 49152 v_be)), (b_me, (arI G 1536 v_me))] s.heap := hP
  have hl := lv_entry ([.ref b_o, .int p_1]) (n := 5) (Nat.le_of_ble_eq_true rfl)
  rw [lg_entry_eq]
  generalize (lg_sl ([.ref b_o, .int p_1]) ++ List.replicate (5 - (lg_sl ([.ref b_o, .int p_1])).length) Slot.unset).toArray = ls at hl ⊢
  replace hl : lv_has ls 5 [(0, .ref b_o), (1, .int p_1)] := hl
  refine lv_aload_n hx hb dX12_surely_0 rfl (lv_at hl 0 rfl) ?_
  refine lv_iconst (v := 0) hx hb dX12_surely_1 (by decide +kernel) ?_
  refine va_put (D := G.1) (ci := 12) (v := .int 0) (ty := .int) (C := RX12) (T := TX12) (N := 52) hx hb hts inG_X12 tyX12 tyX12_ok nmX12 hown hK hP hD hS 0 rfl rfl 0 (by decide +kernel) (hts _ fl_X12_107) (fun _ h9 => h9) rfl (by decide +kernel) rfl rfl (Nat.le_of_ble_eq_true rfl) dX12_surely_2 ?_
  clear hP hD hS
  intro H locs hP hD hS
  refine g5_rs [(b_o, (oc12 0 u_sa b_rf b_ro b_im b_ke u_fd b_tp u_td u_fr u_to u_so u_wo u_fa u_bd u_nc b_nl u_co b_op b_ar u_le b_pi b_pa u_pd u_od b_ws b_hw u_la b_se b_re u_bk u_va u_su u_ce u_ho u_wy u_bt u_ps b_pt u_tg u_sn b_ip u_ic b_ah b_be b_me u_wd b_tr b_ld u_st b_wn u_id)), (b_ro, (arI G 5740 v_ro)), (b_se, (arJ G 13 v_se)), (b_re, (arJ G 400 v_re)), (b_pt, (arI G 200 v_pt)), (b_ah, (arJ G 49152 v_ah)), (b_be, (arJ G 49152 v_be)), (b_me, (arI G 1536 v_me))] hP hD ?_
  clear hP hD
  intro hP hD
  refine lv_iload_n hx hb dX12_surely_5 rfl (lv_at hl 1 rfl) ?_
  refine W.eq (g2 := F0 m 6 ls [.int p_1]) rfl ?_
  obtain ⟨hPc, hDc, hFc⟩ := g5_sub3 (wc := []) hP hD hS hA [] (by decide +kernel) rfl
  refine va_calli (va_runS (As := [.int p_1]) (rest := []) ⟨hx, hb, hml, hown, hts⟩ (n_isHour l G H.size p_1) (va_cwS 1 hts gS_X12_175 rfl rfl rfl hs_X12_isHour ⟨Nat.le_of_ble_eq_true rfl, Nat.le_of_ble_eq_true rfl⟩) (g5_preS hPc hK hDc hN hT hS hFc) rfl rfl hl.1 rfl (lv_room (Nat.le_of_ble_eq_true rfl)) dX12_surely_6 ⟨Nat.le_of_ble_eq_true rfl, Nat.le_of_ble_eq_true rfl⟩) hS (fun q _ h => hFc q h) hFc (fun r u t H locs ht hvm hw hB hz1 hk1 hS => ?_)
  obtain ⟨hP1, hD1⟩ := hB
  have hP1 := g5_ht ht hP1
  rcases hw with ⟨(i_1 : 0 ≤ p_1.toInt ∧ p_1.toInt ≤ 23), rfl, rfl⟩ | ⟨rfl, rfl⟩
  ·
    have hJ9 := g5_same hP hk1
    clear hP hPc hDc hFc ht hvm hz1 hk1 hP1 hD1
    have hP := hJ9
    clear hJ9
    refine lv_if_ne (tgt := 14) hx hb dX12_surely_9 (by decide +kernel) (fun c_2 => ?_) (fun c_2 => ?_)
    ·
      refine lv_aload_n hx hb dX12_surely_14 rfl (lv_at hl 0 rfl) ?_
      obtain ⟨hPc, hDc, hFc⟩ := g5_sub3 (wc := [(b_o, (oc12 0 u_sa b_rf b_ro b_im b_ke u_fd b_tp u_td u_fr u_to u_so u_wo u_fa u_bd u_nc b_nl u_co b_op b_ar u_le b_pi b_pa u_pd u_od b_ws b_hw u_la b_se b_re u_bk u_va u_su u_ce u_ho u_wy u_bt u_ps b_pt u_tg u_sn b_ip u_ic b_ah b_be b_me u_wd b_tr b_ld u_st b_wn u_id)), (b_ro, (arI G 5740 v_ro)), (b_se, (arJ G 13 v_se)), (b_re, (arJ G 400 v_re)), (b_pt, (arI G 200 v_pt)), (b_ah, (arJ G 49152 v_ah)), (b_be, (arJ G 49152 v_be)), (b_me, (arI G 1536 v_me))]) hP hD hS hA [0, 1, 2, 3, 4, 5, 6, 7] (by decide +kernel) rfl
      refine va_callv (va_runV (As := []) (rest := []) ⟨hx, hb, hml, hown, hts⟩ (n_countRowsP l G b_o b_ro b_se b_re b_pt b_ah b_be b_me b_rf b_im b_ke b_tp b_nl b_op b_ar b_pi b_pa b_ws b_hw b_ip b_tr b_ld b_wn H.size 0 u_sa u_fd u_td u_fr u_to u_so u_fa u_bd u_nc u_co u_le u_pd u_od u_la u_bk u_ce u_ho u_wy u_bt u_ps u_tg u_sn u_ic u_wd u_id u_wo u_va u_su u_st v_ro v_se v_re v_pt v_ah v_be v_me h_u_td h_u_fr h_u_to h_u_bd h_u_nc h_u_co h_u_pd h_u_la h_u_bk h_u_ce h_u_ho h_u_wy h_u_bt h_u_ps h_u_ic h_u_id (r_ro) (r_pt) (r_me) (e_ah)) (cwV 0 hts gV_X12_444 rfl rfl rfl hv_X12_countRows ⟨Nat.le_of_ble_eq_true rfl, Nat.le_of_ble_eq_true rfl⟩) (g5_preV hPc hK hDc hN hT hS hFc (ci := 12) (q0 := 0) rfl rfl) rfl rfl hl.1 rfl (lv_room (Nat.le_of_ble_eq_true rfl)) dX12_surely_15 ⟨Nat.le_of_ble_eq_true rfl, Nat.le_of_ble_eq_true rfl⟩) hS (fun q _ h => hFc q h) hFc (fun u t H locs ht hvm hw hB hz1 hk1 hS => ?_)
      obtain ⟨hP1, hD1⟩ := hB
      have hP1 := g5_ht ht hP1
      obtain ⟨z14, z15, z16, z17, z18, z19, z20, z21, z22, z23, z24, z25, z26, z27, z28, z29, z30, z31, z32, (i_3 : 0 ≤ z14.toInt ∧ z14.toInt ≤ 4840), (i_4 : 0 ≤ z15.toInt ∧ z15.toInt ≤ 1), (i_5 : 0 ≤ z18.toInt ∧ z18.toInt ≤ 63), (i_6 : 0 ≤ z19.toInt ∧ z19.toInt ≤ 23), (i_7 : 0 ≤ z20.toInt ∧ z20.toInt ≤ 3), (i_8 : 0 ≤ z21.toInt ∧ z21.toInt ≤ 1000000), (i_9 : 0 ≤ z22.toInt ∧ z22.toInt ≤ 200), (i_10 : PTI z29), (i_11 : 0 ≤ z25.toInt ∧ z25.toInt ≤ 1), (i_12 : MEI z32), (i_13 : AH0 z30 z32), rfl⟩ := hw
      have hJ9 := va_join (wr := []) hP hD [0, 1, 2, 3, 4, 5, 6, 7] [] rfl rfl (by decide +kernel) (by decide +kernel) hk1 hFc hP1 hD1
      clear hP hD hPc hDc hFc ht hvm hz1 hk1 hP1 hD1
      obtain ⟨hP, hD⟩ := hJ9
      refine g5_rs [(b_o, (oc12 0 u_sa b_rf b_ro b_im b_ke u_fd b_tp u_td u_fr u_to u_so u_wo u_fa u_bd u_nc b_nl u_co b_op b_ar u_le b_pi b_pa u_pd u_od b_ws b_hw z14 b_se b_re z15 z16 z17 z18 z19 z20 z21 z22 b_pt z23 z24 b_ip z25 b_ah b_be b_me z26 b_tr b_ld u_st b_wn u_id)), (b_ro, (arI G 5740 v_ro)), (b_se, (arJ G 13 z27)), (b_re, (arJ G 400 z28)), (b_pt, (arI G 200 z29)), (b_ah, (arJ G 49152 z30)), (b_be, (arJ G 49152 z31)), (b_me, (arI G 1536 z32))] hP hD ?_
      clear hP hD
      intro hP hD
      refine lv_iconst (v := (-1)) hx hb dX12_surely_18 (by decide +kernel) ?_
      refine lv_istore_n (lv' := [(2, .int (-1)), (0, .ref b_o), (1, .int p_1)]) hx hb dX12_surely_19 rfl hl (by decide +kernel) rfl ?_
      clear hl
      intro ls hl
      refine W.eq (g2 := F0 m 20 ls []) rfl ?_
      refine lv_iconst (v := 0) hx hb dX12_surely_20 (by decide +kernel) ?_
      refine lv_istore_n (lv' := [(3, .int 0), (2, .int (-1)), (0, .ref b_o), (1, .int p_1)]) hx hb dX12_surely_21 rfl hl (by decide +kernel) rfl ?_
      clear hl
      intro ls hl
      refine lv_iconst (v := 0) hx hb dX12_surely_22 (by decide +kernel) ?_
      refine lv_istore (lv' := [(4, .int 0), (3, .int 0), (2, .int (-1)), (0, .ref b_o), (1, .int p_1)]) hx hb dX12_surely_23 hl (by decide +kernel) rfl ?_
      clear hl
      intro ls hl
      refine g5_loop (α := (Int32) × (Int32) × (Int32)) (fun (q : (Int32) × (Int32) × (Int32)) (ls : Array Slot) (H : Heap) (locs : List Loc) => match q with | (k25_4, k25_3, k25_2) => lv_has ls 5 [(2, .int k25_2), (3, .int k25_3), (4, .int k25_4), (0, .ref b_o), (1, .int p_1)] ∧ va_P G.1 vwCl [(b_o, (oc12 0 u_sa b_rf b_ro b_im b_ke u_fd b_tp u_td u_fr u_to u_so u_wo u_fa u_bd u_nc b_nl u_co b_op b_ar u_le b_pi b_pa u_pd u_od b_ws b_hw z14 b_se b_re z15 z16 z17 z18 z19 z20 z21 z22 b_pt z23 z24 b_ip z25 b_ah b_be b_me z26 b_tr b_ld u_st b_wn u_id)), (b_ro, (arI G 5740 v_ro)), (b_se, (arJ G 13 z27)), (b_re, (arJ G 400 z28)), (b_pt, (arI G 200 z29)), (b_ah, (arJ G 49152 z30)), (b_be, (arJ G 49152 z31)), (b_me, (arI G 1536 z32))] H ∧ va_D A [(b_o, (oc12 0 u_sa b_rf b_ro b_im b_ke u_fd b_tp u_td u_fr u_to u_so u_wo u_fa u_bd u_nc b_nl u_co b_op b_ar u_le b_pi b_pa u_pd u_od b_ws b_hw z14 b_se b_re z15 z16 z17 z18 z19 z20 z21 z22 b_pt z23 z24 b_ip z25 b_ah b_be b_me z26 b_tr b_ld u_st b_wn u_id)), (b_ro, (arI G 5740 v_ro)), (b_se, (arJ G 13 z27)), (b_re, (arJ G 400 z28)), (b_pt, (arI G 200 z29)), (b_ah, (arJ G 49152 z30)), (b_be, (arJ G 49152 z31)), (b_me, (arI G 1536 z32))] ∧ va_S A s.heap H locs ∧ (0 ≤ k25_4.toInt ∧ k25_4.toInt ≤ 64)) (fun (q : (Int32) × (Int32) × (Int32)) => match q with | (k25_4, k25_3, k25_2) => Int.toNat (64 - k25_4.toInt)) (0, 0, (-1)) ⟨lv_sub hl [2, 1, 0, 3, 4] rfl, hP, hD, hS, ⟨by decide, by decide⟩⟩ ?_
      rintro ⟨k25_4, k25_3, k25_2⟩ ls H locs ⟨hl, hP, hD, hS, (i_33 : 0 ≤ k25_4.toInt ∧ k25_4.toInt ≤ 64)⟩ ih_25_34
      replace hl : lv_has ls 5 [(2, .int k25_2), (3, .int k25_3), (4, .int k25_4), (0, .ref b_o), (1, .int p_1)] := hl
      refine g5_rs [(b_o, (oc12 0 u_sa b_rf b_ro b_im b_ke u_fd b_tp u_td u_fr u_to u_so u_wo u_fa u_bd u_nc b_nl u_co b_op b_ar u_le b_pi b_pa u_pd u_od b_ws b_hw z14 b_se b_re z15 z16 z17 z18 z19 z20 z21 z22 b_pt z23 z24 b_ip z25 b_ah b_be b_me z26 b_tr b_ld u_st b_wn u_id)), (b_ro, (arI G 5740 v_ro)), (b_se, (arJ G 13 z27)), (b_re, (arJ G 400 z28)), (b_pt, (arI G 200 z29)), (b_ah, (arJ G 49152 z30)), (b_be, (arJ G 49152 z31)), (b_me, (arI G 1536 z32))] hP hD ?_
      clear hP hD
      intro hP hD
      refine lv_iload hx hb dX12_surely_25 (lv_at hl 2 rfl) ?_
      refine lv_bipush (v := 64) hx hb dX12_surely_27 (by decide +kernel) ?_
      refine lv_icmp_ge (tgt := 77) hx hb dX12_surely_29 (by decide +kernel) (fun c_35 => ?_) (fun c_35 => ?_)
      ·
        have i_35 : k25_4.toInt ≥ 64 := g5_ge (a := k25_4.toInt) (b := 64) rfl (by decide +kernel) c_35
        refine lv_iload_n hx hb dX12_surely_77 rfl (lv_at hl 1 rfl) ?_
        refine lv_iconst (v := 1) hx hb dX12_surely_78 (by decide +kernel) ?_
        refine lv_icmp_ne (tgt := 86) hx hb dX12_surely_79 (by decide +kernel) (fun c_36 => ?_) (fun c_36 => ?_)
        ·
          have n_36 : gNe (k25_3.toInt) (1) := g5_ne (a := k25_3.toInt) (b := 1) rfl (by decide +kernel) c_36
          refine lv_iconst (v := (-1)) hx hb dX12_surely_86 (by decide +kernel) ?_
          exact W.iret (v := (-1)) hx hb hr (fun t ht hW => ⟨⟨(-1), [(b_o, (oc12 0 u_sa b_rf b_ro b_im b_ke u_fd b_tp u_td u_fr u_to u_so u_wo u_fa u_bd u_nc b_nl u_co b_op b_ar u_le b_pi b_pa u_pd u_od b_ws b_hw z14 b_se b_re z15 z16 z17 z18 z19 z20 z21 z22 b_pt z23 z24 b_ip z25 b_ah b_be b_me z26 b_tr b_ld u_st b_wn u_id)), (b_ro, (arI G 5740 v_ro)), (b_se, (arJ G 13 z27)), (b_re, (arJ G 400 z28)), (b_pt, (arI G 200 z29)), (b_ah, (arJ G 49152 z30)), (b_be, (arJ G 49152 z31)), (b_me, (arI G 1536 z32))], rfl, ⟨(-1), 0, z14, z15, z16, z17, z18, z19, z20, z21, z22, z23, z24, z25, z26, z27, z28, z29, z30, z31, z32, i_3, i_4, i_5, i_6, i_7, i_8, i_9, i_10, i_11, i_12, i_13, rfl, rfl⟩, by rw [ht]; exact hP.sub [0, 1, 2, 3, 4, 5, 6, 7] rfl, hD.sub [0, 1, 2, 3, 4, 5, 6, 7] (by decide +kernel) rfl⟩, hS.F ht⟩) hS.2.2 dX12_surely_87
        ·
          have i_36 : k25_3.toInt = 1 := g5_neN (a := k25_3.toInt) (b := 1) rfl (by decide +kernel) c_36
          refine lv_iload_n hx hb dX12_surely_82 rfl (lv_at hl 0 rfl) ?_
          refine lv_goto (tgt := 87) hx hb dX12_surely_83 (by decide +kernel) ?_
          exact W.iret (v := k25_2) hx hb hr (fun t ht hW => ⟨⟨k25_2, [(b_o, (oc12 0 u_sa b_rf b_ro b_im b_ke u_fd b_tp u_td u_fr u_to u_so u_wo u_fa u_bd u_nc b_nl u_co b_op b_ar u_le b_pi b_pa u_pd u_od b_ws b_hw z14 b_se b_re z15 z16 z17 z18 z19 z20 z21 z22 b_pt z23 z24 b_ip z25 b_ah b_be b_me z26 b_tr b_ld u_st b_wn u_id)), (b_ro, (arI G 5740 v_ro)), (b_se, (arJ G 13 z27)), (b_re, (arJ G 400 z28)), (b_pt, (arI G 200 z29)), (b_ah, (arJ G 49152 z30)), (b_be, (arJ G 49152 z31)), (b_me, (arI G 1536 z32))], rfl, ⟨k25_2, 0, z14, z15, z16, z17, z18, z19, z20, z21, z22, z23, z24, z25, z26, z27, z28, z29, z30, z31, z32, i_3, i_4, i_5, i_6, i_7, i_8, i_9, i_10, i_11, i_12, i_13, rfl, rfl⟩, by rw [ht]; exact hP.sub [0, 1, 2, 3, 4, 5, 6, 7] rfl, hD.sub [0, 1, 2, 3, 4, 5, 6, 7] (by decide +kernel) rfl⟩, hS.F ht⟩) hS.2.2 dX12_surely_87
      ·
        have i_35 : k25_4.toInt < 64 := g5_geN (a := k25_4.toInt) (b := 64) rfl (by decide +kernel) c_35
        refine lv_aload_n hx hb dX12_surely_32 rfl (lv_at hl 3 rfl) ?_
        refine lv_iload_n hx hb dX12_surely_33 rfl (lv_at hl 4 rfl) ?_
        refine lv_iload hx hb dX12_surely_34 (lv_at hl 2 rfl) ?_
        obtain ⟨hPc, hDc, hFc⟩ := g5_sub3 (wc := [(b_o, (oc12 0 u_sa b_rf b_ro b_im b_ke u_fd b_tp u_td u_fr u_to u_so u_wo u_fa u_bd u_nc b_nl u_co b_op b_ar u_le b_pi b_pa u_pd u_od b_ws b_hw z14 b_se b_re z15 z16 z17 z18 z19 z20 z21 z22 b_pt z23 z24 b_ip z25 b_ah b_be b_me z26 b_tr b_ld u_st b_wn u_id)), (b_ah, (arJ G 49152 z30)), (b_be, (arJ G 49152 z31))]) hP hD hS hA [0, 5, 6] (by decide +kernel) rfl
        refine va_calll (va_runV (As := [.int p_1, .int k25_4]) (rest := []) ⟨hx, hb, hml, hown, hts⟩ (n_rowsAt l G b_o b_ah b_be b_rf b_ro b_im b_ke b_tp b_nl b_op b_ar b_pi b_pa b_ws b_hw b_se b_re b_pt b_ip b_me b_tr b_ld b_wn H.size 0 u_sa u_fd u_td u_fr u_to u_so u_fa u_bd u_nc u_co u_le u_pd u_od z14 z15 z18 z19 z20 z21 z22 z23 z24 z25 z26 u_id p_1 k25_4 u_wo z16 z17 u_st z30 z31 h_u_td h_u_fr h_u_to h_u_bd h_u_nc h_u_co h_u_pd i_3 i_4 i_5 i_6 i_7 i_8 i_9 i_11 h_u_id i_1 ⟨by omega, by omega⟩) (cwV 2 hts gV_X12_440 rfl rfl rfl hv_X12_rowsAt ⟨Nat.le_of_ble_eq_true rfl, Nat.le_of_ble_eq_true rfl⟩) (g5_preV hPc hK hDc hN hT hS hFc (ci := 12) (q0 := 0) rfl rfl) rfl rfl hl.1 rfl (lv_room (Nat.le_of_ble_eq_true rfl)) dX12_surely_36 ⟨Nat.le_of_ble_eq_true rfl, Nat.le_of_ble_eq_true rfl⟩) hS (fun q _ h => hFc q h) hFc (fun r u t H locs ht hvm hw hB hz1 hk1 hS => ?_)
        obtain ⟨hP1, hD1⟩ := hB
        have hP1 := g5_ht ht hP1
        obtain ⟨z37, y38, rfl⟩ := hw
        have hJ9 := va_join (wr := [(b_ro, (arI G 5740 v_ro)), (b_se, (arJ G 13 z27)), (b_re, (arJ G 400 z28)), (b_pt, (arI G 200 z29)), (b_me, (arI G 1536 z32))]) hP hD [0, 5, 6] [1, 2, 3, 4, 7] rfl rfl (by decide +kernel) (by decide +kernel) hk1 hFc hP1 hD1
        clear hP hD hPc hDc hFc ht hvm hz1 hk1 hP1 hD1
        obtain ⟨hP, hD⟩ := hJ9
        refine g5_rs [(b_ro, (arI G 5740 v_ro)), (b_se, (arJ G 13 z27)), (b_re, (arJ G 400 z28)), (b_pt, (arI G 200 z29)), (b_me, (arI G 1536 z32)), (b_o, (oc12 0 u_sa b_rf b_ro b_im b_ke u_fd b_tp u_td u_fr u_to u_so u_wo u_fa u_bd u_nc b_nl u_co b_op b_ar u_le b_pi b_pa u_pd u_od b_ws b_hw z14 b_se b_re z15 z16 z17 z18 z19 z20 z21 z22 b_pt z23 z24 b_ip z25 b_ah b_be b_me z26 b_tr b_ld u_st b_wn u_id)), (b_ah, (arJ G 49152 z30)), (b_be, (arJ G 49152 z31))] hP hD ?_
        clear hP hD
        intro hP hD
        refine g5_tl (v := z37) y38 ?_
        refine W.eq (g2 := F0 m 39 ls [.long z37]) rfl ?_
        refine lv_lconst (v := 0) hx hb dX12_surely_39 (by decide +kernel) ?_
        refine W.lcmp hx hb dX12_surely_40 ?_
        refine lv_if_le (tgt := 49) hx hb dX12_surely_41 (by decide +kernel) (fun c_39 => ?_) (fun c_39 => ?_)
        ·
          have i_39 : (lg_cmp z37 0).toInt ≤ 0 := g5_le (a := (lg_cmp z37 0).toInt) (b := 0) rfl (by decide +kernel) c_39
          refine lv_iload_n hx hb dX12_surely_49 rfl (lv_at hl 0 rfl) ?_
          refine lv_istore_n (lv' := [(2, .int k25_2), (3, .int k25_3), (4, .int k25_4), (0, .ref b_o), (1, .int p_1)]) hx hb dX12_surely_50 rfl hl (by decide +kernel) rfl ?_
          clear hl
          intro ls hl
          refine lv_iload_n hx hb dX12_surely_51 rfl (lv_at hl 1 rfl) ?_
          refine lv_aload_n hx hb dX12_surely_52 rfl (lv_at hl 3 rfl) ?_
          refine W.eq (g2 := F0 m 53 ls [.ref b_o, .int k25_3]) rfl ?_
          refine lv_iload_n hx hb dX12_surely_53 rfl (lv_at hl 4 rfl) ?_
          refine lv_iload hx hb dX12_surely_54 (lv_at hl 2 rfl) ?_
          obtain ⟨hPc, hDc, hFc⟩ := g5_sub3 (wc := [(b_o, (oc12 0 u_sa b_rf b_ro b_im b_ke u_fd b_tp u_td u_fr u_to u_so u_wo u_fa u_bd u_nc b_nl u_co b_op b_ar u_le b_pi b_pa u_pd u_od b_ws b_hw z14 b_se b_re z15 z16 z17 z18 z19 z20 z21 z22 b_pt z23 z24 b_ip z25 b_ah b_be b_me z26 b_tr b_ld u_st b_wn u_id)), (b_ah, (arJ G 49152 z30)), (b_be, (arJ G 49152 z31))]) hP hD hS hA [5, 6, 7] (by decide +kernel) rfl
          refine va_calll (va_runV (As := [.int p_1, .int k25_4]) (rest := [.int k25_3]) ⟨hx, hb, hml, hown, hts⟩ (n_rowsAt l G b_o b_ah b_be b_rf b_ro b_im b_ke b_tp b_nl b_op b_ar b_pi b_pa b_ws b_hw b_se b_re b_pt b_ip b_me b_tr b_ld b_wn H.size 0 u_sa u_fd u_td u_fr u_to u_so u_fa u_bd u_nc u_co u_le u_pd u_od z14 z15 z18 z19 z20 z21 z22 z23 z24 z25 z26 u_id p_1 k25_4 u_wo z16 z17 u_st z30 z31 h_u_td h_u_fr h_u_to h_u_bd h_u_nc h_u_co h_u_pd i_3 i_4 i_5 i_6 i_7 i_8 i_9 i_11 h_u_id i_1 ⟨by omega, by omega⟩) (cwV 2 hts gV_X12_440 rfl rfl rfl hv_X12_rowsAt ⟨Nat.le_of_ble_eq_true rfl, Nat.le_of_ble_eq_true rfl⟩) (g5_preV hPc hK hDc hN hT hS hFc (ci := 12) (q0 := 0) rfl rfl) rfl rfl hl.1 rfl (lv_room (Nat.le_of_ble_eq_true rfl)) dX12_surely_56 ⟨Nat.le_of_ble_eq_true rfl, Nat.le_of_ble_eq_true rfl⟩) hS (fun q _ h => hFc q h) hFc (fun r u t H locs ht hvm hw hB hz1 hk1 hS => ?_)
          obtain ⟨hP1, hD1⟩ := hB
          have hP1 := g5_ht ht hP1
          obtain ⟨z40, y41, rfl⟩ := hw
          have hJ9 := va_join (wr := [(b_ro, (arI G 5740 v_ro)), (b_se, (arJ G 13 z27)), (b_re, (arJ G 400 z28)), (b_pt, (arI G 200 z29)), (b_me, (arI G 1536 z32))]) hP hD [5, 6, 7] [0, 1, 2, 3, 4] rfl rfl (by decide +kernel) (by decide +kernel) hk1 hFc hP1 hD1
          clear hP hD hPc hDc hFc ht hvm hz1 hk1 hP1 hD1
          obtain ⟨hP, hD⟩ := hJ9
          refine g5_rs [(b_ro, (arI G 5740 v_ro)), (b_se, (arJ G 13 z27)), (b_re, (arJ G 400 z28)), (b_pt, (arI G 200 z29)), (b_me, (arI G 1536 z32)), (b_o, (oc12 0 u_sa b_rf b_ro b_im b_ke u_fd b_tp u_td u_fr u_to u_so u_wo u_fa u_bd u_nc b_nl u_co b_op b_ar u_le b_pi b_pa u_pd u_od b_ws b_hw z14 b_se b_re z15 z16 z17 z18 z19 z20 z21 z22 b_pt z23 z24 b_ip z25 b_ah b_be b_me z26 b_tr b_ld u_st b_wn u_id)), (b_ah, (arJ G 49152 z30)), (b_be, (arJ G 49152 z31))] hP hD ?_
          clear hP hD
          intro hP hD
          refine g5_tl (v := z40) y41 ?_
          refine lv_lconst (v := 0) hx hb dX12_surely_59 (by decide +kernel) ?_
          refine W.lcmp hx hb dX12_surely_60 ?_
          refine W.eq (g2 := F0 m 61 ls [.int (lg_cmp z40 0), .int k25_3]) rfl ?_
          refine lv_if_le (tgt := 68) hx hb dX12_surely_61 (by decide +kernel) (fun c_42 => ?_) (fun c_42 => ?_)
          ·
            have i_42 : (lg_cmp z40 0).toInt ≤ 0 := g5_le (a := (lg_cmp z40 0).toInt) (b := 0) rfl (by decide +kernel) c_42
            refine lv_iconst (v := 0) hx hb dX12_surely_68 (by decide +kernel) ?_
            refine lv_iadd hx hb dX12_surely_69 ?_
            refine g5_ti (v := k25_3) (by simp) ?_
            refine lv_istore_n (lv' := [(3, .int k25_3), (2, .int k25_2), (4, .int k25_4), (0, .ref b_o), (1, .int p_1)]) hx hb dX12_surely_70 rfl hl (by decide +kernel) rfl ?_
            clear hl
            intro ls hl
            refine lv_iinc (v := (k25_4 + 1)) (lv' := [(4, .int (k25_4 + 1)), (3, .int k25_3), (2, .int k25_2), (0, .ref b_o), (1, .int p_1)]) hx hb dX12_surely_71 hl (k := 2) rfl rfl (by decide +kernel) rfl ?_
            clear hl
            intro ls hl
            have t_43 : (k25_4 + 1).toInt = k25_4.toInt + 1 := g5_iadd (a := k25_4.toInt) (b := 1) rfl (by decide +kernel) (by omega) (by omega)
            refine W.eq (g2 := F0 m 74 ls []) rfl ?_
            refine lv_goto (tgt := 25) hx hb dX12_surely_74 (by decide +kernel) ?_
            exact ih_25_34 ((k25_4 + 1), k25_3, k25_2) ls H locs (show Int.toNat (64 - (k25_4 + 1).toInt) < Int.toNat (64 - k25_4.toInt) from g_up (show k25_4.toInt < (k25_4 + 1).toInt by omega) (show k25_4.toInt < 64 by omega)) ⟨lv_sub hl [2, 1, 0, 3, 4] rfl, hP.sub [5, 0, 1, 2, 3, 6, 7, 4] rfl, hD.sub [5, 0, 1, 2, 3, 6, 7, 4] (by decide +kernel) rfl, hS, ⟨by omega, by omega⟩⟩
          ·
            have i_42 : (lg_cmp z40 0).toInt > 0 := g5_leN (a := (lg_cmp z40 0).toInt) (b := 0) rfl (by decide +kernel) c_42
            refine lv_iconst (v := 1) hx hb dX12_surely_64 (by decide +kernel) ?_
            refine lv_goto (tgt := 69) hx hb dX12_surely_65 (by decide +kernel) ?_
            refine lv_iadd hx hb dX12_surely_69 ?_
            refine lv_istore_n (lv' := [(3, .int (k25_3 + 1)), (2, .int k25_2), (4, .int k25_4), (0, .ref b_o), (1, .int p_1)]) hx hb dX12_surely_70 rfl hl (by decide +kernel) rfl ?_
            clear hl
            intro ls hl
            refine W.eq (g2 := F0 m 71 ls []) rfl ?_
            refine lv_iinc (v := (k25_4 + 1)) (lv' := [(4, .int (k25_4 + 1)), (3, .int (k25_3 + 1)), (2, .int k25_2), (0, .ref b_o), (1, .int p_1)]) hx hb dX12_surely_71 hl (k := 2) rfl rfl (by decide +kernel) rfl ?_
            clear hl
            intro ls hl
            have t_44 : (k25_4 + 1).toInt = k25_4.toInt + 1 := g5_iadd (a := k25_4.toInt) (b := 1) rfl (by decide +kernel) (by omega) (by omega)
            refine lv_goto (tgt := 25) hx hb dX12_surely_74 (by decide +kernel) ?_
            exact ih_25_34 ((k25_4 + 1), (k25_3 + 1), k25_2) ls H locs (show Int.toNat (64 - (k25_4 + 1).toInt) < Int.toNat (64 - k25_4.toInt) from g_up (show k25_4.toInt < (k25_4 + 1).toInt by omega) (show k25_4.toInt < 64 by omega)) ⟨lv_sub hl [2, 1, 0, 3, 4] rfl, hP.sub [5, 0, 1, 2, 3, 6, 7, 4] rfl, hD.sub [5, 0, 1, 2, 3, 6, 7, 4] (by decide +kernel) rfl, hS, ⟨by omega, by omega⟩⟩
        ·
          have i_39 : (lg_cmp z37 0).toInt > 0 := g5_leN (a := (lg_cmp z37 0).toInt) (b := 0) rfl (by decide +kernel) c_39
          refine lv_iload hx hb dX12_surely_44 (lv_at hl 2 rfl) ?_
          refine lv_goto (tgt := 50) hx hb dX12_surely_46 (by decide +kernel) ?_
          refine lv_istore_n (lv' := [(2, .int k25_4), (3, .int k25_3), (4, .int k25_4), (0, .ref b_o), (1, .int p_1)]) hx hb dX12_surely_50 rfl hl (by decide +kernel) rfl ?_
          clear hl
          intro ls hl
          refine lv_iload_n hx hb dX12_surely_51 rfl (lv_at hl 1 rfl) ?_
          refine W.eq (g2 := F0 m 52 ls [.int k25_3]) rfl ?_
          refine lv_aload_n hx hb dX12_surely_52 rfl (lv_at hl 3 rfl) ?_
          refine lv_iload_n hx hb dX12_surely_53 rfl (lv_at hl 4 rfl) ?_
          refine lv_iload hx hb dX12_surely_54 (lv_at hl 2 rfl) ?_
          obtain ⟨hPc, hDc, hFc⟩ := g5_sub3 (wc := [(b_o, (oc12 0 u_sa b_rf b_ro b_im b_ke u_fd b_tp u_td u_fr u_to u_so u_wo u_fa u_bd u_nc b_nl u_co b_op b_ar u_le b_pi b_pa u_pd u_od b_ws b_hw z14 b_se b_re z15 z16 z17 z18 z19 z20 z21 z22 b_pt z23 z24 b_ip z25 b_ah b_be b_me z26 b_tr b_ld u_st b_wn u_id)), (b_ah, (arJ G 49152 z30)), (b_be, (arJ G 49152 z31))]) hP hD hS hA [5, 6, 7] (by decide +kernel) rfl
          refine va_calll (va_runV (As := [.int p_1, .int k25_4]) (rest := [.int k25_3]) ⟨hx, hb, hml, hown, hts⟩ (n_rowsAt l G b_o b_ah b_be b_rf b_ro b_im b_ke b_tp b_nl b_op b_ar b_pi b_pa b_ws b_hw b_se b_re b_pt b_ip b_me b_tr b_ld b_wn H.size 0 u_sa u_fd u_td u_fr u_to u_so u_fa u_bd u_nc u_co u_le u_pd u_od z14 z15 z18 z19 z20 z21 z22 z23 z24 z25 z26 u_id p_1 k25_4 u_wo z16 z17 u_st z30 z31 h_u_td h_u_fr h_u_to h_u_bd h_u_nc h_u_co h_u_pd i_3 i_4 i_5 i_6 i_7 i_8 i_9 i_11 h_u_id i_1 ⟨by omega, by omega⟩) (cwV 2 hts gV_X12_440 rfl rfl rfl hv_X12_rowsAt ⟨Nat.le_of_ble_eq_true rfl, Nat.le_of_ble_eq_true rfl⟩) (g5_preV hPc hK hDc hN hT hS hFc (ci := 12) (q0 := 0) rfl rfl) rfl rfl hl.1 rfl (lv_room (Nat.le_of_ble_eq_true rfl)) dX12_surely_56 ⟨Nat.le_of_ble_eq_true rfl, Nat.le_of_ble_eq_true rfl⟩) hS (fun q _ h => hFc q h) hFc (fun r u t H locs ht hvm hw hB hz1 hk1 hS => ?_)
          obtain ⟨hP1, hD1⟩ := hB
          have hP1 := g5_ht ht hP1
          obtain ⟨z45, y46, rfl⟩ := hw
          have hJ9 := va_join (wr := [(b_ro, (arI G 5740 v_ro)), (b_se, (arJ G 13 z27)), (b_re, (arJ G 400 z28)), (b_pt, (arI G 200 z29)), (b_me, (arI G 1536 z32))]) hP hD [5, 6, 7] [0, 1, 2, 3, 4] rfl rfl (by decide +kernel) (by decide +kernel) hk1 hFc hP1 hD1
          clear hP hD hPc hDc hFc ht hvm hz1 hk1 hP1 hD1
          obtain ⟨hP, hD⟩ := hJ9
          refine g5_rs [(b_ro, (arI G 5740 v_ro)), (b_se, (arJ G 13 z27)), (b_re, (arJ G 400 z28)), (b_pt, (arI G 200 z29)), (b_me, (arI G 1536 z32)), (b_o, (oc12 0 u_sa b_rf b_ro b_im b_ke u_fd b_tp u_td u_fr u_to u_so u_wo u_fa u_bd u_nc b_nl u_co b_op b_ar u_le b_pi b_pa u_pd u_od b_ws b_hw z14 b_se b_re z15 z16 z17 z18 z19 z20 z21 z22 b_pt z23 z24 b_ip z25 b_ah b_be b_me z26 b_tr b_ld u_st b_wn u_id)), (b_ah, (arJ G 49152 z30)), (b_be, (arJ G 49152 z31))] hP hD ?_
          clear hP hD
          intro hP hD
          refine g5_tl (v := z45) y46 ?_
          refine lv_lconst (v := 0) hx hb dX12_surely_59 (by decide +kernel) ?_
          refine W.eq (g2 := F0 m 60 ls [.long 0, .long z45, .int k25_3]) rfl ?_
          refine W.lcmp hx hb dX12_surely_60 ?_
          refine lv_if_le (tgt := 68) hx hb dX12_surely_61 (by decide +kernel) (fun c_47 => ?_) (fun c_47 => ?_)
          ·
            have i_47 : (lg_cmp z45 0).toInt ≤ 0 := g5_le (a := (lg_cmp z45 0).toInt) (b := 0) rfl (by decide +kernel) c_47
            refine lv_iconst (v := 0) hx hb dX12_surely_68 (by decide +kernel) ?_
            refine lv_iadd hx hb dX12_surely_69 ?_
            refine g5_ti (v := k25_3) (by simp) ?_
            refine lv_istore_n (lv' := [(3, .int k25_3), (2, .int k25_4), (4, .int k25_4), (0, .ref b_o), (1, .int p_1)]) hx hb dX12_surely_70 rfl hl (by decide +kernel) rfl ?_
            clear hl
            intro ls hl
            refine lv_iinc (v := (k25_4 + 1)) (lv' := [(4, .int (k25_4 + 1)), (3, .int k25_3), (2, .int k25_4), (0, .ref b_o), (1, .int p_1)]) hx hb dX12_surely_71 hl (k := 2) rfl rfl (by decide +kernel) rfl ?_
            clear hl
            intro ls hl
            have t_48 : (k25_4 + 1).toInt = k25_4.toInt + 1 := g5_iadd (a := k25_4.toInt) (b := 1) rfl (by decide +kernel) (by omega) (by omega)
            refine W.eq (g2 := F0 m 74 ls []) rfl ?_
            refine lv_goto (tgt := 25) hx hb dX12_surely_74 (by decide +kernel) ?_
            exact ih_25_34 ((k25_4 + 1), k25_3, k25_4) ls H locs (show Int.toNat (64 - (k25_4 + 1).toInt) < Int.toNat (64 - k25_4.toInt) from g_up (show k25_4.toInt < (k25_4 + 1).toInt by omega) (show k25_4.toInt < 64 by omega)) ⟨lv_sub hl [2, 1, 0, 3, 4] rfl, hP.sub [5, 0, 1, 2, 3, 6, 7, 4] rfl, hD.sub [5, 0, 1, 2, 3, 6, 7, 4] (by decide +kernel) rfl, hS, ⟨by omega, by omega⟩⟩
          ·
            have i_47 : (lg_cmp z45 0).toInt > 0 := g5_leN (a := (lg_cmp z45 0).toInt) (b := 0) rfl (by decide +kernel) c_47
            refine lv_iconst (v := 1) hx hb dX12_surely_64 (by decide +kernel) ?_
            refine lv_goto (tgt := 69) hx hb dX12_surely_65 (by decide +kernel) ?_
            refine lv_iadd hx hb dX12_surely_69 ?_
            refine lv_istore_n (lv' := [(3, .int (k25_3 + 1)), (2, .int k25_4), (4, .int k25_4), (0, .ref b_o), (1, .int p_1)]) hx hb dX12_surely_70 rfl hl (by decide +kernel) rfl ?_
            clear hl
            intro ls hl
            refine W.eq (g2 := F0 m 71 ls []) rfl ?_
            refine lv_iinc (v := (k25_4 + 1)) (lv' := [(4, .int (k25_4 + 1)), (3, .int (k25_3 + 1)), (2, .int k25_4), (0, .ref b_o), (1, .int p_1)]) hx hb dX12_surely_71 hl (k := 2) rfl rfl (by decide +kernel) rfl ?_
            clear hl
            intro ls hl
            have t_49 : (k25_4 + 1).toInt = k25_4.toInt + 1 := g5_iadd (a := k25_4.toInt) (b := 1) rfl (by decide +kernel) (by omega) (by omega)
            refine lv_goto (tgt := 25) hx hb dX12_surely_74 (by decide +kernel) ?_
            exact ih_25_34 ((k25_4 + 1), (k25_3 + 1), k25_4) ls H locs (show Int.toNat (64 - (k25_4 + 1).toInt) < Int.toNat (64 - k25_4.toInt) from g_up (show k25_4.toInt < (k25_4 + 1).toInt by omega) (show k25_4.toInt < 64 by omega)) ⟨lv_sub hl [2, 1, 0, 3, 4] rfl, hP.sub [5, 0, 1, 2, 3, 6, 7, 4] rfl, hD.sub [5, 0, 1, 2, 3, 6, 7, 4] (by decide +kernel) rfl, hS, ⟨by omega, by omega⟩⟩
    ·
      exact absurd c_2 (by decide +kernel)
  ·
    have hJ9 := g5_same hP hk1
    clear hP hPc hDc hFc ht hvm hz1 hk1 hP1 hD1
    have hP := hJ9
    clear hJ9
    refine lv_if_ne (tgt := 14) hx hb dX12_surely_9 (by decide +kernel) (fun c_50 => ?_) (fun c_50 => ?_)
    ·
      exact absurd c_50 (by decide +kernel)
    ·
      refine lv_iconst (v := (-1)) hx hb dX12_surely_12 (by decide +kernel) ?_
      exact W.iret (v := (-1)) hx hb hr (fun t ht hW => ⟨⟨(-1), [(b_o, (oc12 0 u_sa b_rf b_ro b_im b_ke u_fd b_tp u_td u_fr u_to u_so u_wo u_fa u_bd u_nc b_nl u_co b_op b_ar u_le b_pi b_pa u_pd u_od b_ws b_hw u_la b_se b_re u_bk u_va u_su u_ce u_ho u_wy u_bt u_ps b_pt u_tg u_sn b_ip u_ic b_ah b_be b_me u_wd b_tr b_ld u_st b_wn u_id)), (b_ro, (arI G 5740 v_ro)), (b_se, (arJ G 13 v_se)), (b_re, (arJ G 400 v_re)), (b_pt, (arI G 200 v_pt)), (b_ah, (arJ G 49152 v_ah)), (b_be, (arJ G 49152 v_be)), (b_me, (arI G 1536 v_me))], rfl, ⟨(-1), 0, u_la, u_bk, u_va, u_su, u_ce, u_ho, u_wy, u_bt, u_ps, u_tg, u_sn, u_ic, u_wd, v_se, v_re, v_pt, v_ah, v_be, v_me, h_u_la, h_u_bk, h_u_ce, h_u_ho, h_u_wy, h_u_bt, h_u_ps, r_pt, h_u_ic, r_me, e_ah, rfl, rfl⟩, by rw [ht]; exact hP.sub [0, 1, 2, 3, 4, 5, 6, 7] rfl, hD.sub [0, 1, 2, 3, 4, 5, 6, 7] (by decide +kernel) rfl⟩, hS.F ht⟩) hS.2.2 dX12_surely_13
set_option maxHeartbeats 4000000 in
set_option maxRecDepth 100000 in
theorem n_couldP (l : Launch) (G : g5_G) (b_o b_ro b_se b_re b_pt b_ah b_be b_me b_rf b_im b_ke b_tp b_nl b_op b_ar b_pi b_pa b_ws b_hw b_ip b_tr b_ld b_wn : Nat) (sz : Nat) (u_th : Int32) (u_sa : Int32) (u_fd : Int32) (u_td : Int32) (u_fr : Int32) (u_to : Int32) (u_so : Int32) (u_fa : Int32) (u_bd : Int32) (u_nc : Int32) (u_co : Int32) (u_le : Int32) (u_pd : Int32) (u_od : Int32) (u_la : Int32) (u_bk : Int32) (u_ce : Int32) (u_ho : Int32) (u_wy : Int32) (u_bt : Int32) (u_ps : Int32) (u_tg : Int32) (u_sn : Int32) (u_ic : Int32) (u_wd : Int32) (u_id : Int32) (p_1 : Int32) (p_2 : Int32) (u_wo : Int64) (u_va : Int64) (u_su : Int64) (u_st : Int64) (v_ro : Nat → Int32) (v_se : Nat → Int64) (v_re : Nat → Int64) (v_pt : Nat → Int32) (v_ah : Nat → Int64) (v_be : Nat → Int64) (v_me : Nat → Int32) (h_u_td : 0 ≤ u_td.toInt ∧ u_td.toInt ≤ 400) (h_u_fr : 0 ≤ u_fr.toInt ∧ u_fr.toInt ≤ 400) (h_u_to : 0 ≤ u_to.toInt ∧ u_to.toInt ≤ 400) (h_u_bd : 0 ≤ u_bd.toInt ∧ u_bd.toInt ≤ 1) (h_u_nc : 0 ≤ u_nc.toInt ∧ u_nc.toInt ≤ 12) (h_u_co : 0 ≤ u_co.toInt ∧ u_co.toInt ≤ 400) (h_u_pd : 0 ≤ u_pd.toInt ∧ u_pd.toInt ≤ 400) (h_u_la : 0 ≤ u_la.toInt ∧ u_la.toInt ≤ 4840) (h_u_bk : 0 ≤ u_bk.toInt ∧ u_bk.toInt ≤ 1) (h_u_ce : 0 ≤ u_ce.toInt ∧ u_ce.toInt ≤ 63) (h_u_ho : 0 ≤ u_ho.toInt ∧ u_ho.toInt ≤ 23) (h_u_wy : 0 ≤ u_wy.toInt ∧ u_wy.toInt ≤ 3) (h_u_bt : 0 ≤ u_bt.toInt ∧ u_bt.toInt ≤ 1000000) (h_u_ps : 0 ≤ u_ps.toInt ∧ u_ps.toInt ≤ 200) (h_u_ic : 0 ≤ u_ic.toInt ∧ u_ic.toInt ≤ 1) (h_u_id : 0 ≤ u_id.toInt ∧ u_id.toInt ≤ 1) (r_ro : MI v_ro) (r_pt : PTI v_pt) (r_me : MEI v_me) (e_ah : AH0 v_ah v_me) : Met l yX12_could (wsG yX12_could cX12_could 6 (some .long)) ({ frames := 10, cells := 0, slots := 0, locals := 251 }) (va_Pc [.ref b_o, .int p_1, .int p_2] (g5_P G [(b_o, (oc12 u_th u_sa b_rf b_ro b_im b_ke u_fd b_tp u_td u_fr u_to u_so u_wo u_fa u_bd u_nc b_nl u_co b_op b_ar u_le b_pi b_pa u_pd u_od b_ws b_hw u_la b_se b_re u_bk u_va u_su u_ce u_ho u_wy u_bt u_ps b_pt u_tg u_sn b_ip u_ic b_ah b_be b_me u_wd b_tr b_ld u_st b_wn u_id)), (b_ro, (arI G 5740 v_ro)), (b_se, (arJ G 13 v_se)), (b_re, (arJ G 400 v_re)), (b_pt, (arI G 200 v_pt)), (b_ah, (arJ G 49152 v_ah)), (b_be, (arJ G 49152 v_be)), (b_me, (arI G 1536 v_me))] sz)) (va_Ql (fun (r : Int64) (u : va_W) => (∃ (o_r : Int64) (o_th : Int32) (o_la : Int32) (o_bk : Int32) (o_va : Int64) (o_su : Int64) (o_ce : Int32) (o_ho : Int32) (o_wy : Int32) (o_bt : Int32) (o_ps : Int32) (o_tg : Int32) (o_sn : Int32) (o_ic : Int32) (o_wd : Int32) (o_se : Nat → Int64) (o_re : Nat → Int64) (o_pt : Nat → Int32) (o_ah : Nat → Int64) (o_be : Nat → Int64) (o_me : Nat → Int32), (0 ≤ o_la.toInt ∧ o_la.toInt ≤ 4840) ∧ (0 ≤ o_bk.toInt ∧ o_bk.toInt ≤ 1) ∧ (0 ≤ o_ce.toInt ∧ o_ce.toInt ≤ 63) ∧ (0 ≤ o_ho.toInt ∧ o_ho.toInt ≤ 23) ∧ (0 ≤ o_wy.toInt ∧ o_wy.toInt ≤ 3) ∧ (0 ≤ o_bt.toInt ∧ o_bt.toInt ≤ 1000000) ∧ (0 ≤ o_ps.toInt ∧ o_ps.toInt ≤ 200) ∧ (PTI o_pt) ∧ (0 ≤ o_ic.toInt ∧ o_ic.toInt ≤ 1) ∧ (MEI o_me) ∧ (AH0 o_ah o_me) ∧ (r = o_r) ∧ (u = [(b_o, (oc12 o_th u_sa b_rf b_ro b_im b_ke u_fd b_tp u_td u_fr u_to u_so u_wo u_fa u_bd u_nc b_nl u_co b_op b_ar u_le b_pi b_pa u_pd u_od b_ws b_hw o_la b_se b_re o_bk o_va o_su o_ce o_ho o_wy o_bt o_ps b_pt o_tg o_sn b_ip o_ic b_ah b_be b_me o_wd b_tr b_ld u_st b_wn u_id)), (b_ro, (arI G 5740 v_ro)), (b_se, (arJ G 13 o_se)), (b_re, (arJ G 400 o_re)), (b_pt, (arI G 200 o_pt)), (b_ah, (arJ G 49152 o_ah)), (b_be, (arJ G 49152 o_be)), (b_me, (arI G 1536 o_me))]))) (g5_B G (va_A [(b_o, (oc12 u_th u_sa b_rf b_ro b_im b_ke u_fd b_tp u_td u_fr u_to u_so u_wo u_fa u_bd u_nc b_nl u_co b_op b_ar u_le b_pi b_pa u_pd u_od b_ws b_hw u_la b_se b_re u_bk u_va u_su u_ce u_ho u_wy u_bt u_ps b_pt u_tg u_sn b_ip u_ic b_ah b_be b_me u_wd b_tr b_ld u_st b_wn u_id)), (b_ro, (arI G 5740 v_ro)), (b_se, (arJ G 13 v_se)), (b_re, (arJ G 400 v_re)), (b_pt, (arI G 200 v_pt)), (b_ah, (arJ G 49152 v_ah)), (b_be, (arJ G 49152 v_be)), (b_me, (arI G 1536 v_me))] sz)) (va_A [(b_o, (oc12 u_th u_sa b_rf b_ro b_im b_ke u_fd b_tp u_td u_fr u_to u_so u_wo u_fa u_bd u_nc b_nl u_co b_op b_ar u_le b_pi b_pa u_pd u_od b_ws b_hw u_la b_se b_re u_bk u_va u_su u_ce u_ho u_wy u_bt u_ps b_pt u_tg u_sn b_ip u_ic b_ah b_be b_me u_wd b_tr b_ld u_st b_wn u_id)), (b_ro, (arI G 5740 v_ro)), (b_se, (arJ G 13 v_se)), (b_re, (arJ G 400 v_re)), (b_pt, (arI G 200 v_pt)), (b_ah, (arJ G 49152 v_ah)), (b_be, (arJ G 49152 v_be)), (b_me, (arI G 1536 v_me))] sz)) 0 0 (va_A [(b_o, (oc12 u_th u_sa b_rf b_ro b_im b_ke u_fd b_tp u_td u_fr u_to u_so u_wo u_fa u_bd u_nc b_nl u_co b_op b_ar u_le b_pi b_pa u_pd u_od b_ws b_hw u_la b_se b_re u_bk u_va u_su u_ce u_ho u_wy u_bt u_ps b_pt u_tg u_sn b_ip u_ic b_ah b_be b_me u_wd b_tr b_ld u_st b_wn u_id)), (b_ro, (arI G 5740 v_ro)), (b_se, (arJ G 13 v_se)), (b_re, (arJ G 400 v_re)), (b_pt, (arI G 200 v_pt)), (b_ah, (arJ G 49152 v_ah)), (b_be, (arJ G 49152 v_be)), (b_me, (arI G 1536 v_me))] sz) := by
  refine Met.ofW (cc := cX12_could) (maxL := 6) (ret := (some .long)) (by decide +kernel) rfl ?_
  intro p e s m args below meth c s₁ B hml hv
  obtain ⟨rfl, hsz, hP, hK, hD0, hN, hT⟩ := hv
  have hx := B.exec
  have hb := B.bytes
  have hr := B.returns
  have hts : ∀ w ∈ tblG, w.before _ s = true := fun w h => atoms_spec (ws := (wsG yX12_could cX12_could 6 (some .long))) B.pre w (List.mem_cons_of_mem _ h)
  have hown : s.vm.findClass RX12 = some m.cls := findClass_of_methodNamed B.named
  have hlocks := B.notSynchronized
  subst hsz
  have hD := hD0.self (sz := s.heap.size)
  generalize hAe : va_A [(b_o, (oc12 u_th u_sa b_rf b_ro b_im b_ke u_fd b_tp u_td u_fr u_to u_so u_wo u_fa u_bd u_nc b_nl u_co b_op b_ar u_le b_pi b_pa u_pd u_od b_ws b_hw u_la b_se b_re u_bk u_va u_su u_ce u_ho u_wy u_bt u_ps b_pt u_tg u_sn b_ip u_ic b_ah b_be b_me u_wd b_tr b_ld u_st b_wn u_id)), (b_ro, (arI G 5740 v_ro)), (b_se, (arJ G 13 v_se)), (b_re, (arJ G 400 v_re)), (b_pt, (arI G 200 v_pt)), (b_ah, (arJ G 49152 v_ah)), (b_be, (arJ G 49152 v_be)), (b_me, (arI G 1536 v_me))] s.heap.size = A at hD hT ⊢
  have hA : ∀ q : Nat, s.heap.size ≤ q → A q := fun q h => by rw [← hAe]; exact Or.inr h
  have hS : va_S A s.heap s.heap [] := va_S.rf
  replace hP : va_P G.1 vwCl [(b_o, (oc12 u_th u_sa b_rf b_ro b_im b_ke u_fd b_tp u_td u_fr u_to u_so u_wo u_fa u_bd u_nc b_nl u_co b_op b_ar u_le b_pi b_pa u_pd u_od b_ws b_hw u_la b_se b_re u_bk u_va u_su u_ce u_ho u_wy u_bt u_ps b_pt u_tg u_sn b_ip u_ic b_ah b_be b_me u_wd b_tr b_ld u_st b_wn u_id)), (b_ro, (arI G 5740 v_ro)), (b_se, (arJ G 13 v_se)), (b_re, (arJ G 400 v_re)), (b_pt, (arI G 200 v_pt)), (b_ah, (arJ G 49152 v_ah)), (b_be, (arJ G 49152 v_be)), (b_me, (arI G 1536 v_me))] s.heap := hP
  have hl := lv_entry ([.ref b_o, .int p_1, .int p_2]) (n := 6) (Nat.le_of_ble_eq_true rfl)
  rw [lg_entry_eq]
  generalize (lg_sl ([.ref b_o, .int p_1, .int p_2]) ++ List.replicate (6 - (lg_sl ([.ref b_o, .int p_1, .int p_2])).length) Slot.unset).toArray = ls at hl ⊢
  replace hl : lv_has ls 6 [(0, .ref b_o), (1, .int p_1), (2, .int p_2)] := hl
  refine lv_aload_n hx hb dX12_could_0 rfl (lv_at hl 0 rfl) ?_
  refine lv_iconst (v := 0) hx hb dX12_could_1 (by decide +kernel) ?_
  refine va_put (D := G.1) (ci := 12) (v := .int 0) (ty := .int) (C := RX12) (T := TX12) (N := 52) hx hb hts inG_X12 tyX12 tyX12_ok nmX12 hown hK hP hD hS 0 rfl rfl 0 (by decide +kernel) (hts _ fl_X12_107) (fun _ h9 => h9) rfl (by decide +kernel) rfl rfl (Nat.le_of_ble_eq_true rfl) dX12_could_2 ?_
  clear hP hD hS
  intro H locs hP hD hS
  refine g5_rs [(b_o, (oc12 0 u_sa b_rf b_ro b_im b_ke u_fd b_tp u_td u_fr u_to u_so u_wo u_fa u_bd u_nc b_nl u_co b_op b_ar u_le b_pi b_pa u_pd u_od b_ws b_hw u_la b_se b_re u_bk u_va u_su u_ce u_ho u_wy u_bt u_ps b_pt u_tg u_sn b_ip u_ic b_ah b_be b_me u_wd b_tr b_ld u_st b_wn u_id)), (b_ro, (arI G 5740 v_ro)), (b_se, (arJ G 13 v_se)), (b_re, (arJ G 400 v_re)), (b_pt, (arI G 200 v_pt)), (b_ah, (arJ G 49152 v_ah)), (b_be, (arJ G 49152 v_be)), (b_me, (arI G 1536 v_me))] hP hD ?_
  clear hP hD
  intro hP hD
  refine lv_iload_n hx hb dX12_could_5 rfl (lv_at hl 1 rfl) ?_
  refine W.eq (g2 := F0 m 6 ls [.int p_1]) rfl ?_
  obtain ⟨hPc, hDc, hFc⟩ := g5_sub3 (wc := []) hP hD hS hA [] (by decide +kernel) rfl
  refine va_calli (va_runS (As := [.int p_1]) (rest := []) ⟨hx, hb, hml, hown, hts⟩ (n_isHour l G H.size p_1) (va_cwS 1 hts gS_X12_175 rfl rfl rfl hs_X12_isHour ⟨Nat.le_of_ble_eq_true rfl, Nat.le_of_ble_eq_true rfl⟩) (g5_preS hPc hK hDc hN hT hS hFc) rfl rfl hl.1 rfl (lv_room (Nat.le_of_ble_eq_true rfl)) dX12_could_6 ⟨Nat.le_of_ble_eq_true rfl, Nat.le_of_ble_eq_true rfl⟩) hS (fun q _ h => hFc q h) hFc (fun r u t H locs ht hvm hw hB hz1 hk1 hS => ?_)
  obtain ⟨hP1, hD1⟩ := hB
  have hP1 := g5_ht ht hP1
  rcases hw with ⟨(i_1 : 0 ≤ p_1.toInt ∧ p_1.toInt ≤ 23), rfl, rfl⟩ | ⟨rfl, rfl⟩
  ·
    have hJ9 := g5_same hP hk1
    clear hP hPc hDc hFc ht hvm hz1 hk1 hP1 hD1
    have hP := hJ9
    clear hJ9
    refine lv_if_eq (tgt := 26) hx hb dX12_could_9 (by decide +kernel) (fun c_2 => ?_) (fun c_2 => ?_)
    ·
      exact absurd c_2 (by decide +kernel)
    ·
      refine lv_iload_n hx hb dX12_could_12 rfl (lv_at hl 2 rfl) ?_
      refine lv_i2l (v := p_2.toInt64) hx hb dX12_could_13 rfl ?_
      refine lv_ldc2 (v := (-1)) hx hb hown (hts _ kl_X12_178) dX12_could_14 ?_
      refine lv_ldc2 (v := 63) hx hb hown (hts _ kl_X12_128) dX12_could_17 ?_
      refine W.eq (g2 := F0 m 20 ls [.long 63, .long (-1), .long p_2.toInt64]) rfl ?_
      obtain ⟨hPc, hDc, hFc⟩ := g5_sub3 (wc := []) hP hD hS hA [] (by decide +kernel) rfl
      refine va_calli (va_runS (As := [.long p_2.toInt64, .long (-1), .long 63]) (rest := []) ⟨hx, hb, hml, hown, hts⟩ (n_in_m1_63 l G H.size p_2) (va_cwS 3 hts gS_X12_121 rfl rfl rfl hs_X12_in ⟨Nat.le_of_ble_eq_true rfl, Nat.le_of_ble_eq_true rfl⟩) (g5_preS hPc hK hDc hN hT hS hFc) rfl rfl hl.1 rfl (lv_room (Nat.le_of_ble_eq_true rfl)) dX12_could_20 ⟨Nat.le_of_ble_eq_true rfl, Nat.le_of_ble_eq_true rfl⟩) hS (fun q _ h => hFc q h) hFc (fun r u t H locs ht hvm hw hB hz1 hk1 hS => ?_)
      obtain ⟨hP1, hD1⟩ := hB
      have hP1 := g5_ht ht hP1
      rcases hw with ⟨(i_3 : p_2.toInt < (-1) ∨ 63 < p_2.toInt), rfl, rfl⟩ | ⟨(i_4 : (-1) ≤ p_2.toInt ∧ p_2.toInt ≤ 63), rfl, rfl⟩
      ·
        have hJ9 := g5_same hP hk1
        clear hP hPc hDc hFc ht hvm hz1 hk1 hP1 hD1
        have hP := hJ9
        clear hJ9
        refine lv_if_ne (tgt := 30) hx hb dX12_could_23 (by decide +kernel) (fun c_5 => ?_) (fun c_5 => ?_)
        ·
          exact absurd c_5 (by decide +kernel)
        ·
          refine lv_ldc2 (v := (-1)) hx hb hown (hts _ kl_X12_178) dX12_could_26 ?_
          exact W.lret (v := (-1)) hx hb hr (fun t ht hW => ⟨⟨(-1), [(b_o, (oc12 0 u_sa b_rf b_ro b_im b_ke u_fd b_tp u_td u_fr u_to u_so u_wo u_fa u_bd u_nc b_nl u_co b_op b_ar u_le b_pi b_pa u_pd u_od b_ws b_hw u_la b_se b_re u_bk u_va u_su u_ce u_ho u_wy u_bt u_ps b_pt u_tg u_sn b_ip u_ic b_ah b_be b_me u_wd b_tr b_ld u_st b_wn u_id)), (b_ro, (arI G 5740 v_ro)), (b_se, (arJ G 13 v_se)), (b_re, (arJ G 400 v_re)), (b_pt, (arI G 200 v_pt)), (b_ah, (arJ G 49152 v_ah)), (b_be, (arJ G 49152 v_be)), (b_me, (arI G 1536 v_me))], rfl, ⟨(-1), 0, u_la, u_bk, u_va, u_su, u_ce, u_ho, u_wy, u_bt, u_ps, u_tg, u_sn, u_ic, u_wd, v_se, v_re, v_pt, v_ah, v_be, v_me, h_u_la, h_u_bk, h_u_ce, h_u_ho, h_u_wy, h_u_bt, h_u_ps, r_pt, h_u_ic, r_me, e_ah, rfl, rfl⟩, by rw [ht]; exact hP.sub [0, 1, 2, 3, 4, 5, 6, 7] rfl, hD.sub [0, 1, 2, 3, 4, 5, 6, 7] (by decide +kernel) rfl⟩, hS.F ht⟩) hS.2.2 dX12_could_29
      ·
        have hJ9 := g5_same hP hk1
        clear hP hPc hDc hFc ht hvm hz1 hk1 hP1 hD1
        have hP := hJ9
        clear hJ9
        refine lv_if_ne (tgt := 30) hx hb dX12_could_23 (by decide +kernel) (fun c_6 => ?_) (fun c_6 => ?_)
        ·
          refine lv_aload_n hx hb dX12_could_30 rfl (lv_at hl 0 rfl) ?_
          obtain ⟨hPc, hDc, hFc⟩ := g5_sub3 (wc := [(b_o, (oc12 0 u_sa b_rf b_ro b_im b_ke u_fd b_tp u_td u_fr u_to u_so u_wo u_fa u_bd u_nc b_nl u_co b_op b_ar u_le b_pi b_pa u_pd u_od b_ws b_hw u_la b_se b_re u_bk u_va u_su u_ce u_ho u_wy u_bt u_ps b_pt u_tg u_sn b_ip u_ic b_ah b_be b_me u_wd b_tr b_ld u_st b_wn u_id)), (b_ro, (arI G 5740 v_ro)), (b_se, (arJ G 13 v_se)), (b_re, (arJ G 400 v_re)), (b_pt, (arI G 200 v_pt)), (b_ah, (arJ G 49152 v_ah)), (b_be, (arJ G 49152 v_be)), (b_me, (arI G 1536 v_me))]) hP hD hS hA [0, 1, 2, 3, 4, 5, 6, 7] (by decide +kernel) rfl
          refine va_callv (va_runV (As := []) (rest := []) ⟨hx, hb, hml, hown, hts⟩ (n_countRowsP l G b_o b_ro b_se b_re b_pt b_ah b_be b_me b_rf b_im b_ke b_tp b_nl b_op b_ar b_pi b_pa b_ws b_hw b_ip b_tr b_ld b_wn H.size 0 u_sa u_fd u_td u_fr u_to u_so u_fa u_bd u_nc u_co u_le u_pd u_od u_la u_bk u_ce u_ho u_wy u_bt u_ps u_tg u_sn u_ic u_wd u_id u_wo u_va u_su u_st v_ro v_se v_re v_pt v_ah v_be v_me h_u_td h_u_fr h_u_to h_u_bd h_u_nc h_u_co h_u_pd h_u_la h_u_bk h_u_ce h_u_ho h_u_wy h_u_bt h_u_ps h_u_ic h_u_id (r_ro) (r_pt) (r_me) (e_ah)) (cwV 0 hts gV_X12_444 rfl rfl rfl hv_X12_countRows ⟨Nat.le_of_ble_eq_true rfl, Nat.le_of_ble_eq_true rfl⟩) (g5_preV hPc hK hDc hN hT hS hFc (ci := 12) (q0 := 0) rfl rfl) rfl rfl hl.1 rfl (lv_room (Nat.le_of_ble_eq_true rfl)) dX12_could_31 ⟨Nat.le_of_ble_eq_true rfl, Nat.le_of_ble_eq_true rfl⟩) hS (fun q _ h => hFc q h) hFc (fun u t H locs ht hvm hw hB hz1 hk1 hS => ?_)
          obtain ⟨hP1, hD1⟩ := hB
          have hP1 := g5_ht ht hP1
          obtain ⟨z18, z19, z20, z21, z22, z23, z24, z25, z26, z27, z28, z29, z30, z31, z32, z33, z34, z35, z36, (i_7 : 0 ≤ z18.toInt ∧ z18.toInt ≤ 4840), (i_8 : 0 ≤ z19.toInt ∧ z19.toInt ≤ 1), (i_9 : 0 ≤ z22.toInt ∧ z22.toInt ≤ 63), (i_10 : 0 ≤ z23.toInt ∧ z23.toInt ≤ 23), (i_11 : 0 ≤ z24.toInt ∧ z24.toInt ≤ 3), (i_12 : 0 ≤ z25.toInt ∧ z25.toInt ≤ 1000000), (i_13 : 0 ≤ z26.toInt ∧ z26.toInt ≤ 200), (i_14 : PTI z33), (i_15 : 0 ≤ z29.toInt ∧ z29.toInt ≤ 1), (i_16 : MEI z36), (i_17 : AH0 z34 z36), rfl⟩ := hw
          have hJ9 := va_join (wr := []) hP hD [0, 1, 2, 3, 4, 5, 6, 7] [] rfl rfl (by decide +kernel) (by decide +kernel) hk1 hFc hP1 hD1
          clear hP hD hPc hDc hFc ht hvm hz1 hk1 hP1 hD1
          obtain ⟨hP, hD⟩ := hJ9
          refine g5_rs [(b_o, (oc12 0 u_sa b_rf b_ro b_im b_ke u_fd b_tp u_td u_fr u_to u_so u_wo u_fa u_bd u_nc b_nl u_co b_op b_ar u_le b_pi b_pa u_pd u_od b_ws b_hw z18 b_se b_re z19 z20 z21 z22 z23 z24 z25 z26 b_pt z27 z28 b_ip z29 b_ah b_be b_me z30 b_tr b_ld u_st b_wn u_id)), (b_ro, (arI G 5740 v_ro)), (b_se, (arJ G 13 z31)), (b_re, (arJ G 400 z32)), (b_pt, (arI G 200 z33)), (b_ah, (arJ G 49152 z34)), (b_be, (arJ G 49152 z35)), (b_me, (arI G 1536 z36))] hP hD ?_
          clear hP hD
          intro hP hD
          refine lv_iload_n hx hb dX12_could_34 rfl (lv_at hl 2 rfl) ?_
          refine lv_iconst (v := (-1)) hx hb dX12_could_35 (by decide +kernel) ?_
          refine W.eq (g2 := F0 m 36 ls [.int (-1), .int p_2]) rfl ?_
          refine lv_icmp_eq (tgt := 46) hx hb dX12_could_36 (by decide +kernel) (fun c_37 => ?_) (fun c_37 => ?_)
          ·
            have i_37 : p_2.toInt = (-1) := g5_eq (a := p_2.toInt) (b := (-1)) rfl (by decide +kernel) c_37
            refine lv_lconst (v := 0) hx hb dX12_could_46 (by decide +kernel) ?_
            refine lv_lstore_n (lv' := [(3, .long 0), (0, .ref b_o), (1, .int p_1), (2, .int p_2)]) hx hb dX12_could_47 rfl hl (by decide +kernel) rfl ?_
            clear hl
            intro ls hl
            refine lv_iconst (v := 0) hx hb dX12_could_48 (by decide +kernel) ?_
            refine lv_istore (lv' := [(5, .int 0), (3, .long 0), (0, .ref b_o), (1, .int p_1), (2, .int p_2)]) hx hb dX12_could_49 hl (by decide +kernel) rfl ?_
            clear hl
            intro ls hl
            refine g5_loop (α := (Int32) × (Int64)) (fun (q : (Int32) × (Int64)) (ls : Array Slot) (H : Heap) (locs : List Loc) => match q with | (k51_5, k51_3) => lv_has ls 6 [(3, .long k51_3), (5, .int k51_5), (0, .ref b_o), (1, .int p_1), (2, .int p_2)] ∧ va_P G.1 vwCl [(b_o, (oc12 0 u_sa b_rf b_ro b_im b_ke u_fd b_tp u_td u_fr u_to u_so u_wo u_fa u_bd u_nc b_nl u_co b_op b_ar u_le b_pi b_pa u_pd u_od b_ws b_hw z18 b_se b_re z19 z20 z21 z22 z23 z24 z25 z26 b_pt z27 z28 b_ip z29 b_ah b_be b_me z30 b_tr b_ld u_st b_wn u_id)), (b_ro, (arI G 5740 v_ro)), (b_se, (arJ G 13 z31)), (b_re, (arJ G 400 z32)), (b_pt, (arI G 200 z33)), (b_ah, (arJ G 49152 z34)), (b_be, (arJ G 49152 z35)), (b_me, (arI G 1536 z36))] H ∧ va_D A [(b_o, (oc12 0 u_sa b_rf b_ro b_im b_ke u_fd b_tp u_td u_fr u_to u_so u_wo u_fa u_bd u_nc b_nl u_co b_op b_ar u_le b_pi b_pa u_pd u_od b_ws b_hw z18 b_se b_re z19 z20 z21 z22 z23 z24 z25 z26 b_pt z27 z28 b_ip z29 b_ah b_be b_me z30 b_tr b_ld u_st b_wn u_id)), (b_ro, (arI G 5740 v_ro)), (b_se, (arJ G 13 z31)), (b_re, (arJ G 400 z32)), (b_pt, (arI G 200 z33)), (b_ah, (arJ G 49152 z34)), (b_be, (arJ G 49152 z35)), (b_me, (arI G 1536 z36))] ∧ va_S A s.heap H locs ∧ (0 ≤ k51_5.toInt ∧ k51_5.toInt ≤ 64)) (fun (q : (Int32) × (Int64)) => match q with | (k51_5, k51_3) => Int.toNat (64 - k51_5.toInt)) (0, 0) ⟨lv_sub hl [1, 0, 2, 3, 4] rfl, hP, hD, hS, ⟨by decide, by decide⟩⟩ ?_
            rintro ⟨k51_5, k51_3⟩ ls H locs ⟨hl, hP, hD, hS, (i_38 : 0 ≤ k51_5.toInt ∧ k51_5.toInt ≤ 64)⟩ ih_51_39
            replace hl : lv_has ls 6 [(3, .long k51_3), (5, .int k51_5), (0, .ref b_o), (1, .int p_1), (2, .int p_2)] := hl
            refine g5_rs [(b_o, (oc12 0 u_sa b_rf b_ro b_im b_ke u_fd b_tp u_td u_fr u_to u_so u_wo u_fa u_bd u_nc b_nl u_co b_op b_ar u_le b_pi b_pa u_pd u_od b_ws b_hw z18 b_se b_re z19 z20 z21 z22 z23 z24 z25 z26 b_pt z27 z28 b_ip z29 b_ah b_be b_me z30 b_tr b_ld u_st b_wn u_id)), (b_ro, (arI G 5740 v_ro)), (b_se, (arJ G 13 z31)), (b_re, (arJ G 400 z32)), (b_pt, (arI G 200 z33)), (b_ah, (arJ G 49152 z34)), (b_be, (arJ G 49152 z35)), (b_me, (arI G 1536 z36))] hP hD ?_
            clear hP hD
            intro hP hD
            refine lv_iload hx hb dX12_could_51 (lv_at hl 1 rfl) ?_
            refine lv_bipush (v := 64) hx hb dX12_could_53 (by decide +kernel) ?_
            refine lv_icmp_ge (tgt := 84) hx hb dX12_could_55 (by decide +kernel) (fun c_40 => ?_) (fun c_40 => ?_)
            ·
              have i_40 : k51_5.toInt ≥ 64 := g5_ge (a := k51_5.toInt) (b := 64) rfl (by decide +kernel) c_40
              refine lv_lload_n hx hb dX12_could_84 rfl (lv_at hl 0 rfl) ?_
              exact W.lret (v := k51_3) hx hb hr (fun t ht hW => ⟨⟨k51_3, [(b_o, (oc12 0 u_sa b_rf b_ro b_im b_ke u_fd b_tp u_td u_fr u_to u_so u_wo u_fa u_bd u_nc b_nl u_co b_op b_ar u_le b_pi b_pa u_pd u_od b_ws b_hw z18 b_se b_re z19 z20 z21 z22 z23 z24 z25 z26 b_pt z27 z28 b_ip z29 b_ah b_be b_me z30 b_tr b_ld u_st b_wn u_id)), (b_ro, (arI G 5740 v_ro)), (b_se, (arJ G 13 z31)), (b_re, (arJ G 400 z32)), (b_pt, (arI G 200 z33)), (b_ah, (arJ G 49152 z34)), (b_be, (arJ G 49152 z35)), (b_me, (arI G 1536 z36))], rfl, ⟨k51_3, 0, z18, z19, z20, z21, z22, z23, z24, z25, z26, z27, z28, z29, z30, z31, z32, z33, z34, z35, z36, i_7, i_8, i_9, i_10, i_11, i_12, i_13, i_14, i_15, i_16, i_17, rfl, rfl⟩, by rw [ht]; exact hP.sub [0, 1, 2, 3, 4, 5, 6, 7] rfl, hD.sub [0, 1, 2, 3, 4, 5, 6, 7] (by decide +kernel) rfl⟩, hS.F ht⟩) hS.2.2 dX12_could_85
            ·
              have i_40 : k51_5.toInt < 64 := g5_geN (a := k51_5.toInt) (b := 64) rfl (by decide +kernel) c_40
              refine lv_lload_n hx hb dX12_could_58 rfl (lv_at hl 0 rfl) ?_
              refine lv_aload_n hx hb dX12_could_59 rfl (lv_at hl 2 rfl) ?_
              refine lv_iload_n hx hb dX12_could_60 rfl (lv_at hl 3 rfl) ?_
              refine lv_iload hx hb dX12_could_61 (lv_at hl 1 rfl) ?_
              refine W.eq (g2 := F0 m 63 ls [.int k51_5, .int p_1, .ref b_o, .long k51_3]) rfl ?_
              obtain ⟨hPc, hDc, hFc⟩ := g5_sub3 (wc := [(b_o, (oc12 0 u_sa b_rf b_ro b_im b_ke u_fd b_tp u_td u_fr u_to u_so u_wo u_fa u_bd u_nc b_nl u_co b_op b_ar u_le b_pi b_pa u_pd u_od b_ws b_hw z18 b_se b_re z19 z20 z21 z22 z23 z24 z25 z26 b_pt z27 z28 b_ip z29 b_ah b_be b_me z30 b_tr b_ld u_st b_wn u_id)), (b_ah, (arJ G 49152 z34)), (b_be, (arJ G 49152 z35))]) hP hD hS hA [0, 5, 6] (by decide +kernel) rfl
              refine va_calll (va_runV (As := [.int p_1, .int k51_5]) (rest := [.long k51_3]) ⟨hx, hb, hml, hown, hts⟩ (n_rowsAt l G b_o b_ah b_be b_rf b_ro b_im b_ke b_tp b_nl b_op b_ar b_pi b_pa b_ws b_hw b_se b_re b_pt b_ip b_me b_tr b_ld b_wn H.size 0 u_sa u_fd u_td u_fr u_to u_so u_fa u_bd u_nc u_co u_le u_pd u_od z18 z19 z22 z23 z24 z25 z26 z27 z28 z29 z30 u_id p_1 k51_5 u_wo z20 z21 u_st z34 z35 h_u_td h_u_fr h_u_to h_u_bd h_u_nc h_u_co h_u_pd i_7 i_8 i_9 i_10 i_11 i_12 i_13 i_15 h_u_id i_1 ⟨by omega, by omega⟩) (cwV 2 hts gV_X12_440 rfl rfl rfl hv_X12_rowsAt ⟨Nat.le_of_ble_eq_true rfl, Nat.le_of_ble_eq_true rfl⟩) (g5_preV hPc hK hDc hN hT hS hFc (ci := 12) (q0 := 0) rfl rfl) rfl rfl hl.1 rfl (lv_room (Nat.le_of_ble_eq_true rfl)) dX12_could_63 ⟨Nat.le_of_ble_eq_true rfl, Nat.le_of_ble_eq_true rfl⟩) hS (fun q _ h => hFc q h) hFc (fun r u t H locs ht hvm hw hB hz1 hk1 hS => ?_)
              obtain ⟨hP1, hD1⟩ := hB
              have hP1 := g5_ht ht hP1
              obtain ⟨z41, y42, rfl⟩ := hw
              have hJ9 := va_join (wr := [(b_ro, (arI G 5740 v_ro)), (b_se, (arJ G 13 z31)), (b_re, (arJ G 400 z32)), (b_pt, (arI G 200 z33)), (b_me, (arI G 1536 z36))]) hP hD [0, 5, 6] [1, 2, 3, 4, 7] rfl rfl (by decide +kernel) (by decide +kernel) hk1 hFc hP1 hD1
              clear hP hD hPc hDc hFc ht hvm hz1 hk1 hP1 hD1
              obtain ⟨hP, hD⟩ := hJ9
              refine g5_rs [(b_ro, (arI G 5740 v_ro)), (b_se, (arJ G 13 z31)), (b_re, (arJ G 400 z32)), (b_pt, (arI G 200 z33)), (b_me, (arI G 1536 z36)), (b_o, (oc12 0 u_sa b_rf b_ro b_im b_ke u_fd b_tp u_td u_fr u_to u_so u_wo u_fa u_bd u_nc b_nl u_co b_op b_ar u_le b_pi b_pa u_pd u_od b_ws b_hw z18 b_se b_re z19 z20 z21 z22 z23 z24 z25 z26 b_pt z27 z28 b_ip z29 b_ah b_be b_me z30 b_tr b_ld u_st b_wn u_id)), (b_ah, (arJ G 49152 z34)), (b_be, (arJ G 49152 z35))] hP hD ?_
              clear hP hD
              intro hP hD
              refine g5_tl (v := z41) y42 ?_
              refine lv_lconst (v := 0) hx hb dX12_could_66 (by decide +kernel) ?_
              refine W.lcmp hx hb dX12_could_67 ?_
              refine lv_if_le (tgt := 75) hx hb dX12_could_68 (by decide +kernel) (fun c_43 => ?_) (fun c_43 => ?_)
              ·
                have i_43 : (lg_cmp z41 0).toInt ≤ 0 := g5_le (a := (lg_cmp z41 0).toInt) (b := 0) rfl (by decide +kernel) c_43
                refine lv_lconst (v := 0) hx hb dX12_could_75 (by decide +kernel) ?_
                refine lv_ladd hx hb dX12_could_76 ?_
                refine lv_lstore_n (lv' := [(3, .long (k51_3 + 0)), (5, .int k51_5), (0, .ref b_o), (1, .int p_1), (2, .int p_2)]) hx hb dX12_could_77 rfl hl (by decide +kernel) rfl ?_
                clear hl
                intro ls hl
                refine lv_iinc (v := (k51_5 + 1)) (lv' := [(5, .int (k51_5 + 1)), (3, .long (k51_3 + 0)), (0, .ref b_o), (1, .int p_1), (2, .int p_2)]) hx hb dX12_could_78 hl (k := 1) rfl rfl (by decide +kernel) rfl ?_
                clear hl
                intro ls hl
                have t_44 : (k51_5 + 1).toInt = k51_5.toInt + 1 := g5_iadd (a := k51_5.toInt) (b := 1) rfl (by decide +kernel) (by omega) (by omega)
                refine W.eq (g2 := F0 m 81 ls []) rfl ?_
                refine lv_goto (tgt := 51) hx hb dX12_could_81 (by decide +kernel) ?_
                exact ih_51_39 ((k51_5 + 1), (k51_3 + 0)) ls H locs (show Int.toNat (64 - (k51_5 + 1).toInt) < Int.toNat (64 - k51_5.toInt) from g_up (show k51_5.toInt < (k51_5 + 1).toInt by omega) (show k51_5.toInt < 64 by omega)) ⟨lv_sub hl [1, 0, 2, 3, 4] rfl, hP.sub [5, 0, 1, 2, 3, 6, 7, 4] rfl, hD.sub [5, 0, 1, 2, 3, 6, 7, 4] (by decide +kernel) rfl, hS, ⟨by omega, by omega⟩⟩
              ·
                have i_43 : (lg_cmp z41 0).toInt > 0 := g5_leN (a := (lg_cmp z41 0).toInt) (b := 0) rfl (by decide +kernel) c_43
                refine lv_lconst (v := 1) hx hb dX12_could_71 (by decide +kernel) ?_
                refine lv_goto (tgt := 76) hx hb dX12_could_72 (by decide +kernel) ?_
                refine lv_ladd hx hb dX12_could_76 ?_
                refine lv_lstore_n (lv' := [(3, .long (k51_3 + 1)), (5, .int k51_5), (0, .ref b_o), (1, .int p_1), (2, .int p_2)]) hx hb dX12_could_77 rfl hl (by decide +kernel) rfl ?_
                clear hl
                intro ls hl
                refine W.eq (g2 := F0 m 78 ls []) rfl ?_
                refine lv_iinc (v := (k51_5 + 1)) (lv' := [(5, .int (k51_5 + 1)), (3, .long (k51_3 + 1)), (0, .ref b_o), (1, .int p_1), (2, .int p_2)]) hx hb dX12_could_78 hl (k := 1) rfl rfl (by decide +kernel) rfl ?_
                clear hl
                intro ls hl
                have t_45 : (k51_5 + 1).toInt = k51_5.toInt + 1 := g5_iadd (a := k51_5.toInt) (b := 1) rfl (by decide +kernel) (by omega) (by omega)
                refine lv_goto (tgt := 51) hx hb dX12_could_81 (by decide +kernel) ?_
                exact ih_51_39 ((k51_5 + 1), (k51_3 + 1)) ls H locs (show Int.toNat (64 - (k51_5 + 1).toInt) < Int.toNat (64 - k51_5.toInt) from g_up (show k51_5.toInt < (k51_5 + 1).toInt by omega) (show k51_5.toInt < 64 by omega)) ⟨lv_sub hl [1, 0, 2, 3, 4] rfl, hP.sub [5, 0, 1, 2, 3, 6, 7, 4] rfl, hD.sub [5, 0, 1, 2, 3, 6, 7, 4] (by decide +kernel) rfl, hS, ⟨by omega, by omega⟩⟩
          ·
            have n_37 : gNe (p_2.toInt) ((-1)) := g5_eqN (a := p_2.toInt) (b := (-1)) rfl (by decide +kernel) c_37
            have i_37 : p_2.toInt ≥ 0 := by have z := g5_eqN (a := p_2.toInt) (b := (-1)) (by rfl) (by decide +kernel) c_37; omega
            refine lv_aload_n hx hb dX12_could_39 rfl (lv_at hl 0 rfl) ?_
            refine lv_iload_n hx hb dX12_could_40 rfl (lv_at hl 1 rfl) ?_
            refine lv_iload_n hx hb dX12_could_41 rfl (lv_at hl 2 rfl) ?_
            obtain ⟨hPc, hDc, hFc⟩ := g5_sub3 (wc := [(b_o, (oc12 0 u_sa b_rf b_ro b_im b_ke u_fd b_tp u_td u_fr u_to u_so u_wo u_fa u_bd u_nc b_nl u_co b_op b_ar u_le b_pi b_pa u_pd u_od b_ws b_hw z18 b_se b_re z19 z20 z21 z22 z23 z24 z25 z26 b_pt z27 z28 b_ip z29 b_ah b_be b_me z30 b_tr b_ld u_st b_wn u_id)), (b_ah, (arJ G 49152 z34)), (b_be, (arJ G 49152 z35))]) hP hD hS hA [0, 5, 6] (by decide +kernel) rfl
            refine va_calll (va_runV (As := [.int p_1, .int p_2]) (rest := []) ⟨hx, hb, hml, hown, hts⟩ (n_rowsAt l G b_o b_ah b_be b_rf b_ro b_im b_ke b_tp b_nl b_op b_ar b_pi b_pa b_ws b_hw b_se b_re b_pt b_ip b_me b_tr b_ld b_wn H.size 0 u_sa u_fd u_td u_fr u_to u_so u_fa u_bd u_nc u_co u_le u_pd u_od z18 z19 z22 z23 z24 z25 z26 z27 z28 z29 z30 u_id p_1 p_2 u_wo z20 z21 u_st z34 z35 h_u_td h_u_fr h_u_to h_u_bd h_u_nc h_u_co h_u_pd i_7 i_8 i_9 i_10 i_11 i_12 i_13 i_15 h_u_id i_1 ⟨by omega, by omega⟩) (cwV 2 hts gV_X12_440 rfl rfl rfl hv_X12_rowsAt ⟨Nat.le_of_ble_eq_true rfl, Nat.le_of_ble_eq_true rfl⟩) (g5_preV hPc hK hDc hN hT hS hFc (ci := 12) (q0 := 0) rfl rfl) rfl rfl hl.1 rfl (lv_room (Nat.le_of_ble_eq_true rfl)) dX12_could_42 ⟨Nat.le_of_ble_eq_true rfl, Nat.le_of_ble_eq_true rfl⟩) hS (fun q _ h => hFc q h) hFc (fun r u t H locs ht hvm hw hB hz1 hk1 hS => ?_)
            obtain ⟨hP1, hD1⟩ := hB
            have hP1 := g5_ht ht hP1
            obtain ⟨z46, y47, rfl⟩ := hw
            have hJ9 := va_join (wr := [(b_ro, (arI G 5740 v_ro)), (b_se, (arJ G 13 z31)), (b_re, (arJ G 400 z32)), (b_pt, (arI G 200 z33)), (b_me, (arI G 1536 z36))]) hP hD [0, 5, 6] [1, 2, 3, 4, 7] rfl rfl (by decide +kernel) (by decide +kernel) hk1 hFc hP1 hD1
            clear hP hD hPc hDc hFc ht hvm hz1 hk1 hP1 hD1
            obtain ⟨hP, hD⟩ := hJ9
            refine g5_rs [(b_ro, (arI G 5740 v_ro)), (b_se, (arJ G 13 z31)), (b_re, (arJ G 400 z32)), (b_pt, (arI G 200 z33)), (b_me, (arI G 1536 z36)), (b_o, (oc12 0 u_sa b_rf b_ro b_im b_ke u_fd b_tp u_td u_fr u_to u_so u_wo u_fa u_bd u_nc b_nl u_co b_op b_ar u_le b_pi b_pa u_pd u_od b_ws b_hw z18 b_se b_re z19 z20 z21 z22 z23 z24 z25 z26 b_pt z27 z28 b_ip z29 b_ah b_be b_me z30 b_tr b_ld u_st b_wn u_id)), (b_ah, (arJ G 49152 z34)), (b_be, (arJ G 49152 z35))] hP hD ?_
            clear hP hD
            intro hP hD
            refine g5_tl (v := z46) y47 ?_
            refine W.eq (g2 := F0 m 45 ls [.long z46]) rfl ?_
            exact W.lret (v := z46) hx hb hr (fun t ht hW => ⟨⟨z46, [(b_o, (oc12 0 u_sa b_rf b_ro b_im b_ke u_fd b_tp u_td u_fr u_to u_so u_wo u_fa u_bd u_nc b_nl u_co b_op b_ar u_le b_pi b_pa u_pd u_od b_ws b_hw z18 b_se b_re z19 z20 z21 z22 z23 z24 z25 z26 b_pt z27 z28 b_ip z29 b_ah b_be b_me z30 b_tr b_ld u_st b_wn u_id)), (b_ro, (arI G 5740 v_ro)), (b_se, (arJ G 13 z31)), (b_re, (arJ G 400 z32)), (b_pt, (arI G 200 z33)), (b_ah, (arJ G 49152 z34)), (b_be, (arJ G 49152 z35)), (b_me, (arI G 1536 z36))], rfl, ⟨z46, 0, z18, z19, z20, z21, z22, z23, z24, z25, z26, z27, z28, z29, z30, z31, z32, z33, z34, z35, z36, i_7, i_8, i_9, i_10, i_11, i_12, i_13, i_14, i_15, i_16, i_17, rfl, rfl⟩, by rw [ht]; exact hP.sub [5, 0, 1, 2, 3, 6, 7, 4] rfl, hD.sub [5, 0, 1, 2, 3, 6, 7, 4] (by decide +kernel) rfl⟩, hS.F ht⟩) hS.2.2 dX12_could_45
        ·
          exact absurd c_6 (by decide +kernel)
  ·
    have hJ9 := g5_same hP hk1
    clear hP hPc hDc hFc ht hvm hz1 hk1 hP1 hD1
    have hP := hJ9
    clear hJ9
    refine lv_if_eq (tgt := 26) hx hb dX12_could_9 (by decide +kernel) (fun c_48 => ?_) (fun c_48 => ?_)
    ·
      refine lv_ldc2 (v := (-1)) hx hb hown (hts _ kl_X12_178) dX12_could_26 ?_
      exact W.lret (v := (-1)) hx hb hr (fun t ht hW => ⟨⟨(-1), [(b_o, (oc12 0 u_sa b_rf b_ro b_im b_ke u_fd b_tp u_td u_fr u_to u_so u_wo u_fa u_bd u_nc b_nl u_co b_op b_ar u_le b_pi b_pa u_pd u_od b_ws b_hw u_la b_se b_re u_bk u_va u_su u_ce u_ho u_wy u_bt u_ps b_pt u_tg u_sn b_ip u_ic b_ah b_be b_me u_wd b_tr b_ld u_st b_wn u_id)), (b_ro, (arI G 5740 v_ro)), (b_se, (arJ G 13 v_se)), (b_re, (arJ G 400 v_re)), (b_pt, (arI G 200 v_pt)), (b_ah, (arJ G 49152 v_ah)), (b_be, (arJ G 49152 v_be)), (b_me, (arI G 1536 v_me))], rfl, ⟨(-1), 0, u_la, u_bk, u_va, u_su, u_ce, u_ho, u_wy, u_bt, u_ps, u_tg, u_sn, u_ic, u_wd, v_se, v_re, v_pt, v_ah, v_be, v_me, h_u_la, h_u_bk, h_u_ce, h_u_ho, h_u_wy, h_u_bt, h_u_ps, r_pt, h_u_ic, r_me, e_ah, rfl, rfl⟩, by rw [ht]; exact hP.sub [0, 1, 2, 3, 4, 5, 6, 7] rfl, hD.sub [0, 1, 2, 3, 4, 5, 6, 7] (by decide +kernel) rfl⟩, hS.F ht⟩) hS.2.2 dX12_could_29
    ·
      exact absurd c_48 (by decide +kernel)
set_option maxHeartbeats 4000000 in
set_option maxRecDepth 100000 in
theorem n_rowsAt0 (l : Launch) (G : g5_G) (b_o b_ah b_be b_me b_rf b_ro b_im b_ke b_tp b_nl b_op b_ar b_pi b_pa b_ws b_hw b_se b_re b_pt b_ip b_tr b_ld b_wn : Nat) (sz : Nat) (u_th : Int32) (u_sa : Int32) (u_fd : Int32) (u_td : Int32) (u_fr : Int32) (u_to : Int32) (u_so : Int32) (u_fa : Int32) (u_bd : Int32) (u_nc : Int32) (u_co : Int32) (u_le : Int32) (u_pd : Int32) (u_od : Int32) (u_la : Int32) (u_bk : Int32) (u_ce : Int32) (u_ho : Int32) (u_wy : Int32) (u_bt : Int32) (u_ps : Int32) (u_tg : Int32) (u_sn : Int32) (u_ic : Int32) (u_wd : Int32) (u_id : Int32) (p_2 : Int32) (u_wo : Int64) (u_va : Int64) (u_su : Int64) (u_st : Int64) (v_ah : Nat → Int64) (v_be : Nat → Int64) (v_me : Nat → Int32) (h_u_td : 0 ≤ u_td.toInt ∧ u_td.toInt ≤ 400) (h_u_fr : 0 ≤ u_fr.toInt ∧ u_fr.toInt ≤ 400) (h_u_to : 0 ≤ u_to.toInt ∧ u_to.toInt ≤ 400) (h_u_bd : 0 ≤ u_bd.toInt ∧ u_bd.toInt ≤ 1) (h_u_nc : 0 ≤ u_nc.toInt ∧ u_nc.toInt ≤ 12) (h_u_co : 0 ≤ u_co.toInt ∧ u_co.toInt ≤ 400) (h_u_pd : 0 ≤ u_pd.toInt ∧ u_pd.toInt ≤ 400) (h_u_la : 0 ≤ u_la.toInt ∧ u_la.toInt ≤ 4840) (h_u_bk : 0 ≤ u_bk.toInt ∧ u_bk.toInt ≤ 1) (h_u_ce : 0 ≤ u_ce.toInt ∧ u_ce.toInt ≤ 63) (h_u_ho : 0 ≤ u_ho.toInt ∧ u_ho.toInt ≤ 23) (h_u_wy : 0 ≤ u_wy.toInt ∧ u_wy.toInt ≤ 3) (h_u_bt : 0 ≤ u_bt.toInt ∧ u_bt.toInt ≤ 1000000) (h_u_ps : 0 ≤ u_ps.toInt ∧ u_ps.toInt ≤ 200) (h_u_ic : 0 ≤ u_ic.toInt ∧ u_ic.toInt ≤ 1) (h_u_id : 0 ≤ u_id.toInt ∧ u_id.toInt ≤ 1) (h_p_2 : 0 ≤ p_2.toInt ∧ p_2.toInt ≤ 63) (e_ah : AH0 v_ah v_me) : Met l yX12_rowsAt (wsG yX12_rowsAt cX12_rowsAt 7 (some .long)) ({ frames := 0, cells := 0, slots := 0, locals := 0 }) (va_Pc [.ref b_o, .int 0, .int p_2] (g5_P G [(b_o, (oc12 u_th u_sa b_rf b_ro b_im b_ke u_fd b_tp u_td u_fr u_to u_so u_wo u_fa u_bd u_nc b_nl u_co b_op b_ar u_le b_pi b_pa u_pd u_od b_ws b_hw u_la b_se b_re u_bk u_va u_su u_ce u_ho u_wy u_bt u_ps b_pt u_tg u_sn b_ip u_ic b_ah b_be b_me u_wd b_tr b_ld u_st b_wn u_id)), (b_ah, (arJ G 49152 v_ah)), (b_be, (arJ G 49152 v_be)), (b_me, (arI G 1536 v_me))] sz)) (va_Ql (fun (r : Int64) (u : va_W) => (∃ (o_r : Int64), (64 ≤ (v_me p_2.toNatClampNeg).toInt → o_r = 0) ∧ (r = o_r) ∧ (u = [(b_o, (oc12 u_th u_sa b_rf b_ro b_im b_ke u_fd b_tp u_td u_fr u_to u_so u_wo u_fa u_bd u_nc b_nl u_co b_op b_ar u_le b_pi b_pa u_pd u_od b_ws b_hw u_la b_se b_re u_bk u_va u_su u_ce u_ho u_wy u_bt u_ps b_pt u_tg u_sn b_ip u_ic b_ah b_be b_me u_wd b_tr b_ld u_st b_wn u_id)), (b_ah, (arJ G 49152 v_ah)), (b_be, (arJ G 49152 v_be)), (b_me, (arI G 1536 v_me))]))) (g5_B G (va_A [(b_o, (oc12 u_th u_sa b_rf b_ro b_im b_ke u_fd b_tp u_td u_fr u_to u_so u_wo u_fa u_bd u_nc b_nl u_co b_op b_ar u_le b_pi b_pa u_pd u_od b_ws b_hw u_la b_se b_re u_bk u_va u_su u_ce u_ho u_wy u_bt u_ps b_pt u_tg u_sn b_ip u_ic b_ah b_be b_me u_wd b_tr b_ld u_st b_wn u_id)), (b_ah, (arJ G 49152 v_ah)), (b_be, (arJ G 49152 v_be)), (b_me, (arI G 1536 v_me))] sz)) (va_A [(b_o, (oc12 u_th u_sa b_rf b_ro b_im b_ke u_fd b_tp u_td u_fr u_to u_so u_wo u_fa u_bd u_nc b_nl u_co b_op b_ar u_le b_pi b_pa u_pd u_od b_ws b_hw u_la b_se b_re u_bk u_va u_su u_ce u_ho u_wy u_bt u_ps b_pt u_tg u_sn b_ip u_ic b_ah b_be b_me u_wd b_tr b_ld u_st b_wn u_id)), (b_ah, (arJ G 49152 v_ah)), (b_be, (arJ G 49152 v_be)), (b_me, (arI G 1536 v_me))] sz)) 0 0 (va_A [(b_o, (oc12 u_th u_sa b_rf b_ro b_im b_ke u_fd b_tp u_td u_fr u_to u_so u_wo u_fa u_bd u_nc b_nl u_co b_op b_ar u_le b_pi b_pa u_pd u_od b_ws b_hw u_la b_se b_re u_bk u_va u_su u_ce u_ho u_wy u_bt u_ps b_pt u_tg u_sn b_ip u_ic b_ah b_be b_me u_wd b_tr b_ld u_st b_wn u_id)), (b_ah, (arJ G 49152 v_ah)), (b_be, (arJ G 49152 v_be)), (b_me, (arI G 1536 v_me))] sz) := by
  refine Met.ofW (cc := cX12_rowsAt) (maxL := 7) (ret := (some .long)) (by decide +kernel) rfl ?_
  intro p e s m args below meth c s₁ B hml hv
  obtain ⟨rfl, hsz, hP, hK, hD0, hN, hT⟩ := hv
  have hx := B.exec
  have hb := B.bytes
  have hr := B.returns
  have hts : ∀ w ∈ tblG, w.before _ s = true := fun w h => atoms_spec (ws := (wsG yX12_rowsAt cX12_rowsAt 7 (some .long))) B.pre w (List.mem_cons_of_mem _ h)
  have hown : s.vm.findClass RX12 = some m.cls := findClass_of_methodNamed B.named
  have hlocks := B.notSynchronized
  subst hsz
  have hD := hD0.self (sz := s.heap.size)
  generalize hAe : va_A [(b_o, (oc12 u_th u_sa b_rf b_ro b_im b_ke u_fd b_tp u_td u_fr u_to u_so u_wo u_fa u_bd u_nc b_nl u_co b_op b_ar u_le b_pi b_pa u_pd u_od b_ws b_hw u_la b_se b_re u_bk u_va u_su u_ce u_ho u_wy u_bt u_ps b_pt u_tg u_sn b_ip u_ic b_ah b_be b_me u_wd b_tr b_ld u_st b_wn u_id)), (b_ah, (arJ G 49152 v_ah)), (b_be, (arJ G 49152 v_be)), (b_me, (arI G 1536 v_me))] s.heap.size = A at hD hT ⊢
  have hA : ∀ q : Nat, s.heap.size ≤ q → A q := fun q h => by rw [← hAe]; exact Or.inr h
  have hS : va_S A s.heap s.heap [] := va_S.rf
  replace hP : va_P G.1 vwCl [(b_o, (oc12 u_th u_sa b_rf b_ro b_im b_ke u_fd b_tp u_td u_fr u_to u_so u_wo u_fa u_bd u_nc b_nl u_co b_op b_ar u_le b_pi b_pa u_pd u_od b_ws b_hw u_la b_se b_re u_bk u_va u_su u_ce u_ho u_wy u_bt u_ps b_pt u_tg u_sn b_ip u_ic b_ah b_be b_me u_wd b_tr b_ld u_st b_wn u_id)), (b_ah, (arJ G 49152 v_ah)), (b_be, (arJ G 49152 v_be)), (b_me, (arI G 1536 v_me))] s.heap := hP
  have hl := lv_entry ([.ref b_o, .int 0, .int p_2]) (n := 7) (Nat.le_of_ble_eq_true rfl)
  rw [lg_entry_eq]
  generalize (lg_sl ([.ref b_o, .int 0, .int p_2]) ++ List.replicate (7 - (lg_sl ([.ref b_o, .int 0, .int p_2])).length) Slot.unset).toArray = ls at hl ⊢
  replace hl : lv_has ls 7 [(0, .ref b_o), (1, .int 0), (2, .int p_2)] := hl
  refine lv_lconst (v := 0) hx hb dX12_rowsAt_0 (by decide +kernel) ?_
  refine lv_lstore_n (lv' := [(3, .long 0), (0, .ref b_o), (1, .int 0), (2, .int p_2)]) hx hb dX12_rowsAt_1 rfl hl (by decide +kernel) rfl ?_
  clear hl
  intro ls hl
  refine lv_iconst (v := 0) hx hb dX12_rowsAt_2 (by decide +kernel) ?_
  refine lv_istore (lv' := [(5, .int 0), (3, .long 0), (0, .ref b_o), (1, .int 0), (2, .int p_2)]) hx hb dX12_rowsAt_3 hl (by decide +kernel) rfl ?_
  clear hl
  intro ls hl
  refine g5_loop (α := (Int64) × (Int32)) (fun (q : (Int64) × (Int32)) (ls : Array Slot) (H : Heap) (locs : List Loc) => match q with | (k5_3, k5_5) => lv_has ls 7 [(3, .long k5_3), (5, .int k5_5), (0, .ref b_o), (1, .int 0), (2, .int p_2)] ∧ va_P G.1 vwCl [(b_o, (oc12 u_th u_sa b_rf b_ro b_im b_ke u_fd b_tp u_td u_fr u_to u_so u_wo u_fa u_bd u_nc b_nl u_co b_op b_ar u_le b_pi b_pa u_pd u_od b_ws b_hw u_la b_se b_re u_bk u_va u_su u_ce u_ho u_wy u_bt u_ps b_pt u_tg u_sn b_ip u_ic b_ah b_be b_me u_wd b_tr b_ld u_st b_wn u_id)), (b_ah, (arJ G 49152 v_ah)), (b_be, (arJ G 49152 v_be)), (b_me, (arI G 1536 v_me))] H ∧ va_D A [(b_o, (oc12 u_th u_sa b_rf b_ro b_im b_ke u_fd b_tp u_td u_fr u_to u_so u_wo u_fa u_bd u_nc b_nl u_co b_op b_ar u_le b_pi b_pa u_pd u_od b_ws b_hw u_la b_se b_re u_bk u_va u_su u_ce u_ho u_wy u_bt u_ps b_pt u_tg u_sn b_ip u_ic b_ah b_be b_me u_wd b_tr b_ld u_st b_wn u_id)), (b_ah, (arJ G 49152 v_ah)), (b_be, (arJ G 49152 v_be)), (b_me, (arI G 1536 v_me))] ∧ va_S A s.heap H locs ∧ (0 ≤ k5_5.toInt ∧ k5_5.toInt ≤ 32) ∧ (64 ≤ (v_me p_2.toNatClampNeg).toInt → k5_3 = 0)) (fun (q : (Int64) × (Int32)) => match q with | (k5_3, k5_5) => Int.toNat (32 - k5_5.toInt)) (0, 0) ⟨lv_sub hl [1, 0, 2, 3, 4] rfl, hP, hD, hS, ⟨by decide, by decide⟩, fun _ => rfl⟩ ?_
  rintro ⟨k5_3, k5_5⟩ ls H locs ⟨hl, hP, hD, hS, (i_1 : 0 ≤ k5_5.toInt ∧ k5_5.toInt ≤ 32), (i_2 : 64 ≤ (v_me p_2.toNatClampNeg).toInt → k5_3 = 0)⟩ ih_5_3
  replace hl : lv_has ls 7 [(3, .long k5_3), (5, .int k5_5), (0, .ref b_o), (1, .int 0), (2, .int p_2)] := hl
  refine g5_rs [(b_o, (oc12 u_th u_sa b_rf b_ro b_im b_ke u_fd b_tp u_td u_fr u_to u_so u_wo u_fa u_bd u_nc b_nl u_co b_op b_ar u_le b_pi b_pa u_pd u_od b_ws b_hw u_la b_se b_re u_bk u_va u_su u_ce u_ho u_wy u_bt u_ps b_pt u_tg u_sn b_ip u_ic b_ah b_be b_me u_wd b_tr b_ld u_st b_wn u_id)), (b_ah, (arJ G 49152 v_ah)), (b_be, (arJ G 49152 v_be)), (b_me, (arI G 1536 v_me))] hP hD ?_
  clear hP hD
  intro hP hD
  refine lv_iload hx hb dX12_rowsAt_5 (lv_at hl 1 rfl) ?_
  refine lv_bipush (v := 32) hx hb dX12_rowsAt_7 (by decide +kernel) ?_
  refine lv_icmp_ge (tgt := 50) hx hb dX12_rowsAt_9 (by decide +kernel) (fun c_4 => ?_) (fun c_4 => ?_)
  ·
    have i_4 : k5_5.toInt ≥ 32 := g5_ge (a := k5_5.toInt) (b := 32) rfl (by decide +kernel) c_4
    refine lv_lload_n hx hb dX12_rowsAt_50 rfl (lv_at hl 0 rfl) ?_
    exact W.lret (v := k5_3) hx hb hr (fun t ht hW => ⟨⟨k5_3, [(b_o, (oc12 u_th u_sa b_rf b_ro b_im b_ke u_fd b_tp u_td u_fr u_to u_so u_wo u_fa u_bd u_nc b_nl u_co b_op b_ar u_le b_pi b_pa u_pd u_od b_ws b_hw u_la b_se b_re u_bk u_va u_su u_ce u_ho u_wy u_bt u_ps b_pt u_tg u_sn b_ip u_ic b_ah b_be b_me u_wd b_tr b_ld u_st b_wn u_id)), (b_ah, (arJ G 49152 v_ah)), (b_be, (arJ G 49152 v_be)), (b_me, (arI G 1536 v_me))], rfl, ⟨k5_3, i_2, rfl, rfl⟩, by rw [ht]; exact hP.sub [0, 1, 2, 3] rfl, hD.sub [0, 1, 2, 3] (by decide +kernel) rfl⟩, hS.F ht⟩) hS.2.2 dX12_rowsAt_51
  ·
    have i_4 : k5_5.toInt < 32 := g5_geN (a := k5_5.toInt) (b := 32) rfl (by decide +kernel) c_4
    refine lv_bipush (v := 32) hx hb dX12_rowsAt_12 (by decide +kernel) ?_
    refine lv_bipush (v := 64) hx hb dX12_rowsAt_14 (by decide +kernel) ?_
    refine lv_iload_n hx hb dX12_rowsAt_16 rfl (lv_at hl 3 rfl) ?_
    refine lv_imul hx hb dX12_rowsAt_17 ?_
    refine g5_ti (v := 0) (by decide +kernel) ?_
    refine W.eq (g2 := F0 m 18 ls [.int 0, .int 32]) rfl ?_
    refine lv_iload_n hx hb dX12_rowsAt_18 rfl (lv_at hl 4 rfl) ?_
    refine lv_iadd hx hb dX12_rowsAt_19 ?_
    refine g5_ti (v := p_2) (by simp) ?_
    refine lv_imul hx hb dX12_rowsAt_20 ?_
    have t_5 : (32 * p_2).toInt = 32 * p_2.toInt := g5_imul (a := 32) (b := p_2.toInt) (by decide +kernel) (by rfl) (by omega) (by omega)
    refine lv_iload hx hb dX12_rowsAt_21 (lv_at hl 1 rfl) ?_
    refine lv_iadd hx hb dX12_rowsAt_23 ?_
    have t_6 : ((32 * p_2) + k5_5).toInt = (32 * p_2).toInt + k5_5.toInt := g5_iadd (a := (32 * p_2).toInt) (b := k5_5.toInt) (by rfl) (by rfl) (by omega) (by omega)
    refine W.eq (g2 := F0 m 24 ls [.int ((32 * p_2) + k5_5)]) rfl ?_
    refine lv_istore (lv' := [(6, .int ((32 * p_2) + k5_5)), (3, .long k5_3), (5, .int k5_5), (0, .ref b_o), (1, .int 0), (2, .int p_2)]) hx hb dX12_rowsAt_24 hl (by decide +kernel) rfl ?_
    clear hl
    intro ls hl
    refine lv_lload_n hx hb dX12_rowsAt_26 rfl (lv_at hl 1 rfl) ?_
    refine lv_aload_n hx hb dX12_rowsAt_27 rfl (lv_at hl 3 rfl) ?_
    refine va_get (D := G.1) (ci := 12) (v := .ref b_ah) (C := RX12) (T := TX12) (N := 52) hx hb hts inG_X12 hown hK hP 0 rfl rfl 43 (by decide +kernel) (hts _ fl_X12_89) (fun _ h9 => h9) rfl dX12_rowsAt_28 ?_
    refine lv_iload hx hb dX12_rowsAt_31 (lv_at hl 0 rfl) ?_
    refine W.eq (g2 := F0 m 33 ls [.int ((32 * p_2) + k5_5), .ref b_ah, .long k5_3]) rfl ?_
    refine va_lald hx hb hK hP 1 1 rfl rfl (i := ((32 * p_2) + k5_5)) (vp_in_iff.mpr ⟨by omega, by omega⟩) dX12_rowsAt_33 ?_
    refine lv_aload_n hx hb dX12_rowsAt_34 rfl (lv_at hl 3 rfl) ?_
    refine va_get (D := G.1) (ci := 12) (v := .ref b_be) (C := RX12) (T := TX12) (N := 52) hx hb hts inG_X12 hown hK hP 0 rfl rfl 44 (by decide +kernel) (hts _ fl_X12_92) (fun _ h9 => h9) rfl dX12_rowsAt_35 ?_
    refine lv_iload hx hb dX12_rowsAt_38 (lv_at hl 0 rfl) ?_
    refine va_lald hx hb hK hP 2 1 rfl rfl (i := ((32 * p_2) + k5_5)) (vp_in_iff.mpr ⟨by omega, by omega⟩) dX12_rowsAt_40 ?_
    refine W.eq (g2 := F0 m 41 ls [.long (v_be ((32 * p_2) + k5_5).toNatClampNeg), .long (v_ah ((32 * p_2) + k5_5).toNatClampNeg), .long k5_3]) rfl ?_
    refine lv_lmul hx hb dX12_rowsAt_41 ?_
    refine lv_ladd hx hb dX12_rowsAt_42 ?_
    refine lv_lstore_n (lv' := [(3, .long (k5_3 + ((v_ah ((32 * p_2) + k5_5).toNatClampNeg) * (v_be ((32 * p_2) + k5_5).toNatClampNeg)))), (6, .int ((32 * p_2) + k5_5)), (5, .int k5_5), (0, .ref b_o), (1, .int 0), (2, .int p_2)]) hx hb dX12_rowsAt_43 rfl hl (by decide +kernel) rfl ?_
    clear hl
    intro ls hl
    refine lv_iinc (v := (k5_5 + 1)) (lv' := [(5, .int (k5_5 + 1)), (3, .long (k5_3 + ((v_ah ((32 * p_2) + k5_5).toNatClampNeg) * (v_be ((32 * p_2) + k5_5).toNatClampNeg)))), (6, .int ((32 * p_2) + k5_5)), (0, .ref b_o), (1, .int 0), (2, .int p_2)]) hx hb dX12_rowsAt_44 hl (k := 2) rfl rfl (by decide +kernel) rfl ?_
    clear hl
    intro ls hl
    have t_7 : (k5_5 + 1).toInt = k5_5.toInt + 1 := g5_iadd (a := k5_5.toInt) (b := 1) rfl (by decide +kernel) (by omega) (by omega)
    refine lv_goto (tgt := 5) hx hb dX12_rowsAt_47 (by decide +kernel) ?_
    exact ih_5_3 ((k5_3 + ((v_ah ((32 * p_2) + k5_5).toNatClampNeg) * (v_be ((32 * p_2) + k5_5).toNatClampNeg))), (k5_5 + 1)) ls H locs (show Int.toNat (32 - (k5_5 + 1).toInt) < Int.toNat (32 - k5_5.toInt) from g_up (show k5_5.toInt < (k5_5 + 1).toInt by omega) (show k5_5.toInt < 32 by omega)) ⟨lv_sub hl [1, 0, 3, 4, 5] rfl, hP, hD, hS, ⟨by omega, by omega⟩, ra_step (k := k5_5) e_ah i_2 ⟨by omega, by omega⟩ ⟨by omega, by omega⟩ (by omega)⟩
theorem dgX12_path_0 : ∀ r ∈ ([(0, (.aload_n 0, 1)), (1, (.iconst 0, 1)), (2, (.putfield 107, 3)), (5, (.iload_n 1, 1)), (6, (.invokestatic 175, 3)), (9, (.ifCond .ne 5, 3)), (12, (.iconst (-1), 1)), (13, (.ireturn, 1)), (14, (.aload_n 0, 1)), (15, (.invokevirtual 444, 3)), (18, (.iconst (-1), 1)), (19, (.istore_n 2, 1)), (20, (.iconst 0, 1)), (21, (.istore_n 3, 1)), (22, (.iconst 0, 1)), (23, (.istore 4, 2)), (25, (.iload 4, 2)), (27, (.iload_n 1, 1)), (28, (.if_icmp .gt 166, 3)), (31, (.iconst (-1), 1)), (32, (.istore 5, 2)), (34, (.bipush 63, 2)), (36, (.istore 6, 2)), (38, (.iload 6, 2)), (40, (.ifCond .lt 122, 3)), (43, (.iload 4, 2)), (45, (.ifCond .ne 23, 3)), (48, (.aload_n 0, 1)), (49, (.iconst 0, 1)), (50, (.iload 6, 2)), (52, (.invokevirtual 440, 3)), (55, (.lconst 0, 1)), (56, (.lcmp, 1)), (57, (.ifCond .le 7, 3)), (60, (.iconst 1, 1)), (61, (.goto 79, 3)), (64, (.iconst 0, 1)), (65, (.goto 75, 3)), (68, (.iload_n 2, 1)), (69, (.iload 6, 2))] : List (Nat × (Instr × Nat))), decode cX12_path r.1 = .ok r.2 := by decide +kernel
theorem dX12_path_0 : decode cX12_path 0 = .ok (.aload_n 0, 1) := dgX12_path_0 (0, (.aload_n 0, 1)) (List.mem_of_getElem? (i := 0) rfl)
theorem dX12_path_1 : decode cX12_path 1 = .ok (.iconst 0, 1) := dgX12_path_0 (1, (.iconst 0, 1)) (List.mem_of_getElem? (i := 1) rfl)
theorem dX12_path_2 : decode cX12_path 2 = .ok (.putfield 107, 3) := dgX12_path_0 (2, (.putfield 107, 3)) (List.mem_of_getElem? (i := 2) rfl)
theorem dX12_path_5 : decode cX12_path 5 = .ok (.iload_n 1, 1) := dgX12_path_0 (5, (.iload_n 1, 1)) (List.mem_of_getElem? (i := 3) rfl)
theorem dX12_path_6 : decode cX12_path 6 = .ok (.invokestatic 175, 3) := dgX12_path_0 (6, (.invokestatic 175, 3)) (List.mem_of_getElem? (i := 4) rfl)
theorem dX12_path_9 : decode cX12_path 9 = .ok (.ifCond .ne 5, 3) := dgX12_path_0 (9, (.ifCond .ne 5, 3)) (List.mem_of_getElem? (i := 5) rfl)
theorem dX12_path_12 : decode cX12_path 12 = .ok (.iconst (-1), 1) := dgX12_path_0 (12, (.iconst (-1), 1)) (List.mem_of_getElem? (i := 6) rfl)
theorem dX12_path_13 : decode cX12_path 13 = .ok (.ireturn, 1) := dgX12_path_0 (13, (.ireturn, 1)) (List.mem_of_getElem? (i := 7) rfl)
theorem dX12_path_14 : decode cX12_path 14 = .ok (.aload_n 0, 1) := dgX12_path_0 (14, (.aload_n 0, 1)) (List.mem_of_getElem? (i := 8) rfl)
theorem dX12_path_15 : decode cX12_path 15 = .ok (.invokevirtual 444, 3) := dgX12_path_0 (15, (.invokevirtual 444, 3)) (List.mem_of_getElem? (i := 9) rfl)
theorem dX12_path_18 : decode cX12_path 18 = .ok (.iconst (-1), 1) := dgX12_path_0 (18, (.iconst (-1), 1)) (List.mem_of_getElem? (i := 10) rfl)
theorem dX12_path_19 : decode cX12_path 19 = .ok (.istore_n 2, 1) := dgX12_path_0 (19, (.istore_n 2, 1)) (List.mem_of_getElem? (i := 11) rfl)
theorem dX12_path_20 : decode cX12_path 20 = .ok (.iconst 0, 1) := dgX12_path_0 (20, (.iconst 0, 1)) (List.mem_of_getElem? (i := 12) rfl)
theorem dX12_path_21 : decode cX12_path 21 = .ok (.istore_n 3, 1) := dgX12_path_0 (21, (.istore_n 3, 1)) (List.mem_of_getElem? (i := 13) rfl)
theorem dX12_path_22 : decode cX12_path 22 = .ok (.iconst 0, 1) := dgX12_path_0 (22, (.iconst 0, 1)) (List.mem_of_getElem? (i := 14) rfl)
theorem dX12_path_23 : decode cX12_path 23 = .ok (.istore 4, 2) := dgX12_path_0 (23, (.istore 4, 2)) (List.mem_of_getElem? (i := 15) rfl)
theorem dX12_path_25 : decode cX12_path 25 = .ok (.iload 4, 2) := dgX12_path_0 (25, (.iload 4, 2)) (List.mem_of_getElem? (i := 16) rfl)
theorem dX12_path_27 : decode cX12_path 27 = .ok (.iload_n 1, 1) := dgX12_path_0 (27, (.iload_n 1, 1)) (List.mem_of_getElem? (i := 17) rfl)
theorem dX12_path_28 : decode cX12_path 28 = .ok (.if_icmp .gt 166, 3) := dgX12_path_0 (28, (.if_icmp .gt 166, 3)) (List.mem_of_getElem? (i := 18) rfl)
theorem dX12_path_31 : decode cX12_path 31 = .ok (.iconst (-1), 1) := dgX12_path_0 (31, (.iconst (-1), 1)) (List.mem_of_getElem? (i := 19) rfl)
theorem dX12_path_32 : decode cX12_path 32 = .ok (.istore 5, 2) := dgX12_path_0 (32, (.istore 5, 2)) (List.mem_of_getElem? (i := 20) rfl)
theorem dX12_path_34 : decode cX12_path 34 = .ok (.bipush 63, 2) := dgX12_path_0 (34, (.bipush 63, 2)) (List.mem_of_getElem? (i := 21) rfl)
theorem dX12_path_36 : decode cX12_path 36 = .ok (.istore 6, 2) := dgX12_path_0 (36, (.istore 6, 2)) (List.mem_of_getElem? (i := 22) rfl)
theorem dX12_path_38 : decode cX12_path 38 = .ok (.iload 6, 2) := dgX12_path_0 (38, (.iload 6, 2)) (List.mem_of_getElem? (i := 23) rfl)
theorem dX12_path_40 : decode cX12_path 40 = .ok (.ifCond .lt 122, 3) := dgX12_path_0 (40, (.ifCond .lt 122, 3)) (List.mem_of_getElem? (i := 24) rfl)
theorem dX12_path_43 : decode cX12_path 43 = .ok (.iload 4, 2) := dgX12_path_0 (43, (.iload 4, 2)) (List.mem_of_getElem? (i := 25) rfl)
theorem dX12_path_45 : decode cX12_path 45 = .ok (.ifCond .ne 23, 3) := dgX12_path_0 (45, (.ifCond .ne 23, 3)) (List.mem_of_getElem? (i := 26) rfl)
theorem dX12_path_48 : decode cX12_path 48 = .ok (.aload_n 0, 1) := dgX12_path_0 (48, (.aload_n 0, 1)) (List.mem_of_getElem? (i := 27) rfl)
theorem dX12_path_49 : decode cX12_path 49 = .ok (.iconst 0, 1) := dgX12_path_0 (49, (.iconst 0, 1)) (List.mem_of_getElem? (i := 28) rfl)
theorem dX12_path_50 : decode cX12_path 50 = .ok (.iload 6, 2) := dgX12_path_0 (50, (.iload 6, 2)) (List.mem_of_getElem? (i := 29) rfl)
theorem dX12_path_52 : decode cX12_path 52 = .ok (.invokevirtual 440, 3) := dgX12_path_0 (52, (.invokevirtual 440, 3)) (List.mem_of_getElem? (i := 30) rfl)
theorem dX12_path_55 : decode cX12_path 55 = .ok (.lconst 0, 1) := dgX12_path_0 (55, (.lconst 0, 1)) (List.mem_of_getElem? (i := 31) rfl)
theorem dX12_path_56 : decode cX12_path 56 = .ok (.lcmp, 1) := dgX12_path_0 (56, (.lcmp, 1)) (List.mem_of_getElem? (i := 32) rfl)
theorem dX12_path_57 : decode cX12_path 57 = .ok (.ifCond .le 7, 3) := dgX12_path_0 (57, (.ifCond .le 7, 3)) (List.mem_of_getElem? (i := 33) rfl)
theorem dX12_path_60 : decode cX12_path 60 = .ok (.iconst 1, 1) := dgX12_path_0 (60, (.iconst 1, 1)) (List.mem_of_getElem? (i := 34) rfl)
theorem dX12_path_61 : decode cX12_path 61 = .ok (.goto 79, 3) := dgX12_path_0 (61, (.goto 79, 3)) (List.mem_of_getElem? (i := 35) rfl)
theorem dX12_path_64 : decode cX12_path 64 = .ok (.iconst 0, 1) := dgX12_path_0 (64, (.iconst 0, 1)) (List.mem_of_getElem? (i := 36) rfl)
theorem dX12_path_65 : decode cX12_path 65 = .ok (.goto 75, 3) := dgX12_path_0 (65, (.goto 75, 3)) (List.mem_of_getElem? (i := 37) rfl)
theorem dX12_path_68 : decode cX12_path 68 = .ok (.iload_n 2, 1) := dgX12_path_0 (68, (.iload_n 2, 1)) (List.mem_of_getElem? (i := 38) rfl)
theorem dX12_path_69 : decode cX12_path 69 = .ok (.iload 6, 2) := dgX12_path_0 (69, (.iload 6, 2)) (List.mem_of_getElem? (i := 39) rfl)
theorem dgX12_path_1 : ∀ r ∈ ([(71, (.invokestatic 454, 3)), (74, (.ifCond .eq 65, 3)), (77, (.aload_n 0, 1)), (78, (.getfield 95, 3)), (81, (.bipush 64, 2)), (83, (.iload 4, 2)), (85, (.imul, 1)), (86, (.iload 6, 2)), (88, (.iadd, 1)), (89, (.iaload, 1)), (90, (.bipush 64, 2)), (92, (.if_icmp .ge 47, 3)), (95, (.aload_n 0, 1)), (96, (.getfield 92, 3)), (99, (.bipush 32, 2)), (101, (.bipush 64, 2)), (103, (.iload 4, 2)), (105, (.imul, 1)), (106, (.iload 6, 2)), (108, (.iadd, 1)), (109, (.imul, 1)), (110, (.iload_n 3, 1)), (111, (.aload_n 0, 1)), (112, (.getfield 95, 3)), (115, (.bipush 64, 2)), (117, (.iload 4, 2)), (119, (.imul, 1)), (120, (.iload 6, 2)), (122, (.iadd, 1)), (123, (.iaload, 1)), (124, (.bipush 31, 2)), (126, (.iand, 1)), (127, (.ior, 1)), (128, (.iadd, 1)), (129, (.laload, 1)), (130, (.lconst 0, 1)), (131, (.lcmp, 1)), (132, (.ifCond .le 7, 3)), (135, (.iconst 1, 1)), (136, (.goto 4, 3))] : List (Nat × (Instr × Nat))), decode cX12_path r.1 = .ok r.2 := by decide +kernel
theorem dX12_path_71 : decode cX12_path 71 = .ok (.invokestatic 454, 3) := dgX12_path_1 (71, (.invokestatic 454, 3)) (List.mem_of_getElem? (i := 0) rfl)
theorem dX12_path_74 : decode cX12_path 74 = .ok (.ifCond .eq 65, 3) := dgX12_path_1 (74, (.ifCond .eq 65, 3)) (List.mem_of_getElem? (i := 1) rfl)
theorem dX12_path_77 : decode cX12_path 77 = .ok (.aload_n 0, 1) := dgX12_path_1 (77, (.aload_n 0, 1)) (List.mem_of_getElem? (i := 2) rfl)
theorem dX12_path_78 : decode cX12_path 78 = .ok (.getfield 95, 3) := dgX12_path_1 (78, (.getfield 95, 3)) (List.mem_of_getElem? (i := 3) rfl)
theorem dX12_path_81 : decode cX12_path 81 = .ok (.bipush 64, 2) := dgX12_path_1 (81, (.bipush 64, 2)) (List.mem_of_getElem? (i := 4) rfl)
theorem dX12_path_83 : decode cX12_path 83 = .ok (.iload 4, 2) := dgX12_path_1 (83, (.iload 4, 2)) (List.mem_of_getElem? (i := 5) rfl)
theorem dX12_path_85 : decode cX12_path 85 = .ok (.imul, 1) := dgX12_path_1 (85, (.imul, 1)) (List.mem_of_getElem? (i := 6) rfl)
theorem dX12_path_86 : decode cX12_path 86 = .ok (.iload 6, 2) := dgX12_path_1 (86, (.iload 6, 2)) (List.mem_of_getElem? (i := 7) rfl)
theorem dX12_path_88 : decode cX12_path 88 = .ok (.iadd, 1) := dgX12_path_1 (88, (.iadd, 1)) (List.mem_of_getElem? (i := 8) rfl)
theorem dX12_path_89 : decode cX12_path 89 = .ok (.iaload, 1) := dgX12_path_1 (89, (.iaload, 1)) (List.mem_of_getElem? (i := 9) rfl)
theorem dX12_path_90 : decode cX12_path 90 = .ok (.bipush 64, 2) := dgX12_path_1 (90, (.bipush 64, 2)) (List.mem_of_getElem? (i := 10) rfl)
theorem dX12_path_92 : decode cX12_path 92 = .ok (.if_icmp .ge 47, 3) := dgX12_path_1 (92, (.if_icmp .ge 47, 3)) (List.mem_of_getElem? (i := 11) rfl)
theorem dX12_path_95 : decode cX12_path 95 = .ok (.aload_n 0, 1) := dgX12_path_1 (95, (.aload_n 0, 1)) (List.mem_of_getElem? (i := 12) rfl)
theorem dX12_path_96 : decode cX12_path 96 = .ok (.getfield 92, 3) := dgX12_path_1 (96, (.getfield 92, 3)) (List.mem_of_getElem? (i := 13) rfl)
theorem dX12_path_99 : decode cX12_path 99 = .ok (.bipush 32, 2) := dgX12_path_1 (99, (.bipush 32, 2)) (List.mem_of_getElem? (i := 14) rfl)
theorem dX12_path_101 : decode cX12_path 101 = .ok (.bipush 64, 2) := dgX12_path_1 (101, (.bipush 64, 2)) (List.mem_of_getElem? (i := 15) rfl)
theorem dX12_path_103 : decode cX12_path 103 = .ok (.iload 4, 2) := dgX12_path_1 (103, (.iload 4, 2)) (List.mem_of_getElem? (i := 16) rfl)
theorem dX12_path_105 : decode cX12_path 105 = .ok (.imul, 1) := dgX12_path_1 (105, (.imul, 1)) (List.mem_of_getElem? (i := 17) rfl)
theorem dX12_path_106 : decode cX12_path 106 = .ok (.iload 6, 2) := dgX12_path_1 (106, (.iload 6, 2)) (List.mem_of_getElem? (i := 18) rfl)
theorem dX12_path_108 : decode cX12_path 108 = .ok (.iadd, 1) := dgX12_path_1 (108, (.iadd, 1)) (List.mem_of_getElem? (i := 19) rfl)
theorem dX12_path_109 : decode cX12_path 109 = .ok (.imul, 1) := dgX12_path_1 (109, (.imul, 1)) (List.mem_of_getElem? (i := 20) rfl)
theorem dX12_path_110 : decode cX12_path 110 = .ok (.iload_n 3, 1) := dgX12_path_1 (110, (.iload_n 3, 1)) (List.mem_of_getElem? (i := 21) rfl)
theorem dX12_path_111 : decode cX12_path 111 = .ok (.aload_n 0, 1) := dgX12_path_1 (111, (.aload_n 0, 1)) (List.mem_of_getElem? (i := 22) rfl)
theorem dX12_path_112 : decode cX12_path 112 = .ok (.getfield 95, 3) := dgX12_path_1 (112, (.getfield 95, 3)) (List.mem_of_getElem? (i := 23) rfl)
theorem dX12_path_115 : decode cX12_path 115 = .ok (.bipush 64, 2) := dgX12_path_1 (115, (.bipush 64, 2)) (List.mem_of_getElem? (i := 24) rfl)
theorem dX12_path_117 : decode cX12_path 117 = .ok (.iload 4, 2) := dgX12_path_1 (117, (.iload 4, 2)) (List.mem_of_getElem? (i := 25) rfl)
theorem dX12_path_119 : decode cX12_path 119 = .ok (.imul, 1) := dgX12_path_1 (119, (.imul, 1)) (List.mem_of_getElem? (i := 26) rfl)
theorem dX12_path_120 : decode cX12_path 120 = .ok (.iload 6, 2) := dgX12_path_1 (120, (.iload 6, 2)) (List.mem_of_getElem? (i := 27) rfl)
theorem dX12_path_122 : decode cX12_path 122 = .ok (.iadd, 1) := dgX12_path_1 (122, (.iadd, 1)) (List.mem_of_getElem? (i := 28) rfl)
theorem dX12_path_123 : decode cX12_path 123 = .ok (.iaload, 1) := dgX12_path_1 (123, (.iaload, 1)) (List.mem_of_getElem? (i := 29) rfl)
theorem dX12_path_124 : decode cX12_path 124 = .ok (.bipush 31, 2) := dgX12_path_1 (124, (.bipush 31, 2)) (List.mem_of_getElem? (i := 30) rfl)
theorem dX12_path_126 : decode cX12_path 126 = .ok (.iand, 1) := dgX12_path_1 (126, (.iand, 1)) (List.mem_of_getElem? (i := 31) rfl)
theorem dX12_path_127 : decode cX12_path 127 = .ok (.ior, 1) := dgX12_path_1 (127, (.ior, 1)) (List.mem_of_getElem? (i := 32) rfl)
theorem dX12_path_128 : decode cX12_path 128 = .ok (.iadd, 1) := dgX12_path_1 (128, (.iadd, 1)) (List.mem_of_getElem? (i := 33) rfl)
theorem dX12_path_129 : decode cX12_path 129 = .ok (.laload, 1) := dgX12_path_1 (129, (.laload, 1)) (List.mem_of_getElem? (i := 34) rfl)
theorem dX12_path_130 : decode cX12_path 130 = .ok (.lconst 0, 1) := dgX12_path_1 (130, (.lconst 0, 1)) (List.mem_of_getElem? (i := 35) rfl)
theorem dX12_path_131 : decode cX12_path 131 = .ok (.lcmp, 1) := dgX12_path_1 (131, (.lcmp, 1)) (List.mem_of_getElem? (i := 36) rfl)
theorem dX12_path_132 : decode cX12_path 132 = .ok (.ifCond .le 7, 3) := dgX12_path_1 (132, (.ifCond .le 7, 3)) (List.mem_of_getElem? (i := 37) rfl)
theorem dX12_path_135 : decode cX12_path 135 = .ok (.iconst 1, 1) := dgX12_path_1 (135, (.iconst 1, 1)) (List.mem_of_getElem? (i := 38) rfl)
theorem dX12_path_136 : decode cX12_path 136 = .ok (.goto 4, 3) := dgX12_path_1 (136, (.goto 4, 3)) (List.mem_of_getElem? (i := 39) rfl)
theorem dgX12_path_2 : ∀ r ∈ ([(139, (.iconst 0, 1)), (140, (.istore 7, 2)), (142, (.iload 7, 2)), (144, (.ifCond .eq 8, 3)), (147, (.iload 6, 2)), (149, (.goto 5, 3)), (152, (.iload 5, 2)), (154, (.istore 5, 2)), (156, (.iinc 6 (-1), 3)), (159, (.goto (-121), 3)), (162, (.iload 5, 2)), (164, (.iconst (-1), 1)), (165, (.if_icmp .ne 5, 3)), (168, (.iconst (-1), 1)), (169, (.ireturn, 1)), (170, (.iload 5, 2)), (172, (.istore_n 2, 1)), (173, (.iload_n 3, 1)), (174, (.aload_n 0, 1)), (175, (.getfield 95, 3)), (178, (.bipush 64, 2)), (180, (.iload 4, 2)), (182, (.imul, 1)), (183, (.iload_n 2, 1)), (184, (.iadd, 1)), (185, (.iaload, 1)), (186, (.ior, 1)), (187, (.istore_n 3, 1)), (188, (.iinc 4 1, 3)), (191, (.goto (-166), 3)), (194, (.iload_n 2, 1)), (195, (.ireturn, 1))] : List (Nat × (Instr × Nat))), decode cX12_path r.1 = .ok r.2 := by decide +kernel
theorem dX12_path_139 : decode cX12_path 139 = .ok (.iconst 0, 1) := dgX12_path_2 (139, (.iconst 0, 1)) (List.mem_of_getElem? (i := 0) rfl)
theorem dX12_path_140 : decode cX12_path 140 = .ok (.istore 7, 2) := dgX12_path_2 (140, (.istore 7, 2)) (List.mem_of_getElem? (i := 1) rfl)
theorem dX12_path_142 : decode cX12_path 142 = .ok (.iload 7, 2) := dgX12_path_2 (142, (.iload 7, 2)) (List.mem_of_getElem? (i := 2) rfl)
theorem dX12_path_144 : decode cX12_path 144 = .ok (.ifCond .eq 8, 3) := dgX12_path_2 (144, (.ifCond .eq 8, 3)) (List.mem_of_getElem? (i := 3) rfl)
theorem dX12_path_147 : decode cX12_path 147 = .ok (.iload 6, 2) := dgX12_path_2 (147, (.iload 6, 2)) (List.mem_of_getElem? (i := 4) rfl)
theorem dX12_path_149 : decode cX12_path 149 = .ok (.goto 5, 3) := dgX12_path_2 (149, (.goto 5, 3)) (List.mem_of_getElem? (i := 5) rfl)
theorem dX12_path_152 : decode cX12_path 152 = .ok (.iload 5, 2) := dgX12_path_2 (152, (.iload 5, 2)) (List.mem_of_getElem? (i := 6) rfl)
theorem dX12_path_154 : decode cX12_path 154 = .ok (.istore 5, 2) := dgX12_path_2 (154, (.istore 5, 2)) (List.mem_of_getElem? (i := 7) rfl)
theorem dX12_path_156 : decode cX12_path 156 = .ok (.iinc 6 (-1), 3) := dgX12_path_2 (156, (.iinc 6 (-1), 3)) (List.mem_of_getElem? (i := 8) rfl)
theorem dX12_path_159 : decode cX12_path 159 = .ok (.goto (-121), 3) := dgX12_path_2 (159, (.goto (-121), 3)) (List.mem_of_getElem? (i := 9) rfl)
theorem dX12_path_162 : decode cX12_path 162 = .ok (.iload 5, 2) := dgX12_path_2 (162, (.iload 5, 2)) (List.mem_of_getElem? (i := 10) rfl)
theorem dX12_path_164 : decode cX12_path 164 = .ok (.iconst (-1), 1) := dgX12_path_2 (164, (.iconst (-1), 1)) (List.mem_of_getElem? (i := 11) rfl)
theorem dX12_path_165 : decode cX12_path 165 = .ok (.if_icmp .ne 5, 3) := dgX12_path_2 (165, (.if_icmp .ne 5, 3)) (List.mem_of_getElem? (i := 12) rfl)
theorem dX12_path_168 : decode cX12_path 168 = .ok (.iconst (-1), 1) := dgX12_path_2 (168, (.iconst (-1), 1)) (List.mem_of_getElem? (i := 13) rfl)
theorem dX12_path_169 : decode cX12_path 169 = .ok (.ireturn, 1) := dgX12_path_2 (169, (.ireturn, 1)) (List.mem_of_getElem? (i := 14) rfl)
theorem dX12_path_170 : decode cX12_path 170 = .ok (.iload 5, 2) := dgX12_path_2 (170, (.iload 5, 2)) (List.mem_of_getElem? (i := 15) rfl)
theorem dX12_path_172 : decode cX12_path 172 = .ok (.istore_n 2, 1) := dgX12_path_2 (172, (.istore_n 2, 1)) (List.mem_of_getElem? (i := 16) rfl)
theorem dX12_path_173 : decode cX12_path 173 = .ok (.iload_n 3, 1) := dgX12_path_2 (173, (.iload_n 3, 1)) (List.mem_of_getElem? (i := 17) rfl)
theorem dX12_path_174 : decode cX12_path 174 = .ok (.aload_n 0, 1) := dgX12_path_2 (174, (.aload_n 0, 1)) (List.mem_of_getElem? (i := 18) rfl)
theorem dX12_path_175 : decode cX12_path 175 = .ok (.getfield 95, 3) := dgX12_path_2 (175, (.getfield 95, 3)) (List.mem_of_getElem? (i := 19) rfl)
theorem dX12_path_178 : decode cX12_path 178 = .ok (.bipush 64, 2) := dgX12_path_2 (178, (.bipush 64, 2)) (List.mem_of_getElem? (i := 20) rfl)
theorem dX12_path_180 : decode cX12_path 180 = .ok (.iload 4, 2) := dgX12_path_2 (180, (.iload 4, 2)) (List.mem_of_getElem? (i := 21) rfl)
theorem dX12_path_182 : decode cX12_path 182 = .ok (.imul, 1) := dgX12_path_2 (182, (.imul, 1)) (List.mem_of_getElem? (i := 22) rfl)
theorem dX12_path_183 : decode cX12_path 183 = .ok (.iload_n 2, 1) := dgX12_path_2 (183, (.iload_n 2, 1)) (List.mem_of_getElem? (i := 23) rfl)
theorem dX12_path_184 : decode cX12_path 184 = .ok (.iadd, 1) := dgX12_path_2 (184, (.iadd, 1)) (List.mem_of_getElem? (i := 24) rfl)
theorem dX12_path_185 : decode cX12_path 185 = .ok (.iaload, 1) := dgX12_path_2 (185, (.iaload, 1)) (List.mem_of_getElem? (i := 25) rfl)
theorem dX12_path_186 : decode cX12_path 186 = .ok (.ior, 1) := dgX12_path_2 (186, (.ior, 1)) (List.mem_of_getElem? (i := 26) rfl)
theorem dX12_path_187 : decode cX12_path 187 = .ok (.istore_n 3, 1) := dgX12_path_2 (187, (.istore_n 3, 1)) (List.mem_of_getElem? (i := 27) rfl)
theorem dX12_path_188 : decode cX12_path 188 = .ok (.iinc 4 1, 3) := dgX12_path_2 (188, (.iinc 4 1, 3)) (List.mem_of_getElem? (i := 28) rfl)
theorem dX12_path_191 : decode cX12_path 191 = .ok (.goto (-166), 3) := dgX12_path_2 (191, (.goto (-166), 3)) (List.mem_of_getElem? (i := 29) rfl)
theorem dX12_path_194 : decode cX12_path 194 = .ok (.iload_n 2, 1) := dgX12_path_2 (194, (.iload_n 2, 1)) (List.mem_of_getElem? (i := 30) rfl)
theorem dX12_path_195 : decode cX12_path 195 = .ok (.ireturn, 1) := dgX12_path_2 (195, (.ireturn, 1)) (List.mem_of_getElem? (i := 31) rfl)
set_option maxHeartbeats 4000000 in
set_option maxRecDepth 100000 in
theorem n_pathP (l : Launch) (G : g5_G) (b_o b_ro b_se b_re b_pt b_ah b_be b_me b_rf b_im b_ke b_tp b_nl b_op b_ar b_pi b_pa b_ws b_hw b_ip b_tr b_ld b_wn : Nat) (sz : Nat) (u_th : Int32) (u_sa : Int32) (u_fd : Int32) (u_td : Int32) (u_fr : Int32) (u_to : Int32) (u_so : Int32) (u_fa : Int32) (u_bd : Int32) (u_nc : Int32) (u_co : Int32) (u_le : Int32) (u_pd : Int32) (u_od : Int32) (u_la : Int32) (u_bk : Int32) (u_ce : Int32) (u_ho : Int32) (u_wy : Int32) (u_bt : Int32) (u_ps : Int32) (u_tg : Int32) (u_sn : Int32) (u_ic : Int32) (u_wd : Int32) (u_id : Int32) (p_1 : Int32) (u_wo : Int64) (u_va : Int64) (u_su : Int64) (u_st : Int64) (v_ro : Nat → Int32) (v_se : Nat → Int64) (v_re : Nat → Int64) (v_pt : Nat → Int32) (v_ah : Nat → Int64) (v_be : Nat → Int64) (v_me : Nat → Int32) (h_u_td : 0 ≤ u_td.toInt ∧ u_td.toInt ≤ 400) (h_u_fr : 0 ≤ u_fr.toInt ∧ u_fr.toInt ≤ 400) (h_u_to : 0 ≤ u_to.toInt ∧ u_to.toInt ≤ 400) (h_u_bd : 0 ≤ u_bd.toInt ∧ u_bd.toInt ≤ 1) (h_u_nc : 0 ≤ u_nc.toInt ∧ u_nc.toInt ≤ 12) (h_u_co : 0 ≤ u_co.toInt ∧ u_co.toInt ≤ 400) (h_u_pd : 0 ≤ u_pd.toInt ∧ u_pd.toInt ≤ 400) (h_u_la : 0 ≤ u_la.toInt ∧ u_la.toInt ≤ 4840) (h_u_bk : 0 ≤ u_bk.toInt ∧ u_bk.toInt ≤ 1) (h_u_ce : 0 ≤ u_ce.toInt ∧ u_ce.toInt ≤ 63) (h_u_ho : 0 ≤ u_ho.toInt ∧ u_ho.toInt ≤ 23) (h_u_wy : 0 ≤ u_wy.toInt ∧ u_wy.toInt ≤ 3) (h_u_bt : 0 ≤ u_bt.toInt ∧ u_bt.toInt ≤ 1000000) (h_u_ps : 0 ≤ u_ps.toInt ∧ u_ps.toInt ≤ 200) (h_u_ic : 0 ≤ u_ic.toInt ∧ u_ic.toInt ≤ 1) (h_u_id : 0 ≤ u_id.toInt ∧ u_id.toInt ≤ 1) (r_ro : MI v_ro) (r_pt : PTI v_pt) (r_me : MEI v_me) (e_ah : AH0 v_ah v_me) : Met l yX12_path (wsG yX12_path cX12_path 8 (some .int)) ({ frames := 10, cells := 0, slots := 0, locals := 251 }) (va_Pc [.ref b_o, .int p_1] (g5_P G [(b_o, (oc12 u_th u_sa b_rf b_ro b_im b_ke u_fd b_tp u_td u_fr u_to u_so u_wo u_fa u_bd u_nc b_nl u_co b_op b_ar u_le b_pi b_pa u_pd u_od b_ws b_hw u_la b_se b_re u_bk u_va u_su u_ce u_ho u_wy u_bt u_ps b_pt u_tg u_sn b_ip u_ic b_ah b_be b_me u_wd b_tr b_ld u_st b_wn u_id)), (b_ro, (arI G 5740 v_ro)), (b_se, (arJ G 13 v_se)), (b_re, (arJ G 400 v_re)), (b_pt, (arI G 200 v_pt)), (b_ah, (arJ G 49152 v_ah)), (b_be, (arJ G 49152 v_be)), (b_me, (arI G 1536 v_me))] sz)) (va_Qi (fun (r : Int32) (u : va_W) => (∃ (o_r : Int32) (o_th : Int32) (o_la : Int32) (o_bk : Int32) (o_va : Int64) (o_su : Int64) (o_ce : Int32) (o_ho : Int32) (o_wy : Int32) (o_bt : Int32) (o_ps : Int32) (o_tg : Int32) (o_sn : Int32) (o_ic : Int32) (o_wd : Int32) (o_se : Nat → Int64) (o_re : Nat → Int64) (o_pt : Nat → Int32) (o_ah : Nat → Int64) (o_be : Nat → Int64) (o_me : Nat → Int32), (0 ≤ o_la.toInt ∧ o_la.toInt ≤ 4840) ∧ (0 ≤ o_bk.toInt ∧ o_bk.toInt ≤ 1) ∧ (0 ≤ o_ce.toInt ∧ o_ce.toInt ≤ 63) ∧ (0 ≤ o_ho.toInt ∧ o_ho.toInt ≤ 23) ∧ (0 ≤ o_wy.toInt ∧ o_wy.toInt ≤ 3) ∧ (0 ≤ o_bt.toInt ∧ o_bt.toInt ≤ 1000000) ∧ (0 ≤ o_ps.toInt ∧ o_ps.toInt ≤ 200) ∧ (PTI o_pt) ∧ (0 ≤ o_ic.toInt ∧ o_ic.toInt ≤ 1) ∧ (MEI o_me) ∧ (AH0 o_ah o_me) ∧ (r = o_r) ∧ (u = [(b_o, (oc12 o_th u_sa b_rf b_ro b_im b_ke u_fd b_tp u_td u_fr u_to u_so u_wo u_fa u_bd u_nc b_nl u_co b_op b_ar u_le b_pi b_pa u_pd u_od b_ws b_hw o_la b_se b_re o_bk o_va o_su o_ce o_ho o_wy o_bt o_ps b_pt o_tg o_sn b_ip o_ic b_ah b_be b_me o_wd b_tr b_ld u_st b_wn u_id)), (b_ro, (arI G 5740 v_ro)), (b_se, (arJ G 13 o_se)), (b_re, (arJ G 400 o_re)), (b_pt, (arI G 200 o_pt)), (b_ah, (arJ G 49152 o_ah)), (b_be, (arJ G 49152 o_be)), (b_me, (arI G 1536 o_me))]))) (g5_B G (va_A [(b_o, (oc12 u_th u_sa b_rf b_ro b_im b_ke u_fd b_tp u_td u_fr u_to u_so u_wo u_fa u_bd u_nc b_nl u_co b_op b_ar u_le b_pi b_pa u_pd u_od b_ws b_hw u_la b_se b_re u_bk u_va u_su u_ce u_ho u_wy u_bt u_ps b_pt u_tg u_sn b_ip u_ic b_ah b_be b_me u_wd b_tr b_ld u_st b_wn u_id)), (b_ro, (arI G 5740 v_ro)), (b_se, (arJ G 13 v_se)), (b_re, (arJ G 400 v_re)), (b_pt, (arI G 200 v_pt)), (b_ah, (arJ G 49152 v_ah)), (b_be, (arJ G 49152 v_be)), (b_me, (arI G 1536 v_me))] sz)) (va_A [(b_o, (oc12 u_th u_sa b_rf b_ro b_im b_ke u_fd b_tp u_td u_fr u_to u_so u_wo u_fa u_bd u_nc b_nl u_co b_op b_ar u_le b_pi b_pa u_pd u_od b_ws b_hw u_la b_se b_re u_bk u_va u_su u_ce u_ho u_wy u_bt u_ps b_pt u_tg u_sn b_ip u_ic b_ah b_be b_me u_wd b_tr b_ld u_st b_wn u_id)), (b_ro, (arI G 5740 v_ro)), (b_se, (arJ G 13 v_se)), (b_re, (arJ G 400 v_re)), (b_pt, (arI G 200 v_pt)), (b_ah, (arJ G 49152 v_ah)), (b_be, (arJ G 49152 v_be)), (b_me, (arI G 1536 v_me))] sz)) 0 0 (va_A [(b_o, (oc12 u_th u_sa b_rf b_ro b_im b_ke u_fd b_tp u_td u_fr u_to u_so u_wo u_fa u_bd u_nc b_nl u_co b_op b_ar u_le b_pi b_pa u_pd u_od b_ws b_hw u_la b_se b_re u_bk u_va u_su u_ce u_ho u_wy u_bt u_ps b_pt u_tg u_sn b_ip u_ic b_ah b_be b_me u_wd b_tr b_ld u_st b_wn u_id)), (b_ro, (arI G 5740 v_ro)), (b_se, (arJ G 13 v_se)), (b_re, (arJ G 400 v_re)), (b_pt, (arI G 200 v_pt)), (b_ah, (arJ G 49152 v_ah)), (b_be, (arJ G 49152 v_be)), (b_me, (arI G 1536 v_me))] sz) := by
  refine Met.ofW (cc := cX12_path) (maxL := 8) (ret := (some .int)) (by decide +kernel) rfl ?_
  intro p e s m args below meth c s₁ B hml hv
  obtain ⟨rfl, hsz, hP, hK, hD0, hN, hT⟩ := hv
  have hx := B.exec
  have hb := B.bytes
  have hr := B.returns
  have hts : ∀ w ∈ tblG, w.before _ s = true := fun w h => atoms_spec (ws := (wsG yX12_path cX12_path 8 (some .int))) B.pre w (List.mem_cons_of_mem _ h)
  have hown : s.vm.findClass RX12 = some m.cls := findClass_of_methodNamed B.named
  have hlocks := B.notSynchronized
  subst hsz
  have hD := hD0.self (sz := s.heap.size)
  generalize hAe : va_A [(b_o, (oc12 u_th u_sa b_rf b_ro b_im b_ke u_fd b_tp u_td u_fr u_to u_so u_wo u_fa u_bd u_nc b_nl u_co b_op b_ar u_le b_pi b_pa u_pd u_od b_ws b_hw u_la b_se b_re u_bk u_va u_su u_ce u_ho u_wy u_bt u_ps b_pt u_tg u_sn b_ip u_ic b_ah b_be b_me u_wd b_tr b_ld u_st b_wn u_id)), (b_ro, (arI G 5740 v_ro)), (b_se, (arJ G 13 v_se)), (b_re, (arJ G 400 v_re)), (b_pt, (arI G 200 v_pt)), (b_ah, (arJ G 49152 v_ah)), (b_be, (arJ G 49152 v_be)), (b_me, (arI G 1536 v_me))] s.heap.size = A at hD hT ⊢
  have hA : ∀ q : Nat, s.heap.size ≤ q → A q := fun q h => by rw [← hAe]; exact Or.inr h
  have hS : va_S A s.heap s.heap [] := va_S.rf
  replace hP : va_P G.1 vwCl [(b_o, (oc12 u_th u_sa b_rf b_ro b_im b_ke u_fd b_tp u_td u_fr u_to u_so u_wo u_fa u_bd u_nc b_nl u_co b_op b_ar u_le b_pi b_pa u_pd u_od b_ws b_hw u_la b_se b_re u_bk u_va u_su u_ce u_ho u_wy u_bt u_ps b_pt u_tg u_sn b_ip u_ic b_ah b_be b_me u_wd b_tr b_ld u_st b_wn u_id)), (b_ro, (arI G 5740 v_ro)), (b_se, (arJ G 13 v_se)), (b_re, (arJ G 400 v_re)), (b_pt, (arI G 200 v_pt)), (b_ah, (arJ G 49152 v_ah)), (b_be, (arJ G 49152 v_be)), (b_me, (arI G 1536 v_me))] s.heap := hP
  have hl := lv_entry ([.ref b_o, .int p_1]) (n := 8) (Nat.le_of_ble_eq_true rfl)
  rw [lg_entry_eq]
  generalize (lg_sl ([.ref b_o, .int p_1]) ++ List.replicate (8 - (lg_sl ([.ref b_o, .int p_1])).length) Slot.unset).toArray = ls at hl ⊢
  replace hl : lv_has ls 8 [(0, .ref b_o), (1, .int p_1)] := hl
  refine lv_aload_n hx hb dX12_path_0 rfl (lv_at hl 0 rfl) ?_
  refine lv_iconst (v := 0) hx hb dX12_path_1 (by decide +kernel) ?_
  refine va_put (D := G.1) (ci := 12) (v := .int 0) (ty := .int) (C := RX12) (T := TX12) (N := 52) hx hb hts inG_X12 tyX12 tyX12_ok nmX12 hown hK hP hD hS 0 rfl rfl 0 (by decide +kernel) (hts _ fl_X12_107) (fun _ h9 => h9) rfl (by decide +kernel) rfl rfl (Nat.le_of_ble_eq_true rfl) dX12_path_2 ?_
  clear hP hD hS
  intro H locs hP hD hS
  refine g5_rs [(b_o, (oc12 0 u_sa b_rf b_ro b_im b_ke u_fd b_tp u_td u_fr u_to u_so u_wo u_fa u_bd u_nc b_nl u_co b_op b_ar u_le b_pi b_pa u_pd u_od b_ws b_hw u_la b_se b_re u_bk u_va u_su u_ce u_ho u_wy u_bt u_ps b_pt u_tg u_sn b_ip u_ic b_ah b_be b_me u_wd b_tr b_ld u_st b_wn u_id)), (b_ro, (arI G 5740 v_ro)), (b_se, (arJ G 13 v_se)), (b_re, (arJ G 400 v_re)), (b_pt, (arI G 200 v_pt)), (b_ah, (arJ G 49152 v_ah)), (b_be, (arJ G 49152 v_be)), (b_me, (arI G 1536 v_me))] hP hD ?_
  clear hP hD
  intro hP hD
  refine lv_iload_n hx hb dX12_path_5 rfl (lv_at hl 1 rfl) ?_
  refine W.eq (g2 := F0 m 6 ls [.int p_1]) rfl ?_
  obtain ⟨hPc, hDc, hFc⟩ := g5_sub3 (wc := []) hP hD hS hA [] (by decide +kernel) rfl
  refine va_calli (va_runS (As := [.int p_1]) (rest := []) ⟨hx, hb, hml, hown, hts⟩ (n_isHour l G H.size p_1) (va_cwS 1 hts gS_X12_175 rfl rfl rfl hs_X12_isHour ⟨Nat.le_of_ble_eq_true rfl, Nat.le_of_ble_eq_true rfl⟩) (g5_preS hPc hK hDc hN hT hS hFc) rfl rfl hl.1 rfl (lv_room (Nat.le_of_ble_eq_true rfl)) dX12_path_6 ⟨Nat.le_of_ble_eq_true rfl, Nat.le_of_ble_eq_true rfl⟩) hS (fun q _ h => hFc q h) hFc (fun r u t H locs ht hvm hw hB hz1 hk1 hS => ?_)
  obtain ⟨hP1, hD1⟩ := hB
  have hP1 := g5_ht ht hP1
  rcases hw with ⟨(i_1 : 0 ≤ p_1.toInt ∧ p_1.toInt ≤ 23), rfl, rfl⟩ | ⟨rfl, rfl⟩
  ·
    have hJ9 := g5_same hP hk1
    clear hP hPc hDc hFc ht hvm hz1 hk1 hP1 hD1
    have hP := hJ9
    clear hJ9
    refine lv_if_ne (tgt := 14) hx hb dX12_path_9 (by decide +kernel) (fun c_2 => ?_) (fun c_2 => ?_)
    ·
      refine lv_aload_n hx hb dX12_path_14 rfl (lv_at hl 0 rfl) ?_
      obtain ⟨hPc, hDc, hFc⟩ := g5_sub3 (wc := [(b_o, (oc12 0 u_sa b_rf b_ro b_im b_ke u_fd b_tp u_td u_fr u_to u_so u_wo u_fa u_bd u_nc b_nl u_co b_op b_ar u_le b_pi b_pa u_pd u_od b_ws b_hw u_la b_se b_re u_bk u_va u_su u_ce u_ho u_wy u_bt u_ps b_pt u_tg u_sn b_ip u_ic b_ah b_be b_me u_wd b_tr b_ld u_st b_wn u_id)), (b_ro, (arI G 5740 v_ro)), (b_se, (arJ G 13 v_se)), (b_re, (arJ G 400 v_re)), (b_pt, (arI G 200 v_pt)), (b_ah, (arJ G 49152 v_ah)), (b_be, (arJ G 49152 v_be)), (b_me, (arI G 1536 v_me))]) hP hD hS hA [0, 1, 2, 3, 4, 5, 6, 7] (by decide +kernel) rfl
      refine va_callv (va_runV (As := []) (rest := []) ⟨hx, hb, hml, hown, hts⟩ (n_countRowsP l G b_o b_ro b_se b_re b_pt b_ah b_be b_me b_rf b_im b_ke b_tp b_nl b_op b_ar b_pi b_pa b_ws b_hw b_ip b_tr b_ld b_wn H.size 0 u_sa u_fd u_td u_fr u_to u_so u_fa u_bd u_nc u_co u_le u_pd u_od u_la u_bk u_ce u_ho u_wy u_bt u_ps u_tg u_sn u_ic u_wd u_id u_wo u_va u_su u_st v_ro v_se v_re v_pt v_ah v_be v_me h_u_td h_u_fr h_u_to h_u_bd h_u_nc h_u_co h_u_pd h_u_la h_u_bk h_u_ce h_u_ho h_u_wy h_u_bt h_u_ps h_u_ic h_u_id (r_ro) (r_pt) (r_me) (e_ah)) (cwV 0 hts gV_X12_444 rfl rfl rfl hv_X12_countRows ⟨Nat.le_of_ble_eq_true rfl, Nat.le_of_ble_eq_true rfl⟩) (g5_preV hPc hK hDc hN hT hS hFc (ci := 12) (q0 := 0) rfl rfl) rfl rfl hl.1 rfl (lv_room (Nat.le_of_ble_eq_true rfl)) dX12_path_15 ⟨Nat.le_of_ble_eq_true rfl, Nat.le_of_ble_eq_true rfl⟩) hS (fun q _ h => hFc q h) hFc (fun u t H locs ht hvm hw hB hz1 hk1 hS => ?_)
      obtain ⟨hP1, hD1⟩ := hB
      have hP1 := g5_ht ht hP1
      obtain ⟨z14, z15, z16, z17, z18, z19, z20, z21, z22, z23, z24, z25, z26, z27, z28, z29, z30, z31, z32, (i_3 : 0 ≤ z14.toInt ∧ z14.toInt ≤ 4840), (i_4 : 0 ≤ z15.toInt ∧ z15.toInt ≤ 1), (i_5 : 0 ≤ z18.toInt ∧ z18.toInt ≤ 63), (i_6 : 0 ≤ z19.toInt ∧ z19.toInt ≤ 23), (i_7 : 0 ≤ z20.toInt ∧ z20.toInt ≤ 3), (i_8 : 0 ≤ z21.toInt ∧ z21.toInt ≤ 1000000), (i_9 : 0 ≤ z22.toInt ∧ z22.toInt ≤ 200), (i_10 : PTI z29), (i_11 : 0 ≤ z25.toInt ∧ z25.toInt ≤ 1), (i_12 : MEI z32), (i_13 : AH0 z30 z32), rfl⟩ := hw
      have hJ9 := va_join (wr := []) hP hD [0, 1, 2, 3, 4, 5, 6, 7] [] rfl rfl (by decide +kernel) (by decide +kernel) hk1 hFc hP1 hD1
      clear hP hD hPc hDc hFc ht hvm hz1 hk1 hP1 hD1
      obtain ⟨hP, hD⟩ := hJ9
      refine g5_rs [(b_o, (oc12 0 u_sa b_rf b_ro b_im b_ke u_fd b_tp u_td u_fr u_to u_so u_wo u_fa u_bd u_nc b_nl u_co b_op b_ar u_le b_pi b_pa u_pd u_od b_ws b_hw z14 b_se b_re z15 z16 z17 z18 z19 z20 z21 z22 b_pt z23 z24 b_ip z25 b_ah b_be b_me z26 b_tr b_ld u_st b_wn u_id)), (b_ro, (arI G 5740 v_ro)), (b_se, (arJ G 13 z27)), (b_re, (arJ G 400 z28)), (b_pt, (arI G 200 z29)), (b_ah, (arJ G 49152 z30)), (b_be, (arJ G 49152 z31)), (b_me, (arI G 1536 z32))] hP hD ?_
      clear hP hD
      intro hP hD
      refine lv_iconst (v := (-1)) hx hb dX12_path_18 (by decide +kernel) ?_
      refine lv_istore_n (lv' := [(2, .int (-1)), (0, .ref b_o), (1, .int p_1)]) hx hb dX12_path_19 rfl hl (by decide +kernel) rfl ?_
      clear hl
      intro ls hl
      refine W.eq (g2 := F0 m 20 ls []) rfl ?_
      refine lv_iconst (v := 0) hx hb dX12_path_20 (by decide +kernel) ?_
      refine lv_istore_n (lv' := [(3, .int 0), (2, .int (-1)), (0, .ref b_o), (1, .int p_1)]) hx hb dX12_path_21 rfl hl (by decide +kernel) rfl ?_
      clear hl
      intro ls hl
      refine lv_iconst (v := 0) hx hb dX12_path_22 (by decide +kernel) ?_
      refine lv_istore (lv' := [(4, .int 0), (3, .int 0), (2, .int (-1)), (0, .ref b_o), (1, .int p_1)]) hx hb dX12_path_23 hl (by decide +kernel) rfl ?_
      clear hl
      intro ls hl
      refine g5_loop (α := (Int32) × (Int32) × (Int32)) (fun (q : (Int32) × (Int32) × (Int32)) (ls : Array Slot) (H : Heap) (locs : List Loc) => match q with | (k25_4, k25_3, k25_2) => lv_has ls 8 [(2, .int k25_2), (3, .int k25_3), (4, .int k25_4), (0, .ref b_o), (1, .int p_1)] ∧ va_P G.1 vwCl [(b_o, (oc12 0 u_sa b_rf b_ro b_im b_ke u_fd b_tp u_td u_fr u_to u_so u_wo u_fa u_bd u_nc b_nl u_co b_op b_ar u_le b_pi b_pa u_pd u_od b_ws b_hw z14 b_se b_re z15 z16 z17 z18 z19 z20 z21 z22 b_pt z23 z24 b_ip z25 b_ah b_be b_me z26 b_tr b_ld u_st b_wn u_id)), (b_ro, (arI G 5740 v_ro)), (b_se, (arJ G 13 z27)), (b_re, (arJ G 400 z28)), (b_pt, (arI G 200 z29)), (b_ah, (arJ G 49152 z30)), (b_be, (arJ G 49152 z31)), (b_me, (arI G 1536 z32))] H ∧ va_D A [(b_o, (oc12 0 u_sa b_rf b_ro b_im b_ke u_fd b_tp u_td u_fr u_to u_so u_wo u_fa u_bd u_nc b_nl u_co b_op b_ar u_le b_pi b_pa u_pd u_od b_ws b_hw z14 b_se b_re z15 z16 z17 z18 z19 z20 z21 z22 b_pt z23 z24 b_ip z25 b_ah b_be b_me z26 b_tr b_ld u_st b_wn u_id)), (b_ro, (arI G 5740 v_ro)), (b_se, (arJ G 13 z27)), (b_re, (arJ G 400 z28)), (b_pt, (arI G 200 z29)), (b_ah, (arJ G 49152 z30)), (b_be, (arJ G 49152 z31)), (b_me, (arI G 1536 z32))] ∧ va_S A s.heap H locs ∧ (0 ≤ k25_4.toInt ∧ k25_4.toInt ≤ 24) ∧ (0 ≤ k25_3.toInt ∧ k25_3.toInt ≤ 31) ∧ ((-1) ≤ k25_2.toInt ∧ k25_2.toInt ≤ 63)) (fun (q : (Int32) × (Int32) × (Int32)) => match q with | (k25_4, k25_3, k25_2) => Int.toNat (24 - k25_4.toInt)) (0, 0, (-1)) ⟨lv_sub hl [2, 1, 0, 3, 4] rfl, hP, hD, hS, ⟨by decide, by decide⟩, ⟨by decide, by decide⟩, ⟨by decide, by decide⟩⟩ ?_
      rintro ⟨k25_4, k25_3, k25_2⟩ ls H locs ⟨hl, hP, hD, hS, (i_33 : 0 ≤ k25_4.toInt ∧ k25_4.toInt ≤ 24), (i_34 : 0 ≤ k25_3.toInt ∧ k25_3.toInt ≤ 31), (i_35 : (-1) ≤ k25_2.toInt ∧ k25_2.toInt ≤ 63)⟩ ih_25_36
      replace hl : lv_has ls 8 [(2, .int k25_2), (3, .int k25_3), (4, .int k25_4), (0, .ref b_o), (1, .int p_1)] := hl
      refine g5_rs [(b_o, (oc12 0 u_sa b_rf b_ro b_im b_ke u_fd b_tp u_td u_fr u_to u_so u_wo u_fa u_bd u_nc b_nl u_co b_op b_ar u_le b_pi b_pa u_pd u_od b_ws b_hw z14 b_se b_re z15 z16 z17 z18 z19 z20 z21 z22 b_pt z23 z24 b_ip z25 b_ah b_be b_me z26 b_tr b_ld u_st b_wn u_id)), (b_ro, (arI G 5740 v_ro)), (b_se, (arJ G 13 z27)), (b_re, (arJ G 400 z28)), (b_pt, (arI G 200 z29)), (b_ah, (arJ G 49152 z30)), (b_be, (arJ G 49152 z31)), (b_me, (arI G 1536 z32))] hP hD ?_
      clear hP hD
      intro hP hD
      refine lv_iload hx hb dX12_path_25 (lv_at hl 2 rfl) ?_
      refine lv_iload_n hx hb dX12_path_27 rfl (lv_at hl 4 rfl) ?_
      refine lv_icmp_gt (tgt := 194) hx hb dX12_path_28 (by decide +kernel) (fun c_37 => ?_) (fun c_37 => ?_)
      ·
        have i_37 : k25_4.toInt > p_1.toInt := g5_gt (a := k25_4.toInt) (b := p_1.toInt) rfl rfl c_37
        refine lv_iload_n hx hb dX12_path_194 rfl (lv_at hl 0 rfl) ?_
        exact W.iret (v := k25_2) hx hb hr (fun t ht hW => ⟨⟨k25_2, [(b_o, (oc12 0 u_sa b_rf b_ro b_im b_ke u_fd b_tp u_td u_fr u_to u_so u_wo u_fa u_bd u_nc b_nl u_co b_op b_ar u_le b_pi b_pa u_pd u_od b_ws b_hw z14 b_se b_re z15 z16 z17 z18 z19 z20 z21 z22 b_pt z23 z24 b_ip z25 b_ah b_be b_me z26 b_tr b_ld u_st b_wn u_id)), (b_ro, (arI G 5740 v_ro)), (b_se, (arJ G 13 z27)), (b_re, (arJ G 400 z28)), (b_pt, (arI G 200 z29)), (b_ah, (arJ G 49152 z30)), (b_be, (arJ G 49152 z31)), (b_me, (arI G 1536 z32))], rfl, ⟨k25_2, 0, z14, z15, z16, z17, z18, z19, z20, z21, z22, z23, z24, z25, z26, z27, z28, z29, z30, z31, z32, i_3, i_4, i_5, i_6, i_7, i_8, i_9, i_10, i_11, i_12, i_13, rfl, rfl⟩, by rw [ht]; exact hP.sub [0, 1, 2, 3, 4, 5, 6, 7] rfl, hD.sub [0, 1, 2, 3, 4, 5, 6, 7] (by decide +kernel) rfl⟩, hS.F ht⟩) hS.2.2 dX12_path_195
      ·
        have i_37 : k25_4.toInt ≤ p_1.toInt := g5_gtN (a := k25_4.toInt) (b := p_1.toInt) rfl rfl c_37
        refine lv_iconst (v := (-1)) hx hb dX12_path_31 (by decide +kernel) ?_
        refine lv_istore (lv' := [(5, .int (-1)), (2, .int k25_2), (3, .int k25_3), (4, .int k25_4), (0, .ref b_o), (1, .int p_1)]) hx hb dX12_path_32 hl (by decide +kernel) rfl ?_
        clear hl
        intro ls hl
        refine lv_bipush (v := 63) hx hb dX12_path_34 (by decide +kernel) ?_
        refine lv_istore (lv' := [(6, .int 63), (5, .int (-1)), (2, .int k25_2), (3, .int k25_3), (4, .int k25_4), (0, .ref b_o), (1, .int p_1)]) hx hb dX12_path_36 hl (by decide +kernel) rfl ?_
        clear hl
        intro ls hl
        refine g5_loop (α := (Int32) × (Int32)) (fun (q : (Int32) × (Int32)) (ls : Array Slot) (H : Heap) (locs : List Loc) => match q with | (k38_6, k38_5) => lv_has ls 8 [(5, .int k38_5), (6, .int k38_6), (2, .int k25_2), (3, .int k25_3), (4, .int k25_4), (0, .ref b_o), (1, .int p_1)] ∧ va_P G.1 vwCl [(b_o, (oc12 0 u_sa b_rf b_ro b_im b_ke u_fd b_tp u_td u_fr u_to u_so u_wo u_fa u_bd u_nc b_nl u_co b_op b_ar u_le b_pi b_pa u_pd u_od b_ws b_hw z14 b_se b_re z15 z16 z17 z18 z19 z20 z21 z22 b_pt z23 z24 b_ip z25 b_ah b_be b_me z26 b_tr b_ld u_st b_wn u_id)), (b_ro, (arI G 5740 v_ro)), (b_se, (arJ G 13 z27)), (b_re, (arJ G 400 z28)), (b_pt, (arI G 200 z29)), (b_ah, (arJ G 49152 z30)), (b_be, (arJ G 49152 z31)), (b_me, (arI G 1536 z32))] H ∧ va_D A [(b_o, (oc12 0 u_sa b_rf b_ro b_im b_ke u_fd b_tp u_td u_fr u_to u_so u_wo u_fa u_bd u_nc b_nl u_co b_op b_ar u_le b_pi b_pa u_pd u_od b_ws b_hw z14 b_se b_re z15 z16 z17 z18 z19 z20 z21 z22 b_pt z23 z24 b_ip z25 b_ah b_be b_me z26 b_tr b_ld u_st b_wn u_id)), (b_ro, (arI G 5740 v_ro)), (b_se, (arJ G 13 z27)), (b_re, (arJ G 400 z28)), (b_pt, (arI G 200 z29)), (b_ah, (arJ G 49152 z30)), (b_be, (arJ G 49152 z31)), (b_me, (arI G 1536 z32))] ∧ va_S A s.heap H locs ∧ ((-1) ≤ k38_6.toInt ∧ k38_6.toInt ≤ 63) ∧ ((-1) ≤ k38_5.toInt ∧ k38_5.toInt ≤ 63) ∧ (k38_5.toInt = -1 ∨ (z32 (64 * k25_4.toInt + k38_5.toInt).toNat).toInt < 64)) (fun (q : (Int32) × (Int32)) => match q with | (k38_6, k38_5) => Int.toNat (k38_6.toInt + 1)) (63, (-1)) ⟨lv_sub hl [1, 0, 2, 3, 4, 5, 6] rfl, hP, hD, hS, ⟨by decide, by decide⟩, ⟨by decide, by decide⟩, Or.inl (by decide +kernel)⟩ ?_
        rintro ⟨k38_6, k38_5⟩ ls H locs ⟨hl, hP, hD, hS, (i_38 : (-1) ≤ k38_6.toInt ∧ k38_6.toInt ≤ 63), (i_39 : (-1) ≤ k38_5.toInt ∧ k38_5.toInt ≤ 63), (i_40 : k38_5.toInt = -1 ∨ (z32 (64 * k25_4.toInt + k38_5.toInt).toNat).toInt < 64)⟩ ih_38_41
        replace hl : lv_has ls 8 [(5, .int k38_5), (6, .int k38_6), (2, .int k25_2), (3, .int k25_3), (4, .int k25_4), (0, .ref b_o), (1, .int p_1)] := hl
        refine g5_rs [(b_o, (oc12 0 u_sa b_rf b_ro b_im b_ke u_fd b_tp u_td u_fr u_to u_so u_wo u_fa u_bd u_nc b_nl u_co b_op b_ar u_le b_pi b_pa u_pd u_od b_ws b_hw z14 b_se b_re z15 z16 z17 z18 z19 z20 z21 z22 b_pt z23 z24 b_ip z25 b_ah b_be b_me z26 b_tr b_ld u_st b_wn u_id)), (b_ro, (arI G 5740 v_ro)), (b_se, (arJ G 13 z27)), (b_re, (arJ G 400 z28)), (b_pt, (arI G 200 z29)), (b_ah, (arJ G 49152 z30)), (b_be, (arJ G 49152 z31)), (b_me, (arI G 1536 z32))] hP hD ?_
        clear hP hD
        intro hP hD
        refine lv_iload hx hb dX12_path_38 (lv_at hl 1 rfl) ?_
        refine lv_if_lt (tgt := 162) hx hb dX12_path_40 (by decide +kernel) (fun c_42 => ?_) (fun c_42 => ?_)
        ·
          have i_42 : k38_6.toInt < 0 := g5_lt (a := k38_6.toInt) (b := 0) rfl (by decide +kernel) c_42
          refine lv_iload hx hb dX12_path_162 (lv_at hl 0 rfl) ?_
          refine lv_iconst (v := (-1)) hx hb dX12_path_164 (by decide +kernel) ?_
          refine lv_icmp_ne (tgt := 170) hx hb dX12_path_165 (by decide +kernel) (fun c_43 => ?_) (fun c_43 => ?_)
          ·
            have n_43 : gNe (k38_5.toInt) ((-1)) := g5_ne (a := k38_5.toInt) (b := (-1)) rfl (by decide +kernel) c_43
            have i_43 : k38_5.toInt ≥ 0 := by have z := g5_ne (a := k38_5.toInt) (b := (-1)) (by rfl) (by decide +kernel) c_43; omega
            refine lv_iload hx hb dX12_path_170 (lv_at hl 0 rfl) ?_
            refine lv_istore_n (lv' := [(2, .int k38_5), (5, .int k38_5), (6, .int k38_6), (3, .int k25_3), (4, .int k25_4), (0, .ref b_o), (1, .int p_1)]) hx hb dX12_path_172 rfl hl (by decide +kernel) rfl ?_
            clear hl
            intro ls hl
            refine lv_iload_n hx hb dX12_path_173 rfl (lv_at hl 3 rfl) ?_
            refine lv_aload_n hx hb dX12_path_174 rfl (lv_at hl 5 rfl) ?_
            refine W.eq (g2 := F0 m 175 ls [.ref b_o, .int k25_3]) rfl ?_
            refine va_get (D := G.1) (ci := 12) (v := .ref b_me) (C := RX12) (T := TX12) (N := 52) hx hb hts inG_X12 hown hK hP 0 rfl rfl 45 (by decide +kernel) (hts _ fl_X12_95) (fun _ h9 => h9) rfl dX12_path_175 ?_
            refine lv_bipush (v := 64) hx hb dX12_path_178 (by decide +kernel) ?_
            refine lv_iload hx hb dX12_path_180 (lv_at hl 4 rfl) ?_
            refine lv_imul hx hb dX12_path_182 ?_
            have t_44 : (64 * k25_4).toInt = 64 * k25_4.toInt := g5_imul (a := 64) (b := k25_4.toInt) (by decide +kernel) (by rfl) (by omega) (by omega)
            refine lv_iload_n hx hb dX12_path_183 rfl (lv_at hl 0 rfl) ?_
            refine W.eq (g2 := F0 m 184 ls [.int k38_5, .int (64 * k25_4), .ref b_me, .int k25_3]) rfl ?_
            refine lv_iadd hx hb dX12_path_184 ?_
            have t_45 : ((64 * k25_4) + k38_5).toInt = (64 * k25_4).toInt + k38_5.toInt := g5_iadd (a := (64 * k25_4).toInt) (b := k38_5.toInt) (by rfl) (by rfl) (by omega) (by omega)
            refine va_iald hx hb hK hP 7 0 rfl rfl (i := ((64 * k25_4) + k38_5)) (vp_in_iff.mpr ⟨by omega, by omega⟩) dX12_path_185 ?_
            have hr_46 : 0 ≤ (z32 ((64 * k25_4) + k38_5).toNatClampNeg).toInt ∧ ((z32 ((64 * k25_4) + k38_5).toNatClampNeg).toInt < 32 ∨ 64 ≤ (z32 ((64 * k25_4) + k38_5).toNatClampNeg).toInt) ∧ (z32 ((64 * k25_4) + k38_5).toNatClampNeg).toInt ≤ 127 := i_12 (((64 * k25_4) + k38_5).toNatClampNeg)
            have h64_47 : (z32 ((64 * k25_4) + k38_5).toNatClampNeg).toInt < 64 := by have e9 : ((64 * k25_4) + k38_5).toNatClampNeg = (64 * k25_4.toInt + k38_5.toInt).toNat := (by have zz := g5_clamp ((64 * k25_4) + k38_5); omega); rw [e9]; rcases i_40 with q | q; omega; exact q
            refine lv_ior hx hb dX12_path_186 ?_
            have ho_48 : 0 ≤ (k25_3 ||| (z32 ((64 * k25_4) + k38_5).toNatClampNeg)).toInt ∧ (k25_3 ||| (z32 ((64 * k25_4) + k38_5).toNatClampNeg)).toInt < 32 := me_low ⟨by omega, by omega⟩ ⟨by omega, by omega⟩
            refine lv_istore_n (lv' := [(3, .int (k25_3 ||| (z32 ((64 * k25_4) + k38_5).toNatClampNeg))), (2, .int k38_5), (5, .int k38_5), (6, .int k38_6), (4, .int k25_4), (0, .ref b_o), (1, .int p_1)]) hx hb dX12_path_187 rfl hl (by decide +kernel) rfl ?_
            clear hl
            intro ls hl
            refine lv_iinc (v := (k25_4 + 1)) (lv' := [(4, .int (k25_4 + 1)), (3, .int (k25_3 ||| (z32 ((64 * k25_4) + k38_5).toNatClampNeg))), (2, .int k38_5), (5, .int k38_5), (6, .int k38_6), (0, .ref b_o), (1, .int p_1)]) hx hb dX12_path_188 hl (k := 4) rfl rfl (by decide +kernel) rfl ?_
            clear hl
            intro ls hl
            have t_49 : (k25_4 + 1).toInt = k25_4.toInt + 1 := g5_iadd (a := k25_4.toInt) (b := 1) rfl (by decide +kernel) (by omega) (by omega)
            refine W.eq (g2 := F0 m 191 ls []) rfl ?_
            refine lv_goto (tgt := 25) hx hb dX12_path_191 (by decide +kernel) ?_
            exact ih_25_36 ((k25_4 + 1), (k25_3 ||| (z32 ((64 * k25_4) + k38_5).toNatClampNeg)), k38_5) ls H locs (show Int.toNat (24 - (k25_4 + 1).toInt) < Int.toNat (24 - k25_4.toInt) from g_up (show k25_4.toInt < (k25_4 + 1).toInt by omega) (show k25_4.toInt < 24 by omega)) ⟨lv_sub hl [2, 1, 0, 5, 6] rfl, hP, hD, hS, ⟨by omega, by omega⟩, ⟨by omega, by omega⟩, i_39⟩
          ·
            have i_43 : k38_5.toInt = (-1) := g5_neN (a := k38_5.toInt) (b := (-1)) rfl (by decide +kernel) c_43
            refine lv_iconst (v := (-1)) hx hb dX12_path_168 (by decide +kernel) ?_
            exact W.iret (v := (-1)) hx hb hr (fun t ht hW => ⟨⟨(-1), [(b_o, (oc12 0 u_sa b_rf b_ro b_im b_ke u_fd b_tp u_td u_fr u_to u_so u_wo u_fa u_bd u_nc b_nl u_co b_op b_ar u_le b_pi b_pa u_pd u_od b_ws b_hw z14 b_se b_re z15 z16 z17 z18 z19 z20 z21 z22 b_pt z23 z24 b_ip z25 b_ah b_be b_me z26 b_tr b_ld u_st b_wn u_id)), (b_ro, (arI G 5740 v_ro)), (b_se, (arJ G 13 z27)), (b_re, (arJ G 400 z28)), (b_pt, (arI G 200 z29)), (b_ah, (arJ G 49152 z30)), (b_be, (arJ G 49152 z31)), (b_me, (arI G 1536 z32))], rfl, ⟨(-1), 0, z14, z15, z16, z17, z18, z19, z20, z21, z22, z23, z24, z25, z26, z27, z28, z29, z30, z31, z32, i_3, i_4, i_5, i_6, i_7, i_8, i_9, i_10, i_11, i_12, i_13, rfl, rfl⟩, by rw [ht]; exact hP.sub [0, 1, 2, 3, 4, 5, 6, 7] rfl, hD.sub [0, 1, 2, 3, 4, 5, 6, 7] (by decide +kernel) rfl⟩, hS.F ht⟩) hS.2.2 dX12_path_169
        ·
          have i_42 : k38_6.toInt ≥ 0 := g5_ltN (a := k38_6.toInt) (b := 0) rfl (by decide +kernel) c_42
          refine lv_iload hx hb dX12_path_43 (lv_at hl 4 rfl) ?_
          refine lv_if_ne (tgt := 68) hx hb dX12_path_45 (by decide +kernel) (fun c_50 => ?_) (fun c_50 => ?_)
          ·
            have n_50 : gNe (k25_4.toInt) (0) := g5_ne (a := k25_4.toInt) (b := 0) rfl (by decide +kernel) c_50
            have i_50 : k25_4.toInt ≥ 1 := by have z := g5_ne (a := k25_4.toInt) (b := 0) (by rfl) (by decide +kernel) c_50; omega
            refine lv_iload_n hx hb dX12_path_68 rfl (lv_at hl 2 rfl) ?_
            refine lv_iload hx hb dX12_path_69 (lv_at hl 1 rfl) ?_
            obtain ⟨hPc, hDc, hFc⟩ := g5_sub3 (wc := []) hP hD hS hA [] (by decide +kernel) rfl
            refine va_calli (va_runS (As := [.int k25_2, .int k38_6]) (rest := []) ⟨hx, hb, hml, hown, hts⟩ (n_isStep l G H.size k25_2 k38_6 i_35 ⟨by omega, by omega⟩) (va_cwS 2 hts gS_X12_454 rfl rfl rfl hs_X12_isStep ⟨Nat.le_of_ble_eq_true rfl, Nat.le_of_ble_eq_true rfl⟩) (g5_preS hPc hK hDc hN hT hS hFc) rfl rfl hl.1 rfl (lv_room (Nat.le_of_ble_eq_true rfl)) dX12_path_71 ⟨Nat.le_of_ble_eq_true rfl, Nat.le_of_ble_eq_true rfl⟩) hS (fun q _ h => hFc q h) hFc (fun r u t H locs ht hvm hw hB hz1 hk1 hS => ?_)
            obtain ⟨hP1, hD1⟩ := hB
            have hP1 := g5_ht ht hP1
            obtain ⟨z52, (i_51 : 0 ≤ z52.toInt ∧ z52.toInt ≤ 1), y53, rfl⟩ := hw
            have hJ9 := g5_same hP hk1
            clear hP hPc hDc hFc ht hvm hz1 hk1 hP1 hD1
            have hP := hJ9
            clear hJ9
            refine g5_ti (v := z52) y53 ?_
            refine lv_if_eq (tgt := 139) hx hb dX12_path_74 (by decide +kernel) (fun c_54 => ?_) (fun c_54 => ?_)
            ·
              have i_54 : z52.toInt = 0 := g5_eq (a := z52.toInt) (b := 0) rfl (by decide +kernel) c_54
              refine lv_iconst (v := 0) hx hb dX12_path_139 (by decide +kernel) ?_
              refine lv_istore (lv' := [(7, .int 0), (5, .int k38_5), (6, .int k38_6), (2, .int k25_2), (3, .int k25_3), (4, .int k25_4), (0, .ref b_o), (1, .int p_1)]) hx hb dX12_path_140 hl (by decide +kernel) rfl ?_
              clear hl
              intro ls hl
              refine lv_iload hx hb dX12_path_142 (lv_at hl 0 rfl) ?_
              refine lv_if_eq (tgt := 152) hx hb dX12_path_144 (by decide +kernel) (fun c_55 => ?_) (fun c_55 => ?_)
              ·
                refine lv_iload hx hb dX12_path_152 (lv_at hl 1 rfl) ?_
                refine lv_istore (lv' := [(5, .int k38_5), (7, .int 0), (6, .int k38_6), (2, .int k25_2), (3, .int k25_3), (4, .int k25_4), (0, .ref b_o), (1, .int p_1)]) hx hb dX12_path_154 hl (by decide +kernel) rfl ?_
                clear hl
                intro ls hl
                obtain ⟨y56, hy_56, t_56⟩ := g_incN k38_6 (-1) (by decide +kernel) (by omega) (by omega)
                have t_56 : y56.toInt = k38_6.toInt + (-1) := t_56
                refine lv_iinc (v := y56) (lv' := [(6, .int y56), (5, .int k38_5), (7, .int 0), (2, .int k25_2), (3, .int k25_3), (4, .int k25_4), (0, .ref b_o), (1, .int p_1)]) hx hb dX12_path_156 hl (k := 2) rfl hy_56 (by decide +kernel) rfl ?_
                clear hl
                intro ls hl
                refine lv_goto (tgt := 38) hx hb dX12_path_159 (by decide +kernel) ?_
                exact ih_38_41 (y56, k38_5) ls H locs (show Int.toNat (y56.toInt + 1) < Int.toNat (k38_6.toInt + 1) from g_dn (show y56.toInt < k38_6.toInt by omega) (show 0 ≤ k38_6.toInt by omega)) ⟨lv_sub hl [1, 0, 3, 4, 5, 6, 7] rfl, hP, hD, hS, ⟨by omega, by omega⟩, i_39, i_40⟩
              ·
                exact absurd c_55 (by decide +kernel)
            ·
              have n_54 : gNe (z52.toInt) (0) := g5_eqN (a := z52.toInt) (b := 0) rfl (by decide +kernel) c_54
              have i_54 : z52.toInt ≥ 1 := by have z := g5_eqN (a := z52.toInt) (b := 0) (by rfl) (by decide +kernel) c_54; omega
              refine lv_aload_n hx hb dX12_path_77 rfl (lv_at hl 5 rfl) ?_
              refine va_get (D := G.1) (ci := 12) (v := .ref b_me) (C := RX12) (T := TX12) (N := 52) hx hb hts inG_X12 hown hK hP 0 rfl rfl 45 (by decide +kernel) (hts _ fl_X12_95) (fun _ h9 => h9) rfl dX12_path_78 ?_
              refine lv_bipush (v := 64) hx hb dX12_path_81 (by decide +kernel) ?_
              refine lv_iload hx hb dX12_path_83 (lv_at hl 4 rfl) ?_
              refine W.eq (g2 := F0 m 85 ls [.int k25_4, .int 64, .ref b_me]) rfl ?_
              refine lv_imul hx hb dX12_path_85 ?_
              have t_57 : (64 * k25_4).toInt = 64 * k25_4.toInt := g5_imul (a := 64) (b := k25_4.toInt) (by decide +kernel) (by rfl) (by omega) (by omega)
              refine lv_iload hx hb dX12_path_86 (lv_at hl 1 rfl) ?_
              refine lv_iadd hx hb dX12_path_88 ?_
              have t_58 : ((64 * k25_4) + k38_6).toInt = (64 * k25_4).toInt + k38_6.toInt := g5_iadd (a := (64 * k25_4).toInt) (b := k38_6.toInt) (by rfl) (by rfl) (by omega) (by omega)
              refine va_iald hx hb hK hP 7 0 rfl rfl (i := ((64 * k25_4) + k38_6)) (vp_in_iff.mpr ⟨by omega, by omega⟩) dX12_path_89 ?_
              have hr_59 : 0 ≤ (z32 ((64 * k25_4) + k38_6).toNatClampNeg).toInt ∧ ((z32 ((64 * k25_4) + k38_6).toNatClampNeg).toInt < 32 ∨ 64 ≤ (z32 ((64 * k25_4) + k38_6).toNatClampNeg).toInt) ∧ (z32 ((64 * k25_4) + k38_6).toNatClampNeg).toInt ≤ 127 := i_12 (((64 * k25_4) + k38_6).toNatClampNeg)
              refine lv_bipush (v := 64) hx hb dX12_path_90 (by decide +kernel) ?_
              refine W.eq (g2 := F0 m 92 ls [.int 64, .int (z32 ((64 * k25_4) + k38_6).toNatClampNeg)]) rfl ?_
              refine lv_icmp_ge (tgt := 139) hx hb dX12_path_92 (by decide +kernel) (fun c_60 => ?_) (fun c_60 => ?_)
              ·
                have i_60 : (z32 ((64 * k25_4) + k38_6).toNatClampNeg).toInt ≥ 64 := g5_ge (a := (z32 ((64 * k25_4) + k38_6).toNatClampNeg).toInt) (b := 64) rfl (by decide +kernel) c_60
                refine lv_iconst (v := 0) hx hb dX12_path_139 (by decide +kernel) ?_
                refine lv_istore (lv' := [(7, .int 0), (5, .int k38_5), (6, .int k38_6), (2, .int k25_2), (3, .int k25_3), (4, .int k25_4), (0, .ref b_o), (1, .int p_1)]) hx hb dX12_path_140 hl (by decide +kernel) rfl ?_
                clear hl
                intro ls hl
                refine lv_iload hx hb dX12_path_142 (lv_at hl 0 rfl) ?_
                refine lv_if_eq (tgt := 152) hx hb dX12_path_144 (by decide +kernel) (fun c_61 => ?_) (fun c_61 => ?_)
                ·
                  refine lv_iload hx hb dX12_path_152 (lv_at hl 1 rfl) ?_
                  refine lv_istore (lv' := [(5, .int k38_5), (7, .int 0), (6, .int k38_6), (2, .int k25_2), (3, .int k25_3), (4, .int k25_4), (0, .ref b_o), (1, .int p_1)]) hx hb dX12_path_154 hl (by decide +kernel) rfl ?_
                  clear hl
                  intro ls hl
                  obtain ⟨y62, hy_62, t_62⟩ := g_incN k38_6 (-1) (by decide +kernel) (by omega) (by omega)
                  have t_62 : y62.toInt = k38_6.toInt + (-1) := t_62
                  refine lv_iinc (v := y62) (lv' := [(6, .int y62), (5, .int k38_5), (7, .int 0), (2, .int k25_2), (3, .int k25_3), (4, .int k25_4), (0, .ref b_o), (1, .int p_1)]) hx hb dX12_path_156 hl (k := 2) rfl hy_62 (by decide +kernel) rfl ?_
                  clear hl
                  intro ls hl
                  refine lv_goto (tgt := 38) hx hb dX12_path_159 (by decide +kernel) ?_
                  exact ih_38_41 (y62, k38_5) ls H locs (show Int.toNat (y62.toInt + 1) < Int.toNat (k38_6.toInt + 1) from g_dn (show y62.toInt < k38_6.toInt by omega) (show 0 ≤ k38_6.toInt by omega)) ⟨lv_sub hl [1, 0, 3, 4, 5, 6, 7] rfl, hP, hD, hS, ⟨by omega, by omega⟩, i_39, i_40⟩
                ·
                  exact absurd c_61 (by decide +kernel)
              ·
                have i_60 : (z32 ((64 * k25_4) + k38_6).toNatClampNeg).toInt < 64 := g5_geN (a := (z32 ((64 * k25_4) + k38_6).toNatClampNeg).toInt) (b := 64) rfl (by decide +kernel) c_60
                refine lv_aload_n hx hb dX12_path_95 rfl (lv_at hl 5 rfl) ?_
                refine va_get (D := G.1) (ci := 12) (v := .ref b_be) (C := RX12) (T := TX12) (N := 52) hx hb hts inG_X12 hown hK hP 0 rfl rfl 44 (by decide +kernel) (hts _ fl_X12_92) (fun _ h9 => h9) rfl dX12_path_96 ?_
                refine lv_bipush (v := 32) hx hb dX12_path_99 (by decide +kernel) ?_
                refine lv_bipush (v := 64) hx hb dX12_path_101 (by decide +kernel) ?_
                refine W.eq (g2 := F0 m 103 ls [.int 64, .int 32, .ref b_be]) rfl ?_
                refine lv_iload hx hb dX12_path_103 (lv_at hl 4 rfl) ?_
                refine lv_imul hx hb dX12_path_105 ?_
                have t_63 : (64 * k25_4).toInt = 64 * k25_4.toInt := g5_imul (a := 64) (b := k25_4.toInt) (by decide +kernel) (by rfl) (by omega) (by omega)
                refine lv_iload hx hb dX12_path_106 (lv_at hl 1 rfl) ?_
                refine lv_iadd hx hb dX12_path_108 ?_
                have t_64 : ((64 * k25_4) + k38_6).toInt = (64 * k25_4).toInt + k38_6.toInt := g5_iadd (a := (64 * k25_4).toInt) (b := k38_6.toInt) (by rfl) (by rfl) (by omega) (by omega)
                refine lv_imul hx hb dX12_path_109 ?_
                have t_65 : (32 * ((64 * k25_4) + k38_6)).toInt = 32 * ((64 * k25_4) + k38_6).toInt := g5_imul (a := 32) (b := ((64 * k25_4) + k38_6).toInt) (by decide +kernel) (by rfl) (by omega) (by omega)
                refine W.eq (g2 := F0 m 110 ls [.int (32 * ((64 * k25_4) + k38_6)), .ref b_be]) rfl ?_
                refine lv_iload_n hx hb dX12_path_110 rfl (lv_at hl 3 rfl) ?_
                refine lv_aload_n hx hb dX12_path_111 rfl (lv_at hl 5 rfl) ?_
                refine va_get (D := G.1) (ci := 12) (v := .ref b_me) (C := RX12) (T := TX12) (N := 52) hx hb hts inG_X12 hown hK hP 0 rfl rfl 45 (by decide +kernel) (hts _ fl_X12_95) (fun _ h9 => h9) rfl dX12_path_112 ?_
                refine lv_bipush (v := 64) hx hb dX12_path_115 (by decide +kernel) ?_
                refine lv_iload hx hb dX12_path_117 (lv_at hl 4 rfl) ?_
                refine W.eq (g2 := F0 m 119 ls [.int k25_4, .int 64, .ref b_me, .int k25_3, .int (32 * ((64 * k25_4) + k38_6)), .ref b_be]) rfl ?_
                refine lv_imul hx hb dX12_path_119 ?_
                have t_66 : (64 * k25_4).toInt = 64 * k25_4.toInt := g5_imul (a := 64) (b := k25_4.toInt) (by decide +kernel) (by rfl) (by omega) (by omega)
                refine lv_iload hx hb dX12_path_120 (lv_at hl 1 rfl) ?_
                refine lv_iadd hx hb dX12_path_122 ?_
                have t_67 : ((64 * k25_4) + k38_6).toInt = (64 * k25_4).toInt + k38_6.toInt := g5_iadd (a := (64 * k25_4).toInt) (b := k38_6.toInt) (by rfl) (by rfl) (by omega) (by omega)
                refine va_iald hx hb hK hP 7 0 rfl rfl (i := ((64 * k25_4) + k38_6)) (vp_in_iff.mpr ⟨by omega, by omega⟩) dX12_path_123 ?_
                have hr_68 : 0 ≤ (z32 ((64 * k25_4) + k38_6).toNatClampNeg).toInt ∧ ((z32 ((64 * k25_4) + k38_6).toNatClampNeg).toInt < 32 ∨ 64 ≤ (z32 ((64 * k25_4) + k38_6).toNatClampNeg).toInt) ∧ (z32 ((64 * k25_4) + k38_6).toNatClampNeg).toInt ≤ 127 := i_12 (((64 * k25_4) + k38_6).toNatClampNeg)
                refine lv_bipush (v := 31) hx hb dX12_path_124 (by decide +kernel) ?_
                refine W.eq (g2 := F0 m 126 ls [.int 31, .int (z32 ((64 * k25_4) + k38_6).toNatClampNeg), .int k25_3, .int (32 * ((64 * k25_4) + k38_6)), .ref b_be]) rfl ?_
                refine lv_iand hx hb dX12_path_126 ?_
                have t_69 : ((z32 ((64 * k25_4) + k38_6).toNatClampNeg) &&& 31).toInt = (z32 ((64 * k25_4) + k38_6).toNatClampNeg).toInt % 32 := g5_and31 (a := (z32 ((64 * k25_4) + k38_6).toNatClampNeg).toInt) rfl (by omega)
                refine lv_ior hx hb dX12_path_127 ?_
                have ho_70 : 0 ≤ (k25_3 ||| ((z32 ((64 * k25_4) + k38_6).toNatClampNeg) &&& 31)).toInt ∧ (k25_3 ||| ((z32 ((64 * k25_4) + k38_6).toNatClampNeg) &&& 31)).toInt < 32 := me_low ⟨by omega, by omega⟩ ⟨by omega, by omega⟩
                refine lv_iadd hx hb dX12_path_128 ?_
                have t_71 : ((32 * ((64 * k25_4) + k38_6)) + (k25_3 ||| ((z32 ((64 * k25_4) + k38_6).toNatClampNeg) &&& 31))).toInt = (32 * ((64 * k25_4) + k38_6)).toInt + (k25_3 ||| ((z32 ((64 * k25_4) + k38_6).toNatClampNeg) &&& 31)).toInt := g5_iadd (a := (32 * ((64 * k25_4) + k38_6)).toInt) (b := (k25_3 ||| ((z32 ((64 * k25_4) + k38_6).toNatClampNeg) &&& 31)).toInt) (by rfl) (by rfl) (by omega) (by omega)
                refine va_lald hx hb hK hP 6 1 rfl rfl (i := ((32 * ((64 * k25_4) + k38_6)) + (k25_3 ||| ((z32 ((64 * k25_4) + k38_6).toNatClampNeg) &&& 31)))) (vp_in_iff.mpr ⟨by omega, by omega⟩) dX12_path_129 ?_
                refine lv_lconst (v := 0) hx hb dX12_path_130 (by decide +kernel) ?_
                refine W.eq (g2 := F0 m 131 ls [.long 0, .long (z31 ((32 * ((64 * k25_4) + k38_6)) + (k25_3 ||| ((z32 ((64 * k25_4) + k38_6).toNatClampNeg) &&& 31))).toNatClampNeg)]) rfl ?_
                refine W.lcmp hx hb dX12_path_131 ?_
                refine lv_if_le (tgt := 139) hx hb dX12_path_132 (by decide +kernel) (fun c_72 => ?_) (fun c_72 => ?_)
                ·
                  have i_72 : (lg_cmp (z31 ((32 * ((64 * k25_4) + k38_6)) + (k25_3 ||| ((z32 ((64 * k25_4) + k38_6).toNatClampNeg) &&& 31))).toNatClampNeg) 0).toInt ≤ 0 := g5_le (a := (lg_cmp (z31 ((32 * ((64 * k25_4) + k38_6)) + (k25_3 ||| ((z32 ((64 * k25_4) + k38_6).toNatClampNeg) &&& 31))).toNatClampNeg) 0).toInt) (b := 0) rfl (by decide +kernel) c_72
                  refine lv_iconst (v := 0) hx hb dX12_path_139 (by decide +kernel) ?_
                  refine lv_istore (lv' := [(7, .int 0), (5, .int k38_5), (6, .int k38_6), (2, .int k25_2), (3, .int k25_3), (4, .int k25_4), (0, .ref b_o), (1, .int p_1)]) hx hb dX12_path_140 hl (by decide +kernel) rfl ?_
                  clear hl
                  intro ls hl
                  refine lv_iload hx hb dX12_path_142 (lv_at hl 0 rfl) ?_
                  refine lv_if_eq (tgt := 152) hx hb dX12_path_144 (by decide +kernel) (fun c_73 => ?_) (fun c_73 => ?_)
                  ·
                    refine lv_iload hx hb dX12_path_152 (lv_at hl 1 rfl) ?_
                    refine lv_istore (lv' := [(5, .int k38_5), (7, .int 0), (6, .int k38_6), (2, .int k25_2), (3, .int k25_3), (4, .int k25_4), (0, .ref b_o), (1, .int p_1)]) hx hb dX12_path_154 hl (by decide +kernel) rfl ?_
                    clear hl
                    intro ls hl
                    obtain ⟨y74, hy_74, t_74⟩ := g_incN k38_6 (-1) (by decide +kernel) (by omega) (by omega)
                    have t_74 : y74.toInt = k38_6.toInt + (-1) := t_74
                    refine lv_iinc (v := y74) (lv' := [(6, .int y74), (5, .int k38_5), (7, .int 0), (2, .int k25_2), (3, .int k25_3), (4, .int k25_4), (0, .ref b_o), (1, .int p_1)]) hx hb dX12_path_156 hl (k := 2) rfl hy_74 (by decide +kernel) rfl ?_
                    clear hl
                    intro ls hl
                    refine lv_goto (tgt := 38) hx hb dX12_path_159 (by decide +kernel) ?_
                    exact ih_38_41 (y74, k38_5) ls H locs (show Int.toNat (y74.toInt + 1) < Int.toNat (k38_6.toInt + 1) from g_dn (show y74.toInt < k38_6.toInt by omega) (show 0 ≤ k38_6.toInt by omega)) ⟨lv_sub hl [1, 0, 3, 4, 5, 6, 7] rfl, hP, hD, hS, ⟨by omega, by omega⟩, i_39, i_40⟩
                  ·
                    exact absurd c_73 (by decide +kernel)
                ·
                  have i_72 : (lg_cmp (z31 ((32 * ((64 * k25_4) + k38_6)) + (k25_3 ||| ((z32 ((64 * k25_4) + k38_6).toNatClampNeg) &&& 31))).toNatClampNeg) 0).toInt > 0 := g5_leN (a := (lg_cmp (z31 ((32 * ((64 * k25_4) + k38_6)) + (k25_3 ||| ((z32 ((64 * k25_4) + k38_6).toNatClampNeg) &&& 31))).toNatClampNeg) 0).toInt) (b := 0) rfl (by decide +kernel) c_72
                  refine lv_iconst (v := 1) hx hb dX12_path_135 (by decide +kernel) ?_
                  refine lv_goto (tgt := 140) hx hb dX12_path_136 (by decide +kernel) ?_
                  refine lv_istore (lv' := [(7, .int 1), (5, .int k38_5), (6, .int k38_6), (2, .int k25_2), (3, .int k25_3), (4, .int k25_4), (0, .ref b_o), (1, .int p_1)]) hx hb dX12_path_140 hl (by decide +kernel) rfl ?_
                  clear hl
                  intro ls hl
                  refine lv_iload hx hb dX12_path_142 (lv_at hl 0 rfl) ?_
                  refine W.eq (g2 := F0 m 144 ls [.int 1]) rfl ?_
                  refine lv_if_eq (tgt := 152) hx hb dX12_path_144 (by decide +kernel) (fun c_75 => ?_) (fun c_75 => ?_)
                  ·
                    exact absurd c_75 (by decide +kernel)
                  ·
                    refine lv_iload hx hb dX12_path_147 (lv_at hl 2 rfl) ?_
                    refine lv_goto (tgt := 154) hx hb dX12_path_149 (by decide +kernel) ?_
                    refine lv_istore (lv' := [(5, .int k38_6), (7, .int 1), (6, .int k38_6), (2, .int k25_2), (3, .int k25_3), (4, .int k25_4), (0, .ref b_o), (1, .int p_1)]) hx hb dX12_path_154 hl (by decide +kernel) rfl ?_
                    clear hl
                    intro ls hl
                    obtain ⟨y76, hy_76, t_76⟩ := g_incN k38_6 (-1) (by decide +kernel) (by omega) (by omega)
                    have t_76 : y76.toInt = k38_6.toInt + (-1) := t_76
                    refine lv_iinc (v := y76) (lv' := [(6, .int y76), (5, .int k38_6), (7, .int 1), (2, .int k25_2), (3, .int k25_3), (4, .int k25_4), (0, .ref b_o), (1, .int p_1)]) hx hb dX12_path_156 hl (k := 2) rfl hy_76 (by decide +kernel) rfl ?_
                    clear hl
                    intro ls hl
                    refine W.eq (g2 := F0 m 159 ls []) rfl ?_
                    refine lv_goto (tgt := 38) hx hb dX12_path_159 (by decide +kernel) ?_
                    exact ih_38_41 (y76, k38_6) ls H locs (show Int.toNat (y76.toInt + 1) < Int.toNat (k38_6.toInt + 1) from g_dn (show y76.toInt < k38_6.toInt by omega) (show 0 ≤ k38_6.toInt by omega)) ⟨lv_sub hl [1, 0, 3, 4, 5, 6, 7] rfl, hP, hD, hS, ⟨by omega, by omega⟩, i_38, Or.inr (by have e9 : (64 * k25_4.toInt + k38_6.toInt).toNat = ((64 * k25_4) + k38_6).toNatClampNeg := (by have zz := g5_clamp ((64 * k25_4) + k38_6); omega); rw [e9]; omega)⟩
          ·
            have i_50 : k25_4.toInt = 0 := g5_neN (a := k25_4.toInt) (b := 0) rfl (by decide +kernel) c_50
            refine lv_aload_n hx hb dX12_path_48 rfl (lv_at hl 5 rfl) ?_
            refine lv_iconst (v := 0) hx hb dX12_path_49 (by decide +kernel) ?_
            refine lv_iload hx hb dX12_path_50 (lv_at hl 1 rfl) ?_
            obtain ⟨hPc, hDc, hFc⟩ := g5_sub3 (wc := [(b_o, (oc12 0 u_sa b_rf b_ro b_im b_ke u_fd b_tp u_td u_fr u_to u_so u_wo u_fa u_bd u_nc b_nl u_co b_op b_ar u_le b_pi b_pa u_pd u_od b_ws b_hw z14 b_se b_re z15 z16 z17 z18 z19 z20 z21 z22 b_pt z23 z24 b_ip z25 b_ah b_be b_me z26 b_tr b_ld u_st b_wn u_id)), (b_ah, (arJ G 49152 z30)), (b_be, (arJ G 49152 z31)), (b_me, (arI G 1536 z32))]) hP hD hS hA [0, 5, 6, 7] (by decide +kernel) rfl
            refine va_calll (va_runV (As := [.int 0, .int k38_6]) (rest := []) ⟨hx, hb, hml, hown, hts⟩ (n_rowsAt0 l G b_o b_ah b_be b_me b_rf b_ro b_im b_ke b_tp b_nl b_op b_ar b_pi b_pa b_ws b_hw b_se b_re b_pt b_ip b_tr b_ld b_wn H.size 0 u_sa u_fd u_td u_fr u_to u_so u_fa u_bd u_nc u_co u_le u_pd u_od z14 z15 z18 z19 z20 z21 z22 z23 z24 z25 z26 u_id k38_6 u_wo z16 z17 u_st z30 z31 z32 h_u_td h_u_fr h_u_to h_u_bd h_u_nc h_u_co h_u_pd i_3 i_4 i_5 i_6 i_7 i_8 i_9 i_11 h_u_id ⟨by omega, by omega⟩ (i_13)) (cwV 2 hts gV_X12_440 rfl rfl rfl hv_X12_rowsAt ⟨Nat.le_of_ble_eq_true rfl, Nat.le_of_ble_eq_true rfl⟩) (g5_preV hPc hK hDc hN hT hS hFc (ci := 12) (q0 := 0) rfl rfl) rfl rfl hl.1 rfl (lv_room (Nat.le_of_ble_eq_true rfl)) dX12_path_52 ⟨Nat.le_of_ble_eq_true rfl, Nat.le_of_ble_eq_true rfl⟩) hS (fun q _ h => hFc q h) hFc (fun r u t H locs ht hvm hw hB hz1 hk1 hS => ?_)
            obtain ⟨hP1, hD1⟩ := hB
            have hP1 := g5_ht ht hP1
            obtain ⟨z78, (i_77 : 64 ≤ (z32 k38_6.toNatClampNeg).toInt → z78 = 0), y79, rfl⟩ := hw
            have hJ9 := va_join (wr := [(b_ro, (arI G 5740 v_ro)), (b_se, (arJ G 13 z27)), (b_re, (arJ G 400 z28)), (b_pt, (arI G 200 z29))]) hP hD [0, 5, 6, 7] [1, 2, 3, 4] rfl rfl (by decide +kernel) (by decide +kernel) hk1 hFc hP1 hD1
            clear hP hD hPc hDc hFc ht hvm hz1 hk1 hP1 hD1
            obtain ⟨hP, hD⟩ := hJ9
            refine g5_rs [(b_ro, (arI G 5740 v_ro)), (b_se, (arJ G 13 z27)), (b_re, (arJ G 400 z28)), (b_pt, (arI G 200 z29)), (b_o, (oc12 0 u_sa b_rf b_ro b_im b_ke u_fd b_tp u_td u_fr u_to u_so u_wo u_fa u_bd u_nc b_nl u_co b_op b_ar u_le b_pi b_pa u_pd u_od b_ws b_hw z14 b_se b_re z15 z16 z17 z18 z19 z20 z21 z22 b_pt z23 z24 b_ip z25 b_ah b_be b_me z26 b_tr b_ld u_st b_wn u_id)), (b_ah, (arJ G 49152 z30)), (b_be, (arJ G 49152 z31)), (b_me, (arI G 1536 z32))] hP hD ?_
            clear hP hD
            intro hP hD
            refine g5_tl (v := z78) y79 ?_
            refine W.eq (g2 := F0 m 55 ls [.long z78]) rfl ?_
            refine lv_lconst (v := 0) hx hb dX12_path_55 (by decide +kernel) ?_
            refine W.lcmp hx hb dX12_path_56 ?_
            refine lv_if_le (tgt := 64) hx hb dX12_path_57 (by decide +kernel) (fun c_80 => ?_) (fun c_80 => ?_)
            ·
              have i_80 : (lg_cmp z78 0).toInt ≤ 0 := g5_le (a := (lg_cmp z78 0).toInt) (b := 0) rfl (by decide +kernel) c_80
              refine lv_iconst (v := 0) hx hb dX12_path_64 (by decide +kernel) ?_
              refine lv_goto (tgt := 140) hx hb dX12_path_65 (by decide +kernel) ?_
              refine lv_istore (lv' := [(7, .int 0), (5, .int k38_5), (6, .int k38_6), (2, .int k25_2), (3, .int k25_3), (4, .int k25_4), (0, .ref b_o), (1, .int p_1)]) hx hb dX12_path_140 hl (by decide +kernel) rfl ?_
              clear hl
              intro ls hl
              refine lv_iload hx hb dX12_path_142 (lv_at hl 0 rfl) ?_
              refine W.eq (g2 := F0 m 144 ls [.int 0]) rfl ?_
              refine lv_if_eq (tgt := 152) hx hb dX12_path_144 (by decide +kernel) (fun c_81 => ?_) (fun c_81 => ?_)
              ·
                refine lv_iload hx hb dX12_path_152 (lv_at hl 1 rfl) ?_
                refine lv_istore (lv' := [(5, .int k38_5), (7, .int 0), (6, .int k38_6), (2, .int k25_2), (3, .int k25_3), (4, .int k25_4), (0, .ref b_o), (1, .int p_1)]) hx hb dX12_path_154 hl (by decide +kernel) rfl ?_
                clear hl
                intro ls hl
                obtain ⟨y82, hy_82, t_82⟩ := g_incN k38_6 (-1) (by decide +kernel) (by omega) (by omega)
                have t_82 : y82.toInt = k38_6.toInt + (-1) := t_82
                refine lv_iinc (v := y82) (lv' := [(6, .int y82), (5, .int k38_5), (7, .int 0), (2, .int k25_2), (3, .int k25_3), (4, .int k25_4), (0, .ref b_o), (1, .int p_1)]) hx hb dX12_path_156 hl (k := 2) rfl hy_82 (by decide +kernel) rfl ?_
                clear hl
                intro ls hl
                refine lv_goto (tgt := 38) hx hb dX12_path_159 (by decide +kernel) ?_
                exact ih_38_41 (y82, k38_5) ls H locs (show Int.toNat (y82.toInt + 1) < Int.toNat (k38_6.toInt + 1) from g_dn (show y82.toInt < k38_6.toInt by omega) (show 0 ≤ k38_6.toInt by omega)) ⟨lv_sub hl [1, 0, 3, 4, 5, 6, 7] rfl, hP.sub [4, 0, 1, 2, 3, 5, 6, 7] rfl, hD.sub [4, 0, 1, 2, 3, 5, 6, 7] (by decide +kernel) rfl, hS, ⟨by omega, by omega⟩, i_39, i_40⟩
              ·
                exact absurd c_81 (by decide +kernel)
            ·
              have i_80 : (lg_cmp z78 0).toInt > 0 := g5_leN (a := (lg_cmp z78 0).toInt) (b := 0) rfl (by decide +kernel) c_80
              refine lv_iconst (v := 1) hx hb dX12_path_60 (by decide +kernel) ?_
              refine lv_goto (tgt := 140) hx hb dX12_path_61 (by decide +kernel) ?_
              refine lv_istore (lv' := [(7, .int 1), (5, .int k38_5), (6, .int k38_6), (2, .int k25_2), (3, .int k25_3), (4, .int k25_4), (0, .ref b_o), (1, .int p_1)]) hx hb dX12_path_140 hl (by decide +kernel) rfl ?_
              clear hl
              intro ls hl
              refine lv_iload hx hb dX12_path_142 (lv_at hl 0 rfl) ?_
              refine W.eq (g2 := F0 m 144 ls [.int 1]) rfl ?_
              refine lv_if_eq (tgt := 152) hx hb dX12_path_144 (by decide +kernel) (fun c_83 => ?_) (fun c_83 => ?_)
              ·
                exact absurd c_83 (by decide +kernel)
              ·
                refine lv_iload hx hb dX12_path_147 (lv_at hl 2 rfl) ?_
                refine lv_goto (tgt := 154) hx hb dX12_path_149 (by decide +kernel) ?_
                refine lv_istore (lv' := [(5, .int k38_6), (7, .int 1), (6, .int k38_6), (2, .int k25_2), (3, .int k25_3), (4, .int k25_4), (0, .ref b_o), (1, .int p_1)]) hx hb dX12_path_154 hl (by decide +kernel) rfl ?_
                clear hl
                intro ls hl
                obtain ⟨y84, hy_84, t_84⟩ := g_incN k38_6 (-1) (by decide +kernel) (by omega) (by omega)
                have t_84 : y84.toInt = k38_6.toInt + (-1) := t_84
                refine lv_iinc (v := y84) (lv' := [(6, .int y84), (5, .int k38_6), (7, .int 1), (2, .int k25_2), (3, .int k25_3), (4, .int k25_4), (0, .ref b_o), (1, .int p_1)]) hx hb dX12_path_156 hl (k := 2) rfl hy_84 (by decide +kernel) rfl ?_
                clear hl
                intro ls hl
                refine W.eq (g2 := F0 m 159 ls []) rfl ?_
                refine lv_goto (tgt := 38) hx hb dX12_path_159 (by decide +kernel) ?_
                exact ih_38_41 (y84, k38_6) ls H locs (show Int.toNat (y84.toInt + 1) < Int.toNat (k38_6.toInt + 1) from g_dn (show y84.toInt < k38_6.toInt by omega) (show 0 ≤ k38_6.toInt by omega)) ⟨lv_sub hl [1, 0, 3, 4, 5, 6, 7] rfl, hP.sub [4, 0, 1, 2, 3, 5, 6, 7] rfl, hD.sub [4, 0, 1, 2, 3, 5, 6, 7] (by decide +kernel) rfl, hS, ⟨by omega, by omega⟩, i_38, Or.inr (by have e9 : (64 * k25_4.toInt + k38_6.toInt).toNat = k38_6.toNatClampNeg := (by have zz := g5_clamp k38_6; omega); rw [e9]; have z9 := ra_pos i_77 i_80; omega)⟩
    ·
      exact absurd c_2 (by decide +kernel)
  ·
    have hJ9 := g5_same hP hk1
    clear hP hPc hDc hFc ht hvm hz1 hk1 hP1 hD1
    have hP := hJ9
    clear hJ9
    refine lv_if_ne (tgt := 14) hx hb dX12_path_9 (by decide +kernel) (fun c_85 => ?_) (fun c_85 => ?_)
    ·
      exact absurd c_85 (by decide +kernel)
    ·
      refine lv_iconst (v := (-1)) hx hb dX12_path_12 (by decide +kernel) ?_
      exact W.iret (v := (-1)) hx hb hr (fun t ht hW => ⟨⟨(-1), [(b_o, (oc12 0 u_sa b_rf b_ro b_im b_ke u_fd b_tp u_td u_fr u_to u_so u_wo u_fa u_bd u_nc b_nl u_co b_op b_ar u_le b_pi b_pa u_pd u_od b_ws b_hw u_la b_se b_re u_bk u_va u_su u_ce u_ho u_wy u_bt u_ps b_pt u_tg u_sn b_ip u_ic b_ah b_be b_me u_wd b_tr b_ld u_st b_wn u_id)), (b_ro, (arI G 5740 v_ro)), (b_se, (arJ G 13 v_se)), (b_re, (arJ G 400 v_re)), (b_pt, (arI G 200 v_pt)), (b_ah, (arJ G 49152 v_ah)), (b_be, (arJ G 49152 v_be)), (b_me, (arI G 1536 v_me))], rfl, ⟨(-1), 0, u_la, u_bk, u_va, u_su, u_ce, u_ho, u_wy, u_bt, u_ps, u_tg, u_sn, u_ic, u_wd, v_se, v_re, v_pt, v_ah, v_be, v_me, h_u_la, h_u_bk, h_u_ce, h_u_ho, h_u_wy, h_u_bt, h_u_ps, r_pt, h_u_ic, r_me, e_ah, rfl, rfl⟩, by rw [ht]; exact hP.sub [0, 1, 2, 3, 4, 5, 6, 7] rfl, hD.sub [0, 1, 2, 3, 4, 5, 6, 7] (by decide +kernel) rfl⟩, hS.F ht⟩) hS.2.2 dX12_path_13
theorem g_inc2 (w : Int32) : (w + 1).toInt = w.toInt + 1 ∨ (w.toInt = 2147483647 ∧ (w + 1).toInt < 1) := by
  have h := g5_rg w
  by_cases q : w.toInt < 2147483647
  · exact Or.inl (g5_iadd (a := w.toInt) (b := 1) rfl (by decide) (by omega) (by omega))
  · have e : w = 2147483647 := g5_toc (n := 2147483647) (by decide) (by omega)
    refine Or.inr ⟨by omega, ?_⟩
    rw [e]; decide
set_option maxHeartbeats 4000000 in
set_option maxRecDepth 100000 in
theorem x_isCellX (l : Launch) (G : g5_G) (sz : Nat) (p_v : Int32) : Met l yX11_isCell (wsG yX11_isCell cX11_isCell 1 (some .boolean)) ({ frames := 0, cells := 0, slots := 0, locals := 0 }) (va_Pc [.int p_v] (g5_P G [] sz)) (va_Qi (fun (r : Int32) (u : va_W) => ((0 ≤ p_v.toInt ∧ p_v.toInt ≤ 63) ∧ (r = 1) ∧ (u = [])) ∨ ((p_v.toInt < 0 ∨ 63 < p_v.toInt) ∧ (r = 0) ∧ (u = []))) (g5_B G (va_A [] sz)) (va_A [] sz)) 0 0 (va_A [] sz) := by
  refine Met.ofW (cc := cX11_isCell) (maxL := 1) (ret := (some .boolean)) (by decide) rfl ?_
  intro p e s m args below meth c s₁ B hml hv
  obtain ⟨rfl, hsz, hP, hK, hD0, hN, hT⟩ := hv
  have hx := B.exec
  have hb := B.bytes
  have hr := B.returns
  have hts : ∀ w ∈ tblG, w.before _ s = true := fun w h => atoms_spec (ws := (wsG yX11_isCell cX11_isCell 1 (some .boolean))) B.pre w (List.mem_cons_of_mem _ h)
  have hown : s.vm.findClass RX11 = some m.cls := findClass_of_methodNamed B.named
  have hlocks := B.notSynchronized
  subst hsz
  have hD := hD0.self (sz := s.heap.size)
  generalize hAe : va_A [] s.heap.size = A at hD hT ⊢
  have hA : ∀ q : Nat, s.heap.size ≤ q → A q := fun q h => by rw [← hAe]; exact Or.inr h
  have hS : va_S A s.heap s.heap [] := va_S.rf
  have hP : va_P G.1 vwCl [] s.heap := hP
  have hl := lv_entry ([.int p_v]) (n := 1) (Nat.le_of_ble_eq_true rfl)
  rw [lg_entry_eq]
  generalize (lg_sl ([.int p_v]) ++ List.replicate (1 - (lg_sl ([.int p_v])).length) Slot.unset).toArray = ls at hl ⊢
  have hl : lv_has ls 1 [(0, .int p_v)] := hl
  refine lv_iload_n hx hb dX11_isCell_0 rfl (lv_at hl 0 rfl) ?_
  refine lv_if_lt (tgt := 14) hx hb dX11_isCell_1 (by decide) (fun c_1 => ?_) (fun c_1 => ?_)
  ·
    have i_1 : p_v.toInt < 0 := by have z := g5_lt (a := p_v.toInt) (b := 0) (by rfl) (by decide) c_1; omega
    refine lv_iconst (v := 0) hx hb dX11_isCell_14 (by decide) ?_
    exact W.zret (v := 0) hx hb hr rfl (fun t ht hW => ⟨⟨0, [], rfl, Or.inr (⟨by omega, rfl, rfl⟩), by rw [ht]; exact hP.sub [] rfl, hD.sub [] (by decide) rfl⟩, hS.F ht⟩) hS.2.2 dX11_isCell_15
  ·
    have i_1 : p_v.toInt ≥ 0 := by have z := g5_ltN (a := p_v.toInt) (b := 0) (by rfl) (by decide) c_1; omega
    refine lv_iload_n hx hb dX11_isCell_4 rfl (lv_at hl 0 rfl) ?_
    refine lv_bipush (v := 64) hx hb dX11_isCell_5 (by decide) ?_
    refine lv_icmp_ge (tgt := 14) hx hb dX11_isCell_7 (by decide) (fun c_2 => ?_) (fun c_2 => ?_)
    ·
      have i_2 : p_v.toInt ≥ 64 := by have z := g5_ge (a := p_v.toInt) (b := 64) (by rfl) (by decide) c_2; omega
      refine lv_iconst (v := 0) hx hb dX11_isCell_14 (by decide) ?_
      exact W.zret (v := 0) hx hb hr rfl (fun t ht hW => ⟨⟨0, [], rfl, Or.inr (⟨by omega, rfl, rfl⟩), by rw [ht]; exact hP.sub [] rfl, hD.sub [] (by decide) rfl⟩, hS.F ht⟩) hS.2.2 dX11_isCell_15
    ·
      have i_2 : p_v.toInt < 64 := by have z := g5_geN (a := p_v.toInt) (b := 64) (by rfl) (by decide) c_2; omega
      refine lv_iconst (v := 1) hx hb dX11_isCell_10 (by decide) ?_
      refine lv_goto (tgt := 15) hx hb dX11_isCell_11 (by decide) ?_
      exact W.zret (v := 1) hx hb hr rfl (fun t ht hW => ⟨⟨1, [], rfl, Or.inl (⟨by omega, rfl, rfl⟩), by rw [ht]; exact hP.sub [] rfl, hD.sub [] (by decide) rfl⟩, hS.F ht⟩) hS.2.2 dX11_isCell_15
set_option maxHeartbeats 4000000 in
set_option maxRecDepth 100000 in
theorem x_isCellOrNoneX (l : Launch) (G : g5_G) (sz : Nat) (p_v : Int32) : Met l yX11_isCellOrNone (wsG yX11_isCellOrNone cX11_isCellOrNone 1 (some .boolean)) ({ frames := 0, cells := 0, slots := 0, locals := 0 }) (va_Pc [.int p_v] (g5_P G [] sz)) (va_Qi (fun (r : Int32) (u : va_W) => (((-1) ≤ p_v.toInt ∧ p_v.toInt ≤ 63) ∧ (r = 1) ∧ (u = [])) ∨ ((p_v.toInt < (-1) ∨ 63 < p_v.toInt) ∧ (r = 0) ∧ (u = []))) (g5_B G (va_A [] sz)) (va_A [] sz)) 0 0 (va_A [] sz) := by
  refine Met.ofW (cc := cX11_isCellOrNone) (maxL := 1) (ret := (some .boolean)) (by decide) rfl ?_
  intro p e s m args below meth c s₁ B hml hv
  obtain ⟨rfl, hsz, hP, hK, hD0, hN, hT⟩ := hv
  have hx := B.exec
  have hb := B.bytes
  have hr := B.returns
  have hts : ∀ w ∈ tblG, w.before _ s = true := fun w h => atoms_spec (ws := (wsG yX11_isCellOrNone cX11_isCellOrNone 1 (some .boolean))) B.pre w (List.mem_cons_of_mem _ h)
  have hown : s.vm.findClass RX11 = some m.cls := findClass_of_methodNamed B.named
  have hlocks := B.notSynchronized
  subst hsz
  have hD := hD0.self (sz := s.heap.size)
  generalize hAe : va_A [] s.heap.size = A at hD hT ⊢
  have hA : ∀ q : Nat, s.heap.size ≤ q → A q := fun q h => by rw [← hAe]; exact Or.inr h
  have hS : va_S A s.heap s.heap [] := va_S.rf
  have hP : va_P G.1 vwCl [] s.heap := hP
  have hl := lv_entry ([.int p_v]) (n := 1) (Nat.le_of_ble_eq_true rfl)
  rw [lg_entry_eq]
  generalize (lg_sl ([.int p_v]) ++ List.replicate (1 - (lg_sl ([.int p_v])).length) Slot.unset).toArray = ls at hl ⊢
  have hl : lv_has ls 1 [(0, .int p_v)] := hl
  refine lv_iload_n hx hb dX11_isCellOrNone_0 rfl (lv_at hl 0 rfl) ?_
  refine lv_iconst (v := (-1)) hx hb dX11_isCellOrNone_1 (by decide) ?_
  refine lv_icmp_lt (tgt := 15) hx hb dX11_isCellOrNone_2 (by decide) (fun c_1 => ?_) (fun c_1 => ?_)
  ·
    have i_1 : p_v.toInt < (-1) := by have z := g5_lt (a := p_v.toInt) (b := (-1)) (by rfl) (by decide) c_1; omega
    refine lv_iconst (v := 0) hx hb dX11_isCellOrNone_15 (by decide) ?_
    exact W.zret (v := 0) hx hb hr rfl (fun t ht hW => ⟨⟨0, [], rfl, Or.inr (⟨by omega, rfl, rfl⟩), by rw [ht]; exact hP.sub [] rfl, hD.sub [] (by decide) rfl⟩, hS.F ht⟩) hS.2.2 dX11_isCellOrNone_16
  ·
    have i_1 : p_v.toInt ≥ (-1) := by have z := g5_ltN (a := p_v.toInt) (b := (-1)) (by rfl) (by decide) c_1; omega
    refine lv_iload_n hx hb dX11_isCellOrNone_5 rfl (lv_at hl 0 rfl) ?_
    refine lv_bipush (v := 64) hx hb dX11_isCellOrNone_6 (by decide) ?_
    refine lv_icmp_ge (tgt := 15) hx hb dX11_isCellOrNone_8 (by decide) (fun c_2 => ?_) (fun c_2 => ?_)
    ·
      have i_2 : p_v.toInt ≥ 64 := by have z := g5_ge (a := p_v.toInt) (b := 64) (by rfl) (by decide) c_2; omega
      refine lv_iconst (v := 0) hx hb dX11_isCellOrNone_15 (by decide) ?_
      exact W.zret (v := 0) hx hb hr rfl (fun t ht hW => ⟨⟨0, [], rfl, Or.inr (⟨by omega, rfl, rfl⟩), by rw [ht]; exact hP.sub [] rfl, hD.sub [] (by decide) rfl⟩, hS.F ht⟩) hS.2.2 dX11_isCellOrNone_16
    ·
      have i_2 : p_v.toInt < 64 := by have z := g5_geN (a := p_v.toInt) (b := 64) (by rfl) (by decide) c_2; omega
      refine lv_iconst (v := 1) hx hb dX11_isCellOrNone_11 (by decide) ?_
      refine lv_goto (tgt := 16) hx hb dX11_isCellOrNone_12 (by decide) ?_
      exact W.zret (v := 1) hx hb hr rfl (fun t ht hW => ⟨⟨1, [], rfl, Or.inl (⟨by omega, rfl, rfl⟩), by rw [ht]; exact hP.sub [] rfl, hD.sub [] (by decide) rfl⟩, hS.F ht⟩) hS.2.2 dX11_isCellOrNone_16
set_option maxHeartbeats 4000000 in
set_option maxRecDepth 100000 in
theorem x_isHourX (l : Launch) (G : g5_G) (sz : Nat) (p_v : Int32) : Met l yX11_isHour (wsG yX11_isHour cX11_isHour 1 (some .boolean)) ({ frames := 0, cells := 0, slots := 0, locals := 0 }) (va_Pc [.int p_v] (g5_P G [] sz)) (va_Qi (fun (r : Int32) (u : va_W) => ((0 ≤ p_v.toInt ∧ p_v.toInt ≤ 23) ∧ (r = 1) ∧ (u = [])) ∨ ((p_v.toInt < 0 ∨ 23 < p_v.toInt) ∧ (r = 0) ∧ (u = []))) (g5_B G (va_A [] sz)) (va_A [] sz)) 0 0 (va_A [] sz) := by
  refine Met.ofW (cc := cX11_isHour) (maxL := 1) (ret := (some .boolean)) (by decide) rfl ?_
  intro p e s m args below meth c s₁ B hml hv
  obtain ⟨rfl, hsz, hP, hK, hD0, hN, hT⟩ := hv
  have hx := B.exec
  have hb := B.bytes
  have hr := B.returns
  have hts : ∀ w ∈ tblG, w.before _ s = true := fun w h => atoms_spec (ws := (wsG yX11_isHour cX11_isHour 1 (some .boolean))) B.pre w (List.mem_cons_of_mem _ h)
  have hown : s.vm.findClass RX11 = some m.cls := findClass_of_methodNamed B.named
  have hlocks := B.notSynchronized
  subst hsz
  have hD := hD0.self (sz := s.heap.size)
  generalize hAe : va_A [] s.heap.size = A at hD hT ⊢
  have hA : ∀ q : Nat, s.heap.size ≤ q → A q := fun q h => by rw [← hAe]; exact Or.inr h
  have hS : va_S A s.heap s.heap [] := va_S.rf
  have hP : va_P G.1 vwCl [] s.heap := hP
  have hl := lv_entry ([.int p_v]) (n := 1) (Nat.le_of_ble_eq_true rfl)
  rw [lg_entry_eq]
  generalize (lg_sl ([.int p_v]) ++ List.replicate (1 - (lg_sl ([.int p_v])).length) Slot.unset).toArray = ls at hl ⊢
  have hl : lv_has ls 1 [(0, .int p_v)] := hl
  refine lv_iload_n hx hb dX11_isHour_0 rfl (lv_at hl 0 rfl) ?_
  refine lv_if_lt (tgt := 14) hx hb dX11_isHour_1 (by decide) (fun c_1 => ?_) (fun c_1 => ?_)
  ·
    have i_1 : p_v.toInt < 0 := by have z := g5_lt (a := p_v.toInt) (b := 0) (by rfl) (by decide) c_1; omega
    refine lv_iconst (v := 0) hx hb dX11_isHour_14 (by decide) ?_
    exact W.zret (v := 0) hx hb hr rfl (fun t ht hW => ⟨⟨0, [], rfl, Or.inr (⟨by omega, rfl, rfl⟩), by rw [ht]; exact hP.sub [] rfl, hD.sub [] (by decide) rfl⟩, hS.F ht⟩) hS.2.2 dX11_isHour_15
  ·
    have i_1 : p_v.toInt ≥ 0 := by have z := g5_ltN (a := p_v.toInt) (b := 0) (by rfl) (by decide) c_1; omega
    refine lv_iload_n hx hb dX11_isHour_4 rfl (lv_at hl 0 rfl) ?_
    refine lv_bipush (v := 24) hx hb dX11_isHour_5 (by decide) ?_
    refine lv_icmp_ge (tgt := 14) hx hb dX11_isHour_7 (by decide) (fun c_2 => ?_) (fun c_2 => ?_)
    ·
      have i_2 : p_v.toInt ≥ 24 := by have z := g5_ge (a := p_v.toInt) (b := 24) (by rfl) (by decide) c_2; omega
      refine lv_iconst (v := 0) hx hb dX11_isHour_14 (by decide) ?_
      exact W.zret (v := 0) hx hb hr rfl (fun t ht hW => ⟨⟨0, [], rfl, Or.inr (⟨by omega, rfl, rfl⟩), by rw [ht]; exact hP.sub [] rfl, hD.sub [] (by decide) rfl⟩, hS.F ht⟩) hS.2.2 dX11_isHour_15
    ·
      have i_2 : p_v.toInt < 24 := by have z := g5_geN (a := p_v.toInt) (b := 24) (by rfl) (by decide) c_2; omega
      refine lv_iconst (v := 1) hx hb dX11_isHour_10 (by decide) ?_
      refine lv_goto (tgt := 15) hx hb dX11_isHour_11 (by decide) ?_
      exact W.zret (v := 1) hx hb hr rfl (fun t ht hW => ⟨⟨1, [], rfl, Or.inl (⟨by omega, rfl, rfl⟩), by rw [ht]; exact hP.sub [] rfl, hD.sub [] (by decide) rfl⟩, hS.F ht⟩) hS.2.2 dX11_isHour_15
set_option maxHeartbeats 4000000 in
set_option maxRecDepth 100000 in
theorem x_isSortX (l : Launch) (G : g5_G) (sz : Nat) (p_v : Int32) : Met l yX11_isSort (wsG yX11_isSort cX11_isSort 1 (some .boolean)) ({ frames := 0, cells := 0, slots := 0, locals := 0 }) (va_Pc [.int p_v] (g5_P G [] sz)) (va_Qi (fun (r : Int32) (u : va_W) => ((0 ≤ p_v.toInt ∧ p_v.toInt ≤ 5) ∧ (r = 1) ∧ (u = [])) ∨ ((p_v.toInt < 0 ∨ 5 < p_v.toInt) ∧ (r = 0) ∧ (u = []))) (g5_B G (va_A [] sz)) (va_A [] sz)) 0 0 (va_A [] sz) := by
  refine Met.ofW (cc := cX11_isSort) (maxL := 1) (ret := (some .boolean)) (by decide) rfl ?_
  intro p e s m args below meth c s₁ B hml hv
  obtain ⟨rfl, hsz, hP, hK, hD0, hN, hT⟩ := hv
  have hx := B.exec
  have hb := B.bytes
  have hr := B.returns
  have hts : ∀ w ∈ tblG, w.before _ s = true := fun w h => atoms_spec (ws := (wsG yX11_isSort cX11_isSort 1 (some .boolean))) B.pre w (List.mem_cons_of_mem _ h)
  have hown : s.vm.findClass RX11 = some m.cls := findClass_of_methodNamed B.named
  have hlocks := B.notSynchronized
  subst hsz
  have hD := hD0.self (sz := s.heap.size)
  generalize hAe : va_A [] s.heap.size = A at hD hT ⊢
  have hA : ∀ q : Nat, s.heap.size ≤ q → A q := fun q h => by rw [← hAe]; exact Or.inr h
  have hS : va_S A s.heap s.heap [] := va_S.rf
  have hP : va_P G.1 vwCl [] s.heap := hP
  have hl := lv_entry ([.int p_v]) (n := 1) (Nat.le_of_ble_eq_true rfl)
  rw [lg_entry_eq]
  generalize (lg_sl ([.int p_v]) ++ List.replicate (1 - (lg_sl ([.int p_v])).length) Slot.unset).toArray = ls at hl ⊢
  have hl : lv_has ls 1 [(0, .int p_v)] := hl
  refine lv_iload_n hx hb dX11_isSort_0 rfl (lv_at hl 0 rfl) ?_
  refine lv_if_lt (tgt := 14) hx hb dX11_isSort_1 (by decide) (fun c_1 => ?_) (fun c_1 => ?_)
  ·
    have i_1 : p_v.toInt < 0 := by have z := g5_lt (a := p_v.toInt) (b := 0) (by rfl) (by decide) c_1; omega
    refine lv_iconst (v := 0) hx hb dX11_isSort_14 (by decide) ?_
    exact W.zret (v := 0) hx hb hr rfl (fun t ht hW => ⟨⟨0, [], rfl, Or.inr (⟨by omega, rfl, rfl⟩), by rw [ht]; exact hP.sub [] rfl, hD.sub [] (by decide) rfl⟩, hS.F ht⟩) hS.2.2 dX11_isSort_15
  ·
    have i_1 : p_v.toInt ≥ 0 := by have z := g5_ltN (a := p_v.toInt) (b := 0) (by rfl) (by decide) c_1; omega
    refine lv_iload_n hx hb dX11_isSort_4 rfl (lv_at hl 0 rfl) ?_
    refine lv_bipush (v := 6) hx hb dX11_isSort_5 (by decide) ?_
    refine lv_icmp_ge (tgt := 14) hx hb dX11_isSort_7 (by decide) (fun c_2 => ?_) (fun c_2 => ?_)
    ·
      have i_2 : p_v.toInt ≥ 6 := by have z := g5_ge (a := p_v.toInt) (b := 6) (by rfl) (by decide) c_2; omega
      refine lv_iconst (v := 0) hx hb dX11_isSort_14 (by decide) ?_
      exact W.zret (v := 0) hx hb hr rfl (fun t ht hW => ⟨⟨0, [], rfl, Or.inr (⟨by omega, rfl, rfl⟩), by rw [ht]; exact hP.sub [] rfl, hD.sub [] (by decide) rfl⟩, hS.F ht⟩) hS.2.2 dX11_isSort_15
    ·
      have i_2 : p_v.toInt < 6 := by have z := g5_geN (a := p_v.toInt) (b := 6) (by rfl) (by decide) c_2; omega
      refine lv_iconst (v := 1) hx hb dX11_isSort_10 (by decide) ?_
      refine lv_goto (tgt := 15) hx hb dX11_isSort_11 (by decide) ?_
      exact W.zret (v := 1) hx hb hr rfl (fun t ht hW => ⟨⟨1, [], rfl, Or.inl (⟨by omega, rfl, rfl⟩), by rw [ht]; exact hP.sub [] rfl, hD.sub [] (by decide) rfl⟩, hS.F ht⟩) hS.2.2 dX11_isSort_15
set_option maxHeartbeats 4000000 in
set_option maxRecDepth 100000 in
theorem x_isDustX (l : Launch) (G : g5_G) (sz : Nat) (p_v : Int32) : Met l yX11_isDust (wsG yX11_isDust cX11_isDust 1 (some .boolean)) ({ frames := 0, cells := 0, slots := 0, locals := 0 }) (va_Pc [.int p_v] (g5_P G [] sz)) (va_Qi (fun (r : Int32) (u : va_W) => ((0 ≤ p_v.toInt ∧ p_v.toInt ≤ 10) ∧ (r = 1) ∧ (u = [])) ∨ ((p_v.toInt < 0 ∨ 10 < p_v.toInt) ∧ (r = 0) ∧ (u = []))) (g5_B G (va_A [] sz)) (va_A [] sz)) 0 0 (va_A [] sz) := by
  refine Met.ofW (cc := cX11_isDust) (maxL := 1) (ret := (some .boolean)) (by decide) rfl ?_
  intro p e s m args below meth c s₁ B hml hv
  obtain ⟨rfl, hsz, hP, hK, hD0, hN, hT⟩ := hv
  have hx := B.exec
  have hb := B.bytes
  have hr := B.returns
  have hts : ∀ w ∈ tblG, w.before _ s = true := fun w h => atoms_spec (ws := (wsG yX11_isDust cX11_isDust 1 (some .boolean))) B.pre w (List.mem_cons_of_mem _ h)
  have hown : s.vm.findClass RX11 = some m.cls := findClass_of_methodNamed B.named
  have hlocks := B.notSynchronized
  subst hsz
  have hD := hD0.self (sz := s.heap.size)
  generalize hAe : va_A [] s.heap.size = A at hD hT ⊢
  have hA : ∀ q : Nat, s.heap.size ≤ q → A q := fun q h => by rw [← hAe]; exact Or.inr h
  have hS : va_S A s.heap s.heap [] := va_S.rf
  have hP : va_P G.1 vwCl [] s.heap := hP
  have hl := lv_entry ([.int p_v]) (n := 1) (Nat.le_of_ble_eq_true rfl)
  rw [lg_entry_eq]
  generalize (lg_sl ([.int p_v]) ++ List.replicate (1 - (lg_sl ([.int p_v])).length) Slot.unset).toArray = ls at hl ⊢
  have hl : lv_has ls 1 [(0, .int p_v)] := hl
  refine lv_iload_n hx hb dX11_isDust_0 rfl (lv_at hl 0 rfl) ?_
  refine lv_if_lt (tgt := 14) hx hb dX11_isDust_1 (by decide) (fun c_1 => ?_) (fun c_1 => ?_)
  ·
    have i_1 : p_v.toInt < 0 := by have z := g5_lt (a := p_v.toInt) (b := 0) (by rfl) (by decide) c_1; omega
    refine lv_iconst (v := 0) hx hb dX11_isDust_14 (by decide) ?_
    exact W.zret (v := 0) hx hb hr rfl (fun t ht hW => ⟨⟨0, [], rfl, Or.inr (⟨by omega, rfl, rfl⟩), by rw [ht]; exact hP.sub [] rfl, hD.sub [] (by decide) rfl⟩, hS.F ht⟩) hS.2.2 dX11_isDust_15
  ·
    have i_1 : p_v.toInt ≥ 0 := by have z := g5_ltN (a := p_v.toInt) (b := 0) (by rfl) (by decide) c_1; omega
    refine lv_iload_n hx hb dX11_isDust_4 rfl (lv_at hl 0 rfl) ?_
    refine lv_bipush (v := 10) hx hb dX11_isDust_5 (by decide) ?_
    refine lv_icmp_gt (tgt := 14) hx hb dX11_isDust_7 (by decide) (fun c_2 => ?_) (fun c_2 => ?_)
    ·
      have i_2 : p_v.toInt > 10 := by have z := g5_gt (a := p_v.toInt) (b := 10) (by rfl) (by decide) c_2; omega
      refine lv_iconst (v := 0) hx hb dX11_isDust_14 (by decide) ?_
      exact W.zret (v := 0) hx hb hr rfl (fun t ht hW => ⟨⟨0, [], rfl, Or.inr (⟨by omega, rfl, rfl⟩), by rw [ht]; exact hP.sub [] rfl, hD.sub [] (by decide) rfl⟩, hS.F ht⟩) hS.2.2 dX11_isDust_15
    ·
      have i_2 : p_v.toInt ≤ 10 := by have z := g5_gtN (a := p_v.toInt) (b := 10) (by rfl) (by decide) c_2; omega
      refine lv_iconst (v := 1) hx hb dX11_isDust_10 (by decide) ?_
      refine lv_goto (tgt := 15) hx hb dX11_isDust_11 (by decide) ?_
      exact W.zret (v := 1) hx hb hr rfl (fun t ht hW => ⟨⟨1, [], rfl, Or.inl (⟨by omega, rfl, rfl⟩), by rw [ht]; exact hP.sub [] rfl, hD.sub [] (by decide) rfl⟩, hS.F ht⟩) hS.2.2 dX11_isDust_15
set_option maxHeartbeats 4000000 in
set_option maxRecDepth 100000 in
theorem x_isFlagX (l : Launch) (G : g5_G) (sz : Nat) (p_v : Int32) : Met l yX11_isFlag (wsG yX11_isFlag cX11_isFlag 1 (some .boolean)) ({ frames := 0, cells := 0, slots := 0, locals := 0 }) (va_Pc [.int p_v] (g5_P G [] sz)) (va_Qi (fun (r : Int32) (u : va_W) => ((0 ≤ p_v.toInt ∧ p_v.toInt ≤ 1) ∧ (r = 1) ∧ (u = [])) ∨ ((p_v.toInt < 0 ∨ 1 < p_v.toInt) ∧ (r = 0) ∧ (u = []))) (g5_B G (va_A [] sz)) (va_A [] sz)) 0 0 (va_A [] sz) := by
  refine Met.ofW (cc := cX11_isFlag) (maxL := 1) (ret := (some .boolean)) (by decide) rfl ?_
  intro p e s m args below meth c s₁ B hml hv
  obtain ⟨rfl, hsz, hP, hK, hD0, hN, hT⟩ := hv
  have hx := B.exec
  have hb := B.bytes
  have hr := B.returns
  have hts : ∀ w ∈ tblG, w.before _ s = true := fun w h => atoms_spec (ws := (wsG yX11_isFlag cX11_isFlag 1 (some .boolean))) B.pre w (List.mem_cons_of_mem _ h)
  have hown : s.vm.findClass RX11 = some m.cls := findClass_of_methodNamed B.named
  have hlocks := B.notSynchronized
  subst hsz
  have hD := hD0.self (sz := s.heap.size)
  generalize hAe : va_A [] s.heap.size = A at hD hT ⊢
  have hA : ∀ q : Nat, s.heap.size ≤ q → A q := fun q h => by rw [← hAe]; exact Or.inr h
  have hS : va_S A s.heap s.heap [] := va_S.rf
  have hP : va_P G.1 vwCl [] s.heap := hP
  have hl := lv_entry ([.int p_v]) (n := 1) (Nat.le_of_ble_eq_true rfl)
  rw [lg_entry_eq]
  generalize (lg_sl ([.int p_v]) ++ List.replicate (1 - (lg_sl ([.int p_v])).length) Slot.unset).toArray = ls at hl ⊢
  have hl : lv_has ls 1 [(0, .int p_v)] := hl
  refine lv_iload_n hx hb dX11_isFlag_0 rfl (lv_at hl 0 rfl) ?_
  refine lv_if_eq (tgt := 9) hx hb dX11_isFlag_1 (by decide) (fun c_1 => ?_) (fun c_1 => ?_)
  ·
    have i_1 : p_v.toInt = 0 := by have z := g5_eq (a := p_v.toInt) (b := 0) (by rfl) (by decide) c_1; omega
    refine lv_iconst (v := 1) hx hb dX11_isFlag_9 (by decide) ?_
    refine lv_goto (tgt := 14) hx hb dX11_isFlag_10 (by decide) ?_
    exact W.zret (v := 1) hx hb hr rfl (fun t ht hW => ⟨⟨1, [], rfl, Or.inl (⟨by omega, rfl, rfl⟩), by rw [ht]; exact hP.sub [] rfl, hD.sub [] (by decide) rfl⟩, hS.F ht⟩) hS.2.2 dX11_isFlag_14
  ·
    have n_1 : gNe (p_v.toInt) (0) := by have z := g5_eqN (a := p_v.toInt) (b := 0) (by rfl) (by decide) c_1; unfold gNe; omega
    refine lv_iload_n hx hb dX11_isFlag_4 rfl (lv_at hl 0 rfl) ?_
    refine lv_iconst (v := 1) hx hb dX11_isFlag_5 (by decide) ?_
    refine lv_icmp_ne (tgt := 13) hx hb dX11_isFlag_6 (by decide) (fun c_2 => ?_) (fun c_2 => ?_)
    ·
      have n_2 : gNe (p_v.toInt) (1) := by have z := g5_ne (a := p_v.toInt) (b := 1) (by rfl) (by decide) c_2; unfold gNe; omega
      refine lv_iconst (v := 0) hx hb dX11_isFlag_13 (by decide) ?_
      exact W.zret (v := 0) hx hb hr rfl (fun t ht hW => ⟨⟨0, [], rfl, Or.inr (⟨by have q0_ : ¬ (p_v.toInt = 0) := n_1; have q1_ : ¬ (p_v.toInt = 1) := n_2; omega, rfl, rfl⟩), by rw [ht]; exact hP.sub [] rfl, hD.sub [] (by decide) rfl⟩, hS.F ht⟩) hS.2.2 dX11_isFlag_14
    ·
      have i_2 : p_v.toInt = 1 := by have z := g5_neN (a := p_v.toInt) (b := 1) (by rfl) (by decide) c_2; omega
      refine lv_iconst (v := 1) hx hb dX11_isFlag_9 (by decide) ?_
      refine lv_goto (tgt := 14) hx hb dX11_isFlag_10 (by decide) ?_
      exact W.zret (v := 1) hx hb hr rfl (fun t ht hW => ⟨⟨1, [], rfl, Or.inl (⟨by omega, rfl, rfl⟩), by rw [ht]; exact hP.sub [] rfl, hD.sub [] (by decide) rfl⟩, hS.F ht⟩) hS.2.2 dX11_isFlag_14
set_option maxHeartbeats 4000000 in
set_option maxRecDepth 100000 in
theorem x_isStayX (l : Launch) (G : g5_G) (sz : Nat) (p_f : Int32) (p_t : Int32) (p_c : Int32) : Met l yX11_isStay (wsG yX11_isStay cX11_isStay 3 (some .boolean)) ({ frames := 1, cells := 0, slots := 0, locals := 20 }) (va_Pc [.int p_f, .int p_t, .int p_c] (g5_P G [] sz)) (va_Qi (fun (r : Int32) (u : va_W) => ((0 ≤ p_f.toInt ∧ p_f.toInt ≤ 23) ∧ (0 ≤ p_t.toInt ∧ p_t.toInt ≤ 23) ∧ (-1 ≤ p_c.toInt ∧ p_c.toInt ≤ 63) ∧ (p_f.toInt ≤ p_t.toInt) ∧ (okS p_f p_t p_c) ∧ (r = 1) ∧ (u = [])) ∨ ((¬ okS p_f p_t p_c) ∧ (r = 0) ∧ (u = []))) (g5_B G (va_A [] sz)) (va_A [] sz)) 0 0 (va_A [] sz) := by
  refine Met.ofW (cc := cX11_isStay) (maxL := 3) (ret := (some .boolean)) (by decide +kernel) rfl ?_
  intro p e s m args below meth c s₁ B hml hv
  obtain ⟨rfl, hsz, hP, hK, hD0, hN, hT⟩ := hv
  have hx := B.exec
  have hb := B.bytes
  have hr := B.returns
  have hts : ∀ w ∈ tblG, w.before _ s = true := fun w h => atoms_spec (ws := (wsG yX11_isStay cX11_isStay 3 (some .boolean))) B.pre w (List.mem_cons_of_mem _ h)
  have hown : s.vm.findClass RX11 = some m.cls := findClass_of_methodNamed B.named
  have hlocks := B.notSynchronized
  subst hsz
  have hD := hD0.self (sz := s.heap.size)
  generalize hAe : va_A [] s.heap.size = A at hD hT ⊢
  have hA : ∀ q : Nat, s.heap.size ≤ q → A q := fun q h => by rw [← hAe]; exact Or.inr h
  have hS : va_S A s.heap s.heap [] := va_S.rf
  replace hP : va_P G.1 vwCl [] s.heap := hP
  have hl := lv_entry ([.int p_f, .int p_t, .int p_c]) (n := 3) (Nat.le_of_ble_eq_true rfl)
  rw [lg_entry_eq]
  generalize (lg_sl ([.int p_f, .int p_t, .int p_c]) ++ List.replicate (3 - (lg_sl ([.int p_f, .int p_t, .int p_c])).length) Slot.unset).toArray = ls at hl ⊢
  replace hl : lv_has ls 3 [(0, .int p_f), (1, .int p_t), (2, .int p_c)] := hl
  refine lv_iload_n hx hb dX11_isStay_0 rfl (lv_at hl 0 rfl) ?_
  obtain ⟨hPc, hDc, hFc⟩ := g5_sub3 (wc := []) hP hD hS hA [] (by decide +kernel) rfl
  refine va_calli (va_runS (As := [.int p_f]) (rest := []) ⟨hx, hb, hml, hown, hts⟩ (x_isHourX l G s.heap.size p_f) (va_cwS 1 hts gS_X11_127 rfl rfl rfl hs_X11_isHour ⟨Nat.le_of_ble_eq_true rfl, Nat.le_of_ble_eq_true rfl⟩) (g5_preS hPc hK hDc hN hT hS hFc) rfl rfl hl.1 rfl (lv_room (Nat.le_of_ble_eq_true rfl)) dX11_isStay_1 ⟨Nat.le_of_ble_eq_true rfl, Nat.le_of_ble_eq_true rfl⟩) hS (fun q _ h => hFc q h) hFc (fun r u t H locs ht hvm hw hB hz1 hk1 hS => ?_)
  obtain ⟨hP1, hD1⟩ := hB
  have hP1 := g5_ht ht hP1
  rcases hw with ⟨(i_1 : 0 ≤ p_f.toInt ∧ p_f.toInt ≤ 23), rfl, rfl⟩ | ⟨(i_2 : p_f.toInt < 0 ∨ 23 < p_f.toInt), rfl, rfl⟩
  ·
    have hJ9 := g5_same hP hk1
    clear hP hPc hDc hFc ht hvm hz1 hk1 hP1 hD1
    have hP := hJ9
    clear hJ9
    refine lv_if_eq (tgt := 30) hx hb dX11_isStay_4 (by decide +kernel) (fun c_3 => ?_) (fun c_3 => ?_)
    ·
      exact absurd c_3 (by decide +kernel)
    ·
      refine lv_iload_n hx hb dX11_isStay_7 rfl (lv_at hl 1 rfl) ?_
      obtain ⟨hPc, hDc, hFc⟩ := g5_sub3 (wc := []) hP hD hS hA [] (by decide +kernel) rfl
      refine va_calli (va_runS (As := [.int p_t]) (rest := []) ⟨hx, hb, hml, hown, hts⟩ (x_isHourX l G H.size p_t) (va_cwS 1 hts gS_X11_127 rfl rfl rfl hs_X11_isHour ⟨Nat.le_of_ble_eq_true rfl, Nat.le_of_ble_eq_true rfl⟩) (g5_preS hPc hK hDc hN hT hS hFc) rfl rfl hl.1 rfl (lv_room (Nat.le_of_ble_eq_true rfl)) dX11_isStay_8 ⟨Nat.le_of_ble_eq_true rfl, Nat.le_of_ble_eq_true rfl⟩) hS (fun q _ h => hFc q h) hFc (fun r u t H locs ht hvm hw hB hz1 hk1 hS => ?_)
      obtain ⟨hP1, hD1⟩ := hB
      have hP1 := g5_ht ht hP1
      rcases hw with ⟨(i_4 : 0 ≤ p_t.toInt ∧ p_t.toInt ≤ 23), rfl, rfl⟩ | ⟨(i_5 : p_t.toInt < 0 ∨ 23 < p_t.toInt), rfl, rfl⟩
      ·
        have hJ9 := g5_same hP hk1
        clear hP hPc hDc hFc ht hvm hz1 hk1 hP1 hD1
        have hP := hJ9
        clear hJ9
        refine lv_if_eq (tgt := 30) hx hb dX11_isStay_11 (by decide +kernel) (fun c_6 => ?_) (fun c_6 => ?_)
        ·
          exact absurd c_6 (by decide +kernel)
        ·
          refine lv_iload_n hx hb dX11_isStay_14 rfl (lv_at hl 1 rfl) ?_
          refine lv_iload_n hx hb dX11_isStay_15 rfl (lv_at hl 0 rfl) ?_
          refine lv_icmp_lt (tgt := 30) hx hb dX11_isStay_16 (by decide +kernel) (fun c_7 => ?_) (fun c_7 => ?_)
          ·
            have i_7 : p_t.toInt < p_f.toInt := g5_lt (a := p_t.toInt) (b := p_f.toInt) rfl rfl c_7
            refine lv_iconst (v := 0) hx hb dX11_isStay_30 (by decide +kernel) ?_
            exact W.zret (v := 0) hx hb hr rfl (fun t ht hW => ⟨⟨0, [], rfl, Or.inr (⟨by unfold okS; omega, rfl, rfl⟩), by rw [ht]; exact hP.sub [] rfl, hD.sub [] (by decide +kernel) rfl⟩, hS.F ht⟩) hS.2.2 dX11_isStay_31
          ·
            have i_7 : p_t.toInt ≥ p_f.toInt := g5_ltN (a := p_t.toInt) (b := p_f.toInt) rfl rfl c_7
            refine lv_iload_n hx hb dX11_isStay_19 rfl (lv_at hl 2 rfl) ?_
            obtain ⟨hPc, hDc, hFc⟩ := g5_sub3 (wc := []) hP hD hS hA [] (by decide +kernel) rfl
            refine va_calli (va_runS (As := [.int p_c]) (rest := []) ⟨hx, hb, hml, hown, hts⟩ (x_isCellOrNoneX l G H.size p_c) (va_cwS 1 hts gS_X11_241 rfl rfl rfl hs_X11_isCellOrNone ⟨Nat.le_of_ble_eq_true rfl, Nat.le_of_ble_eq_true rfl⟩) (g5_preS hPc hK hDc hN hT hS hFc) rfl rfl hl.1 rfl (lv_room (Nat.le_of_ble_eq_true rfl)) dX11_isStay_20 ⟨Nat.le_of_ble_eq_true rfl, Nat.le_of_ble_eq_true rfl⟩) hS (fun q _ h => hFc q h) hFc (fun r u t H locs ht hvm hw hB hz1 hk1 hS => ?_)
            obtain ⟨hP1, hD1⟩ := hB
            have hP1 := g5_ht ht hP1
            rcases hw with ⟨(i_8 : (-1) ≤ p_c.toInt ∧ p_c.toInt ≤ 63), rfl, rfl⟩ | ⟨(i_9 : p_c.toInt < (-1) ∨ 63 < p_c.toInt), rfl, rfl⟩
            ·
              have hJ9 := g5_same hP hk1
              clear hP hPc hDc hFc ht hvm hz1 hk1 hP1 hD1
              have hP := hJ9
              clear hJ9
              refine lv_if_eq (tgt := 30) hx hb dX11_isStay_23 (by decide +kernel) (fun c_10 => ?_) (fun c_10 => ?_)
              ·
                exact absurd c_10 (by decide +kernel)
              ·
                refine lv_iconst (v := 1) hx hb dX11_isStay_26 (by decide +kernel) ?_
                refine lv_goto (tgt := 31) hx hb dX11_isStay_27 (by decide +kernel) ?_
                exact W.zret (v := 1) hx hb hr rfl (fun t ht hW => ⟨⟨1, [], rfl, Or.inl (⟨i_1, i_4, by omega, by omega, by unfold okS; omega, rfl, rfl⟩), by rw [ht]; exact hP.sub [] rfl, hD.sub [] (by decide +kernel) rfl⟩, hS.F ht⟩) hS.2.2 dX11_isStay_31
            ·
              have hJ9 := g5_same hP hk1
              clear hP hPc hDc hFc ht hvm hz1 hk1 hP1 hD1
              have hP := hJ9
              clear hJ9
              refine lv_if_eq (tgt := 30) hx hb dX11_isStay_23 (by decide +kernel) (fun c_11 => ?_) (fun c_11 => ?_)
              ·
                refine lv_iconst (v := 0) hx hb dX11_isStay_30 (by decide +kernel) ?_
                exact W.zret (v := 0) hx hb hr rfl (fun t ht hW => ⟨⟨0, [], rfl, Or.inr (⟨by unfold okS; omega, rfl, rfl⟩), by rw [ht]; exact hP.sub [] rfl, hD.sub [] (by decide +kernel) rfl⟩, hS.F ht⟩) hS.2.2 dX11_isStay_31
              ·
                exact absurd c_11 (by decide +kernel)
      ·
        have hJ9 := g5_same hP hk1
        clear hP hPc hDc hFc ht hvm hz1 hk1 hP1 hD1
        have hP := hJ9
        clear hJ9
        refine lv_if_eq (tgt := 30) hx hb dX11_isStay_11 (by decide +kernel) (fun c_12 => ?_) (fun c_12 => ?_)
        ·
          refine lv_iconst (v := 0) hx hb dX11_isStay_30 (by decide +kernel) ?_
          exact W.zret (v := 0) hx hb hr rfl (fun t ht hW => ⟨⟨0, [], rfl, Or.inr (⟨by unfold okS; omega, rfl, rfl⟩), by rw [ht]; exact hP.sub [] rfl, hD.sub [] (by decide +kernel) rfl⟩, hS.F ht⟩) hS.2.2 dX11_isStay_31
        ·
          exact absurd c_12 (by decide +kernel)
  ·
    have hJ9 := g5_same hP hk1
    clear hP hPc hDc hFc ht hvm hz1 hk1 hP1 hD1
    have hP := hJ9
    clear hJ9
    refine lv_if_eq (tgt := 30) hx hb dX11_isStay_4 (by decide +kernel) (fun c_13 => ?_) (fun c_13 => ?_)
    ·
      refine lv_iconst (v := 0) hx hb dX11_isStay_30 (by decide +kernel) ?_
      exact W.zret (v := 0) hx hb hr rfl (fun t ht hW => ⟨⟨0, [], rfl, Or.inr (⟨by unfold okS; omega, rfl, rfl⟩), by rw [ht]; exact hP.sub [] rfl, hD.sub [] (by decide +kernel) rfl⟩, hS.F ht⟩) hS.2.2 dX11_isStay_31
    ·
      exact absurd c_13 (by decide +kernel)
set_option maxHeartbeats 4000000 in
set_option maxRecDepth 100000 in
theorem x_isTurnX (l : Launch) (G : g5_G) (sz : Nat) (p_w : Int32) (p_v : Int32) : Met l yX11_isTurn (wsG yX11_isTurn cX11_isTurn 2 (some .boolean)) ({ frames := 1, cells := 0, slots := 0, locals := 20 }) (va_Pc [.int p_w, .int p_v] (g5_P G [] sz)) (va_Qi (fun (r : Int32) (u : va_W) => ((okT p_w p_v) ∧ (0 ≤ p_w.toInt ∧ p_w.toInt ≤ 3) ∧ (r = 1) ∧ (u = [])) ∨ ((¬ okT p_w p_v) ∧ (r = 0) ∧ (u = []))) (g5_B G (va_A [] sz)) (va_A [] sz)) 0 0 (va_A [] sz) := by
  refine Met.ofW (cc := cX11_isTurn) (maxL := 2) (ret := (some .boolean)) (by decide +kernel) rfl ?_
  intro p e s m args below meth c s₁ B hml hv
  obtain ⟨rfl, hsz, hP, hK, hD0, hN, hT⟩ := hv
  have hx := B.exec
  have hb := B.bytes
  have hr := B.returns
  have hts : ∀ w ∈ tblG, w.before _ s = true := fun w h => atoms_spec (ws := (wsG yX11_isTurn cX11_isTurn 2 (some .boolean))) B.pre w (List.mem_cons_of_mem _ h)
  have hown : s.vm.findClass RX11 = some m.cls := findClass_of_methodNamed B.named
  have hlocks := B.notSynchronized
  subst hsz
  have hD := hD0.self (sz := s.heap.size)
  generalize hAe : va_A [] s.heap.size = A at hD hT ⊢
  have hA : ∀ q : Nat, s.heap.size ≤ q → A q := fun q h => by rw [← hAe]; exact Or.inr h
  have hS : va_S A s.heap s.heap [] := va_S.rf
  replace hP : va_P G.1 vwCl [] s.heap := hP
  have hl := lv_entry ([.int p_w, .int p_v]) (n := 2) (Nat.le_of_ble_eq_true rfl)
  rw [lg_entry_eq]
  generalize (lg_sl ([.int p_w, .int p_v]) ++ List.replicate (2 - (lg_sl ([.int p_w, .int p_v])).length) Slot.unset).toArray = ls at hl ⊢
  replace hl : lv_has ls 2 [(0, .int p_w), (1, .int p_v)] := hl
  refine lv_iload_n hx hb dX11_isTurn_0 rfl (lv_at hl 0 rfl) ?_
  refine lv_iconst (v := 1) hx hb dX11_isTurn_1 (by decide +kernel) ?_
  refine lv_iadd hx hb dX11_isTurn_2 ?_
  have hw_1 := g_inc2 p_w
  rcases (show (p_w + 1).toInt = 1 ∨ (p_w + 1).toInt = 2 ∨ (p_w + 1).toInt = 3 ∨ (p_w + 1).toInt = 4 ∨ (p_w + 1).toInt < 1 ∨ (p_w + 1).toInt > 4 by omega) with s_2 | s_2 | s_2 | s_2 | s_2 | s_2
  ·
    have i_2 : (p_w + 1).toInt = 1 := by omega
    refine lv_tableIn (tgt := 32) hx hb dX11_isTurn_3 (by omega) (by omega) (by rw [s_2]; rfl) (by decide +kernel) ?_
    refine lv_iload_n hx hb dX11_isTurn_32 rfl (lv_at hl 1 rfl) ?_
    obtain ⟨hPc, hDc, hFc⟩ := g5_sub3 (wc := []) hP hD hS hA [] (by decide +kernel) rfl
    refine va_calli (va_runS (As := [.int p_v]) (rest := []) ⟨hx, hb, hml, hown, hts⟩ (x_isSortX l G s.heap.size p_v) (va_cwS 1 hts gS_X11_124 rfl rfl rfl hs_X11_isSort ⟨Nat.le_of_ble_eq_true rfl, Nat.le_of_ble_eq_true rfl⟩) (g5_preS hPc hK hDc hN hT hS hFc) rfl rfl hl.1 rfl (lv_room (Nat.le_of_ble_eq_true rfl)) dX11_isTurn_33 ⟨Nat.le_of_ble_eq_true rfl, Nat.le_of_ble_eq_true rfl⟩) hS (fun q _ h => hFc q h) hFc (fun r u t H locs ht hvm hw hB hz1 hk1 hS => ?_)
    obtain ⟨hP1, hD1⟩ := hB
    have hP1 := g5_ht ht hP1
    rcases hw with ⟨(i_3 : 0 ≤ p_v.toInt ∧ p_v.toInt ≤ 5), rfl, rfl⟩ | ⟨(i_4 : p_v.toInt < 0 ∨ 5 < p_v.toInt), rfl, rfl⟩
    ·
      have hJ9 := g5_same hP hk1
      clear hP hPc hDc hFc ht hvm hz1 hk1 hP1 hD1
      have hP := hJ9
      clear hJ9
      exact W.zret (v := 1) hx hb hr rfl (fun t ht hW => ⟨⟨1, [], rfl, Or.inl (⟨by unfold okT; omega, by omega, rfl, rfl⟩), by rw [ht]; exact hP.sub [] rfl, hD.sub [] (by decide +kernel) rfl⟩, hS.F ht⟩) hS.2.2 dX11_isTurn_36
    ·
      have hJ9 := g5_same hP hk1
      clear hP hPc hDc hFc ht hvm hz1 hk1 hP1 hD1
      have hP := hJ9
      clear hJ9
      exact W.zret (v := 0) hx hb hr rfl (fun t ht hW => ⟨⟨0, [], rfl, Or.inr (⟨by unfold okT; omega, rfl, rfl⟩), by rw [ht]; exact hP.sub [] rfl, hD.sub [] (by decide +kernel) rfl⟩, hS.F ht⟩) hS.2.2 dX11_isTurn_36
  ·
    have i_2 : (p_w + 1).toInt = 2 := by omega
    refine lv_tableIn (tgt := 37) hx hb dX11_isTurn_3 (by omega) (by omega) (by rw [s_2]; rfl) (by decide +kernel) ?_
    refine lv_iload_n hx hb dX11_isTurn_37 rfl (lv_at hl 1 rfl) ?_
    obtain ⟨hPc, hDc, hFc⟩ := g5_sub3 (wc := []) hP hD hS hA [] (by decide +kernel) rfl
    refine va_calli (va_runS (As := [.int p_v]) (rest := []) ⟨hx, hb, hml, hown, hts⟩ (x_isHourX l G s.heap.size p_v) (va_cwS 1 hts gS_X11_127 rfl rfl rfl hs_X11_isHour ⟨Nat.le_of_ble_eq_true rfl, Nat.le_of_ble_eq_true rfl⟩) (g5_preS hPc hK hDc hN hT hS hFc) rfl rfl hl.1 rfl (lv_room (Nat.le_of_ble_eq_true rfl)) dX11_isTurn_38 ⟨Nat.le_of_ble_eq_true rfl, Nat.le_of_ble_eq_true rfl⟩) hS (fun q _ h => hFc q h) hFc (fun r u t H locs ht hvm hw hB hz1 hk1 hS => ?_)
    obtain ⟨hP1, hD1⟩ := hB
    have hP1 := g5_ht ht hP1
    rcases hw with ⟨(i_5 : 0 ≤ p_v.toInt ∧ p_v.toInt ≤ 23), rfl, rfl⟩ | ⟨(i_6 : p_v.toInt < 0 ∨ 23 < p_v.toInt), rfl, rfl⟩
    ·
      have hJ9 := g5_same hP hk1
      clear hP hPc hDc hFc ht hvm hz1 hk1 hP1 hD1
      have hP := hJ9
      clear hJ9
      exact W.zret (v := 1) hx hb hr rfl (fun t ht hW => ⟨⟨1, [], rfl, Or.inl (⟨by unfold okT; omega, by omega, rfl, rfl⟩), by rw [ht]; exact hP.sub [] rfl, hD.sub [] (by decide +kernel) rfl⟩, hS.F ht⟩) hS.2.2 dX11_isTurn_41
    ·
      have hJ9 := g5_same hP hk1
      clear hP hPc hDc hFc ht hvm hz1 hk1 hP1 hD1
      have hP := hJ9
      clear hJ9
      exact W.zret (v := 0) hx hb hr rfl (fun t ht hW => ⟨⟨0, [], rfl, Or.inr (⟨by unfold okT; omega, rfl, rfl⟩), by rw [ht]; exact hP.sub [] rfl, hD.sub [] (by decide +kernel) rfl⟩, hS.F ht⟩) hS.2.2 dX11_isTurn_41
  ·
    have i_2 : (p_w + 1).toInt = 3 := by omega
    refine lv_tableIn (tgt := 42) hx hb dX11_isTurn_3 (by omega) (by omega) (by rw [s_2]; rfl) (by decide +kernel) ?_
    refine lv_iload_n hx hb dX11_isTurn_42 rfl (lv_at hl 1 rfl) ?_
    obtain ⟨hPc, hDc, hFc⟩ := g5_sub3 (wc := []) hP hD hS hA [] (by decide +kernel) rfl
    refine va_calli (va_runS (As := [.int p_v]) (rest := []) ⟨hx, hb, hml, hown, hts⟩ (x_isDustX l G s.heap.size p_v) (va_cwS 1 hts gS_X11_130 rfl rfl rfl hs_X11_isDust ⟨Nat.le_of_ble_eq_true rfl, Nat.le_of_ble_eq_true rfl⟩) (g5_preS hPc hK hDc hN hT hS hFc) rfl rfl hl.1 rfl (lv_room (Nat.le_of_ble_eq_true rfl)) dX11_isTurn_43 ⟨Nat.le_of_ble_eq_true rfl, Nat.le_of_ble_eq_true rfl⟩) hS (fun q _ h => hFc q h) hFc (fun r u t H locs ht hvm hw hB hz1 hk1 hS => ?_)
    obtain ⟨hP1, hD1⟩ := hB
    have hP1 := g5_ht ht hP1
    rcases hw with ⟨(i_7 : 0 ≤ p_v.toInt ∧ p_v.toInt ≤ 10), rfl, rfl⟩ | ⟨(i_8 : p_v.toInt < 0 ∨ 10 < p_v.toInt), rfl, rfl⟩
    ·
      have hJ9 := g5_same hP hk1
      clear hP hPc hDc hFc ht hvm hz1 hk1 hP1 hD1
      have hP := hJ9
      clear hJ9
      exact W.zret (v := 1) hx hb hr rfl (fun t ht hW => ⟨⟨1, [], rfl, Or.inl (⟨by unfold okT; omega, by omega, rfl, rfl⟩), by rw [ht]; exact hP.sub [] rfl, hD.sub [] (by decide +kernel) rfl⟩, hS.F ht⟩) hS.2.2 dX11_isTurn_46
    ·
      have hJ9 := g5_same hP hk1
      clear hP hPc hDc hFc ht hvm hz1 hk1 hP1 hD1
      have hP := hJ9
      clear hJ9
      exact W.zret (v := 0) hx hb hr rfl (fun t ht hW => ⟨⟨0, [], rfl, Or.inr (⟨by unfold okT; omega, rfl, rfl⟩), by rw [ht]; exact hP.sub [] rfl, hD.sub [] (by decide +kernel) rfl⟩, hS.F ht⟩) hS.2.2 dX11_isTurn_46
  ·
    have i_2 : (p_w + 1).toInt = 4 := by omega
    refine lv_tableIn (tgt := 47) hx hb dX11_isTurn_3 (by omega) (by omega) (by rw [s_2]; rfl) (by decide +kernel) ?_
    refine lv_iload_n hx hb dX11_isTurn_47 rfl (lv_at hl 1 rfl) ?_
    refine lv_if_lt (tgt := 62) hx hb dX11_isTurn_48 (by decide +kernel) (fun c_9 => ?_) (fun c_9 => ?_)
    ·
      have i_9 : p_v.toInt < 0 := g5_lt (a := p_v.toInt) (b := 0) rfl (by decide +kernel) c_9
      refine lv_iconst (v := 0) hx hb dX11_isTurn_62 (by decide +kernel) ?_
      exact W.zret (v := 0) hx hb hr rfl (fun t ht hW => ⟨⟨0, [], rfl, Or.inr (⟨by unfold okT; omega, rfl, rfl⟩), by rw [ht]; exact hP.sub [] rfl, hD.sub [] (by decide +kernel) rfl⟩, hS.F ht⟩) hS.2.2 dX11_isTurn_63
    ·
      have i_9 : p_v.toInt ≥ 0 := g5_ltN (a := p_v.toInt) (b := 0) rfl (by decide +kernel) c_9
      refine lv_iload_n hx hb dX11_isTurn_51 rfl (lv_at hl 1 rfl) ?_
      refine lv_ldcw (v := 16777216) hx hb hown (hts _ ki_X11_357) dX11_isTurn_52 ?_
      refine lv_icmp_ge (tgt := 62) hx hb dX11_isTurn_55 (by decide +kernel) (fun c_10 => ?_) (fun c_10 => ?_)
      ·
        have i_10 : p_v.toInt ≥ 16777216 := g5_ge (a := p_v.toInt) (b := 16777216) rfl (by decide +kernel) c_10
        refine lv_iconst (v := 0) hx hb dX11_isTurn_62 (by decide +kernel) ?_
        exact W.zret (v := 0) hx hb hr rfl (fun t ht hW => ⟨⟨0, [], rfl, Or.inr (⟨by unfold okT; omega, rfl, rfl⟩), by rw [ht]; exact hP.sub [] rfl, hD.sub [] (by decide +kernel) rfl⟩, hS.F ht⟩) hS.2.2 dX11_isTurn_63
      ·
        have i_10 : p_v.toInt < 16777216 := g5_geN (a := p_v.toInt) (b := 16777216) rfl (by decide +kernel) c_10
        refine lv_iconst (v := 1) hx hb dX11_isTurn_58 (by decide +kernel) ?_
        refine lv_goto (tgt := 63) hx hb dX11_isTurn_59 (by decide +kernel) ?_
        exact W.zret (v := 1) hx hb hr rfl (fun t ht hW => ⟨⟨1, [], rfl, Or.inl (⟨by unfold okT; omega, by omega, rfl, rfl⟩), by rw [ht]; exact hP.sub [] rfl, hD.sub [] (by decide +kernel) rfl⟩, hS.F ht⟩) hS.2.2 dX11_isTurn_63
  ·
    have i_2 : (p_w + 1).toInt < 1 := by omega
    refine lv_tableOut (tgt := 64) hx hb dX11_isTurn_3 (by omega) (by decide +kernel) ?_
    refine lv_iconst (v := 0) hx hb dX11_isTurn_64 (by decide +kernel) ?_
    exact W.zret (v := 0) hx hb hr rfl (fun t ht hW => ⟨⟨0, [], rfl, Or.inr (⟨by unfold okT; omega, rfl, rfl⟩), by rw [ht]; exact hP.sub [] rfl, hD.sub [] (by decide +kernel) rfl⟩, hS.F ht⟩) hS.2.2 dX11_isTurn_65
  ·
    have i_2 : (p_w + 1).toInt > 4 := by omega
    refine lv_tableOut (tgt := 64) hx hb dX11_isTurn_3 (by omega) (by decide +kernel) ?_
    refine lv_iconst (v := 0) hx hb dX11_isTurn_64 (by decide +kernel) ?_
    exact W.zret (v := 0) hx hb hr rfl (fun t ht hW => ⟨⟨0, [], rfl, Or.inr (⟨by unfold okT; omega, rfl, rfl⟩), by rw [ht]; exact hP.sub [] rfl, hD.sub [] (by decide +kernel) rfl⟩, hS.F ht⟩) hS.2.2 dX11_isTurn_65
set_option maxHeartbeats 4000000 in
set_option maxRecDepth 100000 in
theorem x_isLookX (l : Launch) (G : g5_G) (sz : Nat) (p_c : Int32) (p_w : Int32) (p_h : Int32) : Met l yX11_isLook (wsG yX11_isLook cX11_isLook 3 (some .boolean)) ({ frames := 1, cells := 0, slots := 0, locals := 20 }) (va_Pc [.int p_c, .int p_w, .int p_h] (g5_P G [] sz)) (va_Qi (fun (r : Int32) (u : va_W) => ((okL p_c p_w p_h) ∧ (0 ≤ p_c.toInt ∧ p_c.toInt ≤ 63) ∧ (0 ≤ p_w.toInt ∧ p_w.toInt ≤ 3) ∧ (0 ≤ p_h.toInt ∧ p_h.toInt ≤ 23) ∧ (r = 1) ∧ (u = [])) ∨ ((¬ okL p_c p_w p_h) ∧ (r = 0) ∧ (u = []))) (g5_B G (va_A [] sz)) (va_A [] sz)) 0 0 (va_A [] sz) := by
  refine Met.ofW (cc := cX11_isLook) (maxL := 3) (ret := (some .boolean)) (by decide +kernel) rfl ?_
  intro p e s m args below meth c s₁ B hml hv
  obtain ⟨rfl, hsz, hP, hK, hD0, hN, hT⟩ := hv
  have hx := B.exec
  have hb := B.bytes
  have hr := B.returns
  have hts : ∀ w ∈ tblG, w.before _ s = true := fun w h => atoms_spec (ws := (wsG yX11_isLook cX11_isLook 3 (some .boolean))) B.pre w (List.mem_cons_of_mem _ h)
  have hown : s.vm.findClass RX11 = some m.cls := findClass_of_methodNamed B.named
  have hlocks := B.notSynchronized
  subst hsz
  have hD := hD0.self (sz := s.heap.size)
  generalize hAe : va_A [] s.heap.size = A at hD hT ⊢
  have hA : ∀ q : Nat, s.heap.size ≤ q → A q := fun q h => by rw [← hAe]; exact Or.inr h
  have hS : va_S A s.heap s.heap [] := va_S.rf
  replace hP : va_P G.1 vwCl [] s.heap := hP
  have hl := lv_entry ([.int p_c, .int p_w, .int p_h]) (n := 3) (Nat.le_of_ble_eq_true rfl)
  rw [lg_entry_eq]
  generalize (lg_sl ([.int p_c, .int p_w, .int p_h]) ++ List.replicate (3 - (lg_sl ([.int p_c, .int p_w, .int p_h])).length) Slot.unset).toArray = ls at hl ⊢
  replace hl : lv_has ls 3 [(0, .int p_c), (1, .int p_w), (2, .int p_h)] := hl
  refine lv_iload_n hx hb dX11_isLook_0 rfl (lv_at hl 0 rfl) ?_
  obtain ⟨hPc, hDc, hFc⟩ := g5_sub3 (wc := []) hP hD hS hA [] (by decide +kernel) rfl
  refine va_calli (va_runS (As := [.int p_c]) (rest := []) ⟨hx, hb, hml, hown, hts⟩ (x_isCellX l G s.heap.size p_c) (va_cwS 1 hts gS_X11_97 rfl rfl rfl hs_X11_isCell ⟨Nat.le_of_ble_eq_true rfl, Nat.le_of_ble_eq_true rfl⟩) (g5_preS hPc hK hDc hN hT hS hFc) rfl rfl hl.1 rfl (lv_room (Nat.le_of_ble_eq_true rfl)) dX11_isLook_1 ⟨Nat.le_of_ble_eq_true rfl, Nat.le_of_ble_eq_true rfl⟩) hS (fun q _ h => hFc q h) hFc (fun r u t H locs ht hvm hw hB hz1 hk1 hS => ?_)
  obtain ⟨hP1, hD1⟩ := hB
  have hP1 := g5_ht ht hP1
  rcases hw with ⟨(i_1 : 0 ≤ p_c.toInt ∧ p_c.toInt ≤ 63), rfl, rfl⟩ | ⟨(i_2 : p_c.toInt < 0 ∨ 63 < p_c.toInt), rfl, rfl⟩
  ·
    have hJ9 := g5_same hP hk1
    clear hP hPc hDc hFc ht hvm hz1 hk1 hP1 hD1
    have hP := hJ9
    clear hJ9
    refine lv_if_eq (tgt := 27) hx hb dX11_isLook_4 (by decide +kernel) (fun c_3 => ?_) (fun c_3 => ?_)
    ·
      exact absurd c_3 (by decide +kernel)
    ·
      refine lv_iload_n hx hb dX11_isLook_7 rfl (lv_at hl 1 rfl) ?_
      refine lv_if_lt (tgt := 27) hx hb dX11_isLook_8 (by decide +kernel) (fun c_4 => ?_) (fun c_4 => ?_)
      ·
        have i_4 : p_w.toInt < 0 := g5_lt (a := p_w.toInt) (b := 0) rfl (by decide +kernel) c_4
        refine lv_iconst (v := 0) hx hb dX11_isLook_27 (by decide +kernel) ?_
        exact W.zret (v := 0) hx hb hr rfl (fun t ht hW => ⟨⟨0, [], rfl, Or.inr (⟨by unfold okL; omega, rfl, rfl⟩), by rw [ht]; exact hP.sub [] rfl, hD.sub [] (by decide +kernel) rfl⟩, hS.F ht⟩) hS.2.2 dX11_isLook_28
      ·
        have i_4 : p_w.toInt ≥ 0 := g5_ltN (a := p_w.toInt) (b := 0) rfl (by decide +kernel) c_4
        refine lv_iload_n hx hb dX11_isLook_11 rfl (lv_at hl 1 rfl) ?_
        refine lv_iconst (v := 4) hx hb dX11_isLook_12 (by decide +kernel) ?_
        refine lv_icmp_ge (tgt := 27) hx hb dX11_isLook_13 (by decide +kernel) (fun c_5 => ?_) (fun c_5 => ?_)
        ·
          have i_5 : p_w.toInt ≥ 4 := g5_ge (a := p_w.toInt) (b := 4) rfl (by decide +kernel) c_5
          refine lv_iconst (v := 0) hx hb dX11_isLook_27 (by decide +kernel) ?_
          exact W.zret (v := 0) hx hb hr rfl (fun t ht hW => ⟨⟨0, [], rfl, Or.inr (⟨by unfold okL; omega, rfl, rfl⟩), by rw [ht]; exact hP.sub [] rfl, hD.sub [] (by decide +kernel) rfl⟩, hS.F ht⟩) hS.2.2 dX11_isLook_28
        ·
          have i_5 : p_w.toInt < 4 := g5_geN (a := p_w.toInt) (b := 4) rfl (by decide +kernel) c_5
          refine lv_iload_n hx hb dX11_isLook_16 rfl (lv_at hl 2 rfl) ?_
          obtain ⟨hPc, hDc, hFc⟩ := g5_sub3 (wc := []) hP hD hS hA [] (by decide +kernel) rfl
          refine va_calli (va_runS (As := [.int p_h]) (rest := []) ⟨hx, hb, hml, hown, hts⟩ (x_isHourX l G H.size p_h) (va_cwS 1 hts gS_X11_127 rfl rfl rfl hs_X11_isHour ⟨Nat.le_of_ble_eq_true rfl, Nat.le_of_ble_eq_true rfl⟩) (g5_preS hPc hK hDc hN hT hS hFc) rfl rfl hl.1 rfl (lv_room (Nat.le_of_ble_eq_true rfl)) dX11_isLook_17 ⟨Nat.le_of_ble_eq_true rfl, Nat.le_of_ble_eq_true rfl⟩) hS (fun q _ h => hFc q h) hFc (fun r u t H locs ht hvm hw hB hz1 hk1 hS => ?_)
          obtain ⟨hP1, hD1⟩ := hB
          have hP1 := g5_ht ht hP1
          rcases hw with ⟨(i_6 : 0 ≤ p_h.toInt ∧ p_h.toInt ≤ 23), rfl, rfl⟩ | ⟨(i_7 : p_h.toInt < 0 ∨ 23 < p_h.toInt), rfl, rfl⟩
          ·
            have hJ9 := g5_same hP hk1
            clear hP hPc hDc hFc ht hvm hz1 hk1 hP1 hD1
            have hP := hJ9
            clear hJ9
            refine lv_if_eq (tgt := 27) hx hb dX11_isLook_20 (by decide +kernel) (fun c_8 => ?_) (fun c_8 => ?_)
            ·
              exact absurd c_8 (by decide +kernel)
            ·
              refine lv_iconst (v := 1) hx hb dX11_isLook_23 (by decide +kernel) ?_
              refine lv_goto (tgt := 28) hx hb dX11_isLook_24 (by decide +kernel) ?_
              exact W.zret (v := 1) hx hb hr rfl (fun t ht hW => ⟨⟨1, [], rfl, Or.inl (⟨by unfold okL; omega, i_1, by omega, i_6, rfl, rfl⟩), by rw [ht]; exact hP.sub [] rfl, hD.sub [] (by decide +kernel) rfl⟩, hS.F ht⟩) hS.2.2 dX11_isLook_28
          ·
            have hJ9 := g5_same hP hk1
            clear hP hPc hDc hFc ht hvm hz1 hk1 hP1 hD1
            have hP := hJ9
            clear hJ9
            refine lv_if_eq (tgt := 27) hx hb dX11_isLook_20 (by decide +kernel) (fun c_9 => ?_) (fun c_9 => ?_)
            ·
              refine lv_iconst (v := 0) hx hb dX11_isLook_27 (by decide +kernel) ?_
              exact W.zret (v := 0) hx hb hr rfl (fun t ht hW => ⟨⟨0, [], rfl, Or.inr (⟨by unfold okL; omega, rfl, rfl⟩), by rw [ht]; exact hP.sub [] rfl, hD.sub [] (by decide +kernel) rfl⟩, hS.F ht⟩) hS.2.2 dX11_isLook_28
            ·
              exact absurd c_9 (by decide +kernel)
  ·
    have hJ9 := g5_same hP hk1
    clear hP hPc hDc hFc ht hvm hz1 hk1 hP1 hD1
    have hP := hJ9
    clear hJ9
    refine lv_if_eq (tgt := 27) hx hb dX11_isLook_4 (by decide +kernel) (fun c_10 => ?_) (fun c_10 => ?_)
    ·
      refine lv_iconst (v := 0) hx hb dX11_isLook_27 (by decide +kernel) ?_
      exact W.zret (v := 0) hx hb hr rfl (fun t ht hW => ⟨⟨0, [], rfl, Or.inr (⟨by unfold okL; omega, rfl, rfl⟩), by rw [ht]; exact hP.sub [] rfl, hD.sub [] (by decide +kernel) rfl⟩, hS.F ht⟩) hS.2.2 dX11_isLook_28
    ·
      exact absurd c_10 (by decide +kernel)
set_option maxHeartbeats 4000000 in
set_option maxRecDepth 100000 in
theorem x_wallX (l : Launch) (G : g5_G) (a_o a_rf a_h a_p a_pn a_bb a_im a_ke a_k a_wa a_th a_ha a_wk a_r a_x a_wd a_l a_g a_b a_s a_w : Nat) (sz : Nat) (e_tl : Int32) (e_fd : Int32) (e_fpl : Int32) (e_wn : Int32) (e_lr : Int32) (e_le : Int32) (e_st : Int32) (e_fo : Int32) (e_lc : Int32) (e_p : Int32) (p_c : Int32) (p_i : Int32) (e_g : Int32) (e_b : Int32) (e_wa : Int64) (e_gb : Int64) (f_rf : Nat → Int32) (f_p : Nat → Int32) (f_bb : Nat → Int64) (f_ro : Nat → Int32) (f_g : Nat → Int32) (f_b : Nat → Int32) (h_e_tl : 0 ≤ e_tl.toInt ∧ e_tl.toInt ≤ 400) (h_e_wn : 0 ≤ e_wn.toInt ∧ e_wn.toInt ≤ 1) (h_e_p : 0 ≤ e_p.toInt ∧ e_p.toInt ≤ 8) (e_hh : QH e_wa e_le e_st f_ro) (e_hg : QG e_g f_g e_gb f_ro) (e_hb : QB e_b f_b f_bb f_ro) (e_hp : QP e_p f_p f_ro) (e_nw : NW f_ro) : Met l yX11_wall (wsG yX11_wall cX11_wall 4 (some .int)) ({ frames := 3, cells := 0, slots := 0, locals := 67 }) (va_Pc [.ref a_o, .int p_c, .int p_i] (g5_P G [(a_o, (oc11 a_h a_im a_ke a_k a_wa a_th a_ha a_wk a_r a_x e_tl e_fd e_fpl a_wd e_wn a_rf e_lr)), (a_rf, (arI G 5 f_rf)), (a_h, (oc1 e_wa e_le e_st e_fo e_lc a_l a_g a_b a_s a_p a_w e_gb a_bb)), (a_p, (oc6 8 5 a_pn e_p)), (a_pn, (arI G 40 f_p)), (a_bb, (arJ G 24 f_bb))] sz)) (va_Qi (fun (r : Int32) (u : va_W) => (∃ (o_r : Int32) (o_lr : Int32) (o_rf : Nat → Int32) (o_wa : Int64), (QH o_wa e_le e_st (swall f_ro p_c p_i)) ∧ (r = o_r) ∧ (u = [(a_o, (oc11 a_h a_im a_ke a_k a_wa a_th a_ha a_wk a_r a_x e_tl e_fd e_fpl a_wd e_wn a_rf o_lr)), (a_rf, (arI G 5 o_rf)), (a_h, (oc1 o_wa e_le e_st e_fo e_lc a_l a_g a_b a_s a_p a_w e_gb a_bb)), (a_p, (oc6 8 5 a_pn e_p)), (a_pn, (arI G 40 f_p)), (a_bb, (arJ G 24 f_bb))]))) (g5_B G (va_A [(a_o, (oc11 a_h a_im a_ke a_k a_wa a_th a_ha a_wk a_r a_x e_tl e_fd e_fpl a_wd e_wn a_rf e_lr)), (a_rf, (arI G 5 f_rf)), (a_h, (oc1 e_wa e_le e_st e_fo e_lc a_l a_g a_b a_s a_p a_w e_gb a_bb)), (a_p, (oc6 8 5 a_pn e_p)), (a_pn, (arI G 40 f_p)), (a_bb, (arJ G 24 f_bb))] sz)) (va_A [(a_o, (oc11 a_h a_im a_ke a_k a_wa a_th a_ha a_wk a_r a_x e_tl e_fd e_fpl a_wd e_wn a_rf e_lr)), (a_rf, (arI G 5 f_rf)), (a_h, (oc1 e_wa e_le e_st e_fo e_lc a_l a_g a_b a_s a_p a_w e_gb a_bb)), (a_p, (oc6 8 5 a_pn e_p)), (a_pn, (arI G 40 f_p)), (a_bb, (arJ G 24 f_bb))] sz)) 0 0 (va_A [(a_o, (oc11 a_h a_im a_ke a_k a_wa a_th a_ha a_wk a_r a_x e_tl e_fd e_fpl a_wd e_wn a_rf e_lr)), (a_rf, (arI G 5 f_rf)), (a_h, (oc1 e_wa e_le e_st e_fo e_lc a_l a_g a_b a_s a_p a_w e_gb a_bb)), (a_p, (oc6 8 5 a_pn e_p)), (a_pn, (arI G 40 f_p)), (a_bb, (arJ G 24 f_bb))] sz) := by
  refine Met.ofW (cc := cX11_wall) (maxL := 4) (ret := (some .int)) (by decide +kernel) rfl ?_
  intro p e s m args below meth c s₁ B hml hv
  obtain ⟨rfl, hsz, hP, hK, hD0, hN, hT⟩ := hv
  have hx := B.exec
  have hb := B.bytes
  have hr := B.returns
  have hts : ∀ w ∈ tblG, w.before _ s = true := fun w h => atoms_spec (ws := (wsG yX11_wall cX11_wall 4 (some .int))) B.pre w (List.mem_cons_of_mem _ h)
  have hown : s.vm.findClass RX11 = some m.cls := findClass_of_methodNamed B.named
  have hlocks := B.notSynchronized
  subst hsz
  have hD := hD0.self (sz := s.heap.size)
  generalize hAe : va_A [(a_o, (oc11 a_h a_im a_ke a_k a_wa a_th a_ha a_wk a_r a_x e_tl e_fd e_fpl a_wd e_wn a_rf e_lr)), (a_rf, (arI G 5 f_rf)), (a_h, (oc1 e_wa e_le e_st e_fo e_lc a_l a_g a_b a_s a_p a_w e_gb a_bb)), (a_p, (oc6 8 5 a_pn e_p)), (a_pn, (arI G 40 f_p)), (a_bb, (arJ G 24 f_bb))] s.heap.size = A at hD hT ⊢
  have hA : ∀ q : Nat, s.heap.size ≤ q → A q := fun q h => by rw [← hAe]; exact Or.inr h
  have hS : va_S A s.heap s.heap [] := va_S.rf
  replace hP : va_P G.1 vwCl [(a_o, (oc11 a_h a_im a_ke a_k a_wa a_th a_ha a_wk a_r a_x e_tl e_fd e_fpl a_wd e_wn a_rf e_lr)), (a_rf, (arI G 5 f_rf)), (a_h, (oc1 e_wa e_le e_st e_fo e_lc a_l a_g a_b a_s a_p a_w e_gb a_bb)), (a_p, (oc6 8 5 a_pn e_p)), (a_pn, (arI G 40 f_p)), (a_bb, (arJ G 24 f_bb))] s.heap := hP
  have hl := lv_entry ([.ref a_o, .int p_c, .int p_i]) (n := 4) (Nat.le_of_ble_eq_true rfl)
  rw [lg_entry_eq]
  generalize (lg_sl ([.ref a_o, .int p_c, .int p_i]) ++ List.replicate (4 - (lg_sl ([.ref a_o, .int p_c, .int p_i])).length) Slot.unset).toArray = ls at hl ⊢
  replace hl : lv_has ls 4 [(0, .ref a_o), (1, .int p_c), (2, .int p_i)] := hl
  refine lv_iload_n hx hb dX11_wall_0 rfl (lv_at hl 1 rfl) ?_
  obtain ⟨hPc, hDc, hFc⟩ := g5_sub3 (wc := []) hP hD hS hA [] (by decide +kernel) rfl
  refine va_calli (va_runS (As := [.int p_c]) (rest := []) ⟨hx, hb, hml, hown, hts⟩ (x_isCellX l G s.heap.size p_c) (va_cwS 1 hts gS_X11_97 rfl rfl rfl hs_X11_isCell ⟨Nat.le_of_ble_eq_true rfl, Nat.le_of_ble_eq_true rfl⟩) (g5_preS hPc hK hDc hN hT hS hFc) rfl rfl hl.1 rfl (lv_room (Nat.le_of_ble_eq_true rfl)) dX11_wall_1 ⟨Nat.le_of_ble_eq_true rfl, Nat.le_of_ble_eq_true rfl⟩) hS (fun q _ h => hFc q h) hFc (fun r u t H locs ht hvm hw hB hz1 hk1 hS => ?_)
  obtain ⟨hP1, hD1⟩ := hB
  have hP1 := g5_ht ht hP1
  rcases hw with ⟨(i_1 : 0 ≤ p_c.toInt ∧ p_c.toInt ≤ 63), rfl, rfl⟩ | ⟨(i_2 : p_c.toInt < 0 ∨ 63 < p_c.toInt), rfl, rfl⟩
  ·
    have hJ9 := g5_same hP hk1
    clear hP hPc hDc hFc ht hvm hz1 hk1 hP1 hD1
    have hP := hJ9
    clear hJ9
    refine lv_if_eq (tgt := 14) hx hb dX11_wall_4 (by decide +kernel) (fun c_3 => ?_) (fun c_3 => ?_)
    ·
      exact absurd c_3 (by decide +kernel)
    ·
      refine lv_iload_n hx hb dX11_wall_7 rfl (lv_at hl 2 rfl) ?_
      obtain ⟨hPc, hDc, hFc⟩ := g5_sub3 (wc := []) hP hD hS hA [] (by decide +kernel) rfl
      refine va_calli (va_runS (As := [.int p_i]) (rest := []) ⟨hx, hb, hml, hown, hts⟩ (x_isFlagX l G H.size p_i) (va_cwS 1 hts gS_X11_101 rfl rfl rfl hs_X11_isFlag ⟨Nat.le_of_ble_eq_true rfl, Nat.le_of_ble_eq_true rfl⟩) (g5_preS hPc hK hDc hN hT hS hFc) rfl rfl hl.1 rfl (lv_room (Nat.le_of_ble_eq_true rfl)) dX11_wall_8 ⟨Nat.le_of_ble_eq_true rfl, Nat.le_of_ble_eq_true rfl⟩) hS (fun q _ h => hFc q h) hFc (fun r u t H locs ht hvm hw hB hz1 hk1 hS => ?_)
      obtain ⟨hP1, hD1⟩ := hB
      have hP1 := g5_ht ht hP1
      rcases hw with ⟨(i_4 : 0 ≤ p_i.toInt ∧ p_i.toInt ≤ 1), rfl, rfl⟩ | ⟨(i_5 : p_i.toInt < 0 ∨ 1 < p_i.toInt), rfl, rfl⟩
      ·
        have hJ9 := g5_same hP hk1
        clear hP hPc hDc hFc ht hvm hz1 hk1 hP1 hD1
        have hP := hJ9
        clear hJ9
        refine lv_if_ne (tgt := 20) hx hb dX11_wall_11 (by decide +kernel) (fun c_6 => ?_) (fun c_6 => ?_)
        ·
          refine lv_aload_n hx hb dX11_wall_20 rfl (lv_at hl 0 rfl) ?_
          refine va_get (D := G.1) (ci := 11) (v := .ref a_h) (C := RX11) (T := TX11) (N := 17) hx hb hts inG_X11 hown hK hP 0 rfl rfl 0 (by decide +kernel) (hts _ fl_X11_12) (fun _ h9 => h9) rfl dX11_wall_21 ?_
          refine lv_iload_n hx hb dX11_wall_24 rfl (lv_at hl 1 rfl) ?_
          obtain ⟨hPc, hDc, hFc⟩ := g5_sub3 (wc := [(a_h, (oc1 e_wa e_le e_st e_fo e_lc a_l a_g a_b a_s a_p a_w e_gb a_bb)), (a_p, (oc6 8 5 a_pn e_p)), (a_pn, (arI G 40 f_p)), (a_bb, (arJ G 24 f_bb))]) hP hD hS hA [2, 3, 4, 5] (by decide +kernel) rfl
          refine va_calli (va_runV (As := [.int p_c]) (rest := []) ⟨hx, hb, hml, hown, hts⟩ (h_isTaken l G a_h a_p a_pn a_bb a_l a_g a_b a_s a_w H.size e_le e_st e_fo e_lc e_p p_c e_wa e_gb f_p f_bb h_e_p i_1) (cwV 1 hts gV_X11_108 rfl rfl rfl hv_X1_isTaken ⟨Nat.le_of_ble_eq_true rfl, Nat.le_of_ble_eq_true rfl⟩) (g5_preV hPc hK hDc hN hT hS hFc (ci := 1) (q0 := 0) rfl rfl) rfl rfl hl.1 rfl (lv_room (Nat.le_of_ble_eq_true rfl)) dX11_wall_25 ⟨Nat.le_of_ble_eq_true rfl, Nat.le_of_ble_eq_true rfl⟩) hS (fun q _ h => hFc q h) hFc (fun r u t H locs ht hvm hw hB hz1 hk1 hS => ?_)
          obtain ⟨hP1, hD1⟩ := hB
          have hP1 := g5_ht ht hP1
          rcases hw with ⟨(i_7 : (∃ h : Nat, h < 24 ∧ onB (f_bb h) p_c.toInt = true) ∨ onB e_gb p_c.toInt = true ∨ (∃ r : Int, 0 ≤ r ∧ r < e_p.toInt ∧ tget f_p e_p.toInt 5 r (0 : Int32).toInt = p_c) ∨ e_st = p_c), rfl, rfl⟩ | ⟨(i_8 : (∀ h : Nat, h < 24 → onB (f_bb h) p_c.toInt = false) ∧ onB e_gb p_c.toInt = false ∧ (∀ r : Int, 0 ≤ r → r < e_p.toInt → tget f_p e_p.toInt 5 r (0 : Int32).toInt ≠ p_c) ∧ e_st ≠ p_c), rfl, rfl⟩
          ·
            have hJ9 := va_join (wr := [(a_o, (oc11 a_h a_im a_ke a_k a_wa a_th a_ha a_wk a_r a_x e_tl e_fd e_fpl a_wd e_wn a_rf e_lr)), (a_rf, (arI G 5 f_rf))]) hP hD [2, 3, 4, 5] [0, 1] rfl rfl (by decide +kernel) (by decide +kernel) hk1 hFc hP1 hD1
            clear hP hD hPc hDc hFc ht hvm hz1 hk1 hP1 hD1
            obtain ⟨hP, hD⟩ := hJ9
            refine g5_rs [(a_o, (oc11 a_h a_im a_ke a_k a_wa a_th a_ha a_wk a_r a_x e_tl e_fd e_fpl a_wd e_wn a_rf e_lr)), (a_rf, (arI G 5 f_rf)), (a_h, (oc1 e_wa e_le e_st e_fo e_lc a_l a_g a_b a_s a_p a_w e_gb a_bb)), (a_p, (oc6 8 5 a_pn e_p)), (a_pn, (arI G 40 f_p)), (a_bb, (arJ G 24 f_bb))] hP hD ?_
            clear hP hD
            intro hP hD
            refine lv_if_eq (tgt := 38) hx hb dX11_wall_28 (by decide +kernel) (fun c_9 => ?_) (fun c_9 => ?_)
            ·
              exact absurd c_9 (by decide +kernel)
            ·
              refine lv_aload_n hx hb dX11_wall_31 rfl (lv_at hl 0 rfl) ?_
              refine lv_bipush (v := (-3)) hx hb dX11_wall_32 (by decide +kernel) ?_
              obtain ⟨hPc, hDc, hFc⟩ := g5_sub3 (wc := [(a_o, (oc11 a_h a_im a_ke a_k a_wa a_th a_ha a_wk a_r a_x e_tl e_fd e_fpl a_wd e_wn a_rf e_lr)), (a_rf, (arI G 5 f_rf))]) hP hD hS hA [0, 1] (by decide +kernel) rfl
              refine va_calli (va_runV (As := [.int (-3)]) (rest := []) ⟨hx, hb, hml, hown, hts⟩ (x_refuse3 l G a_o a_rf a_h a_im a_ke a_k a_wa a_th a_ha a_wk a_r a_x a_wd H.size e_tl e_fd e_fpl e_wn e_lr f_rf h_e_tl h_e_wn) (cwV 1 hts gV_X11_104 rfl rfl rfl hv_X11_refuse ⟨Nat.le_of_ble_eq_true rfl, Nat.le_of_ble_eq_true rfl⟩) (g5_preV hPc hK hDc hN hT hS hFc (ci := 11) (q0 := 0) rfl rfl) rfl rfl hl.1 rfl (lv_room (Nat.le_of_ble_eq_true rfl)) dX11_wall_34 ⟨Nat.le_of_ble_eq_true rfl, Nat.le_of_ble_eq_true rfl⟩) hS (fun q _ h => hFc q h) hFc (fun r u t H locs ht hvm hw hB hz1 hk1 hS => ?_)
              obtain ⟨hP1, hD1⟩ := hB
              have hP1 := g5_ht ht hP1
              obtain ⟨z10, rfl, rfl⟩ := hw
              have hJ9 := va_join (wr := [(a_h, (oc1 e_wa e_le e_st e_fo e_lc a_l a_g a_b a_s a_p a_w e_gb a_bb)), (a_p, (oc6 8 5 a_pn e_p)), (a_pn, (arI G 40 f_p)), (a_bb, (arJ G 24 f_bb))]) hP hD [0, 1] [2, 3, 4, 5] rfl rfl (by decide +kernel) (by decide +kernel) hk1 hFc hP1 hD1
              clear hP hD hPc hDc hFc ht hvm hz1 hk1 hP1 hD1
              obtain ⟨hP, hD⟩ := hJ9
              refine g5_rs [(a_h, (oc1 e_wa e_le e_st e_fo e_lc a_l a_g a_b a_s a_p a_w e_gb a_bb)), (a_p, (oc6 8 5 a_pn e_p)), (a_pn, (arI G 40 f_p)), (a_bb, (arJ G 24 f_bb)), (a_o, (oc11 a_h a_im a_ke a_k a_wa a_th a_ha a_wk a_r a_x e_tl e_fd e_fpl a_wd e_wn a_rf (-3))), (a_rf, (arI G 5 z10))] hP hD ?_
              clear hP hD
              intro hP hD
              exact W.iret (v := (-3)) hx hb hr (fun t ht hW => ⟨⟨(-3), [(a_o, (oc11 a_h a_im a_ke a_k a_wa a_th a_ha a_wk a_r a_x e_tl e_fd e_fpl a_wd e_wn a_rf (-3))), (a_rf, (arI G 5 z10)), (a_h, (oc1 e_wa e_le e_st e_fo e_lc a_l a_g a_b a_s a_p a_w e_gb a_bb)), (a_p, (oc6 8 5 a_pn e_p)), (a_pn, (arI G 40 f_p)), (a_bb, (arJ G 24 f_bb))], rfl, ⟨(-3), (-3), z10, e_wa, by rw [wall_3 (f := f_ro) (c := p_c) (i := p_i) e_hh e_nw ⟨by omega, by omega⟩ ⟨by omega, by omega⟩ (tk_y e_hh e_hg e_hb e_hp ⟨by omega, by omega⟩ i_7)]; exact e_hh, rfl, rfl⟩, by rw [ht]; exact hP.sub [4, 5, 0, 1, 2, 3] rfl, hD.sub [4, 5, 0, 1, 2, 3] (by decide +kernel) rfl⟩, hS.F ht⟩) hS.2.2 dX11_wall_37
          ·
            have hJ9 := va_join (wr := [(a_o, (oc11 a_h a_im a_ke a_k a_wa a_th a_ha a_wk a_r a_x e_tl e_fd e_fpl a_wd e_wn a_rf e_lr)), (a_rf, (arI G 5 f_rf))]) hP hD [2, 3, 4, 5] [0, 1] rfl rfl (by decide +kernel) (by decide +kernel) hk1 hFc hP1 hD1
            clear hP hD hPc hDc hFc ht hvm hz1 hk1 hP1 hD1
            obtain ⟨hP, hD⟩ := hJ9
            refine g5_rs [(a_o, (oc11 a_h a_im a_ke a_k a_wa a_th a_ha a_wk a_r a_x e_tl e_fd e_fpl a_wd e_wn a_rf e_lr)), (a_rf, (arI G 5 f_rf)), (a_h, (oc1 e_wa e_le e_st e_fo e_lc a_l a_g a_b a_s a_p a_w e_gb a_bb)), (a_p, (oc6 8 5 a_pn e_p)), (a_pn, (arI G 40 f_p)), (a_bb, (arJ G 24 f_bb))] hP hD ?_
            clear hP hD
            intro hP hD
            refine lv_if_eq (tgt := 38) hx hb dX11_wall_28 (by decide +kernel) (fun c_11 => ?_) (fun c_11 => ?_)
            ·
              refine lv_aload_n hx hb dX11_wall_38 rfl (lv_at hl 0 rfl) ?_
              refine va_get (D := G.1) (ci := 11) (v := .ref a_h) (C := RX11) (T := TX11) (N := 17) hx hb hts inG_X11 hown hK hP 0 rfl rfl 0 (by decide +kernel) (hts _ fl_X11_12) (fun _ h9 => h9) rfl dX11_wall_39 ?_
              refine va_get (D := G.1) (ci := 1) (v := .long e_wa) (C := RX1) (T := TX1) (N := 13) hx hb hts inG_X1 hown hK hP 2 rfl rfl 0 (by decide +kernel) (hts _ fl_X11_111) (fun _ h9 => h9) rfl dX11_wall_42 ?_
              refine lv_iload_n hx hb dX11_wall_45 rfl (lv_at hl 1 rfl) ?_
              refine W.eq (g2 := F0 m 46 ls [.int p_c, .long e_wa]) rfl ?_
              obtain ⟨hPc, hDc, hFc⟩ := g5_sub3 (wc := []) hP hD hS hA [] (by decide +kernel) rfl
              refine va_calli (va_runS (As := [.long e_wa, .int p_c]) (rest := []) ⟨hx, hb, hml, hown, hts⟩ (k_isOn l G H.size p_c e_wa i_1) (va_cwS 2 hts gS_X11_115 rfl rfl rfl hs_X11_isOn ⟨Nat.le_of_ble_eq_true rfl, Nat.le_of_ble_eq_true rfl⟩) (g5_preS hPc hK hDc hN hT hS hFc) rfl rfl hl.1 rfl (lv_room (Nat.le_of_ble_eq_true rfl)) dX11_wall_46 ⟨Nat.le_of_ble_eq_true rfl, Nat.le_of_ble_eq_true rfl⟩) hS (fun q _ h => hFc q h) hFc (fun r u t H locs ht hvm hw hB hz1 hk1 hS => ?_)
              obtain ⟨hP1, hD1⟩ := hB
              have hP1 := g5_ht ht hP1
              rcases hw with ⟨(i_12 : onB e_wa p_c.toInt = false), rfl, rfl⟩ | ⟨(i_13 : onB e_wa p_c.toInt = true), rfl, rfl⟩
              ·
                have hJ9 := g5_same hP hk1
                clear hP hPc hDc hFc ht hvm hz1 hk1 hP1 hD1
                have hP := hJ9
                clear hJ9
                refine lv_if_eq (tgt := 56) hx hb dX11_wall_49 (by decide +kernel) (fun c_14 => ?_) (fun c_14 => ?_)
                ·
                  refine lv_iconst (v := 0) hx hb dX11_wall_56 (by decide +kernel) ?_
                  refine lv_istore_n (lv' := [(3, .int 0), (0, .ref a_o), (1, .int p_c), (2, .int p_i)]) hx hb dX11_wall_57 rfl hl (by decide +kernel) rfl ?_
                  clear hl
                  intro ls hl
                  refine lv_aload_n hx hb dX11_wall_58 rfl (lv_at hl 1 rfl) ?_
                  refine va_get (D := G.1) (ci := 11) (v := .ref a_h) (C := RX11) (T := TX11) (N := 17) hx hb hts inG_X11 hown hK hP 0 rfl rfl 0 (by decide +kernel) (hts _ fl_X11_12) (fun _ h9 => h9) rfl dX11_wall_59 ?_
                  refine W.eq (g2 := F0 m 62 ls [.ref a_h]) rfl ?_
                  refine lv_iload_n hx hb dX11_wall_62 rfl (lv_at hl 3 rfl) ?_
                  refine lv_iconst (v := 1) hx hb dX11_wall_63 (by decide +kernel) ?_
                  refine lv_icmp_ne (tgt := 81) hx hb dX11_wall_64 (by decide +kernel) (fun c_15 => ?_) (fun c_15 => ?_)
                  ·
                    have n_15 : gNe (p_i.toInt) (1) := g5_ne (a := p_i.toInt) (b := 1) rfl (by decide +kernel) c_15
                    have i_15 : p_i.toInt ≤ 0 := by have z := g5_ne (a := p_i.toInt) (b := 1) (by rfl) (by decide +kernel) c_15; omega
                    refine lv_aload_n hx hb dX11_wall_81 rfl (lv_at hl 1 rfl) ?_
                    refine va_get (D := G.1) (ci := 11) (v := .ref a_h) (C := RX11) (T := TX11) (N := 17) hx hb hts inG_X11 hown hK hP 0 rfl rfl 0 (by decide +kernel) (hts _ fl_X11_12) (fun _ h9 => h9) rfl dX11_wall_82 ?_
                    refine va_get (D := G.1) (ci := 1) (v := .long e_wa) (C := RX1) (T := TX1) (N := 13) hx hb hts inG_X1 hown hK hP 2 rfl rfl 0 (by decide +kernel) (hts _ fl_X11_111) (fun _ h9 => h9) rfl dX11_wall_85 ?_
                    refine lv_lconst (v := 1) hx hb dX11_wall_88 (by decide +kernel) ?_
                    refine W.eq (g2 := F0 m 89 ls [.long 1, .long e_wa, .ref a_h]) rfl ?_
                    refine lv_iload_n hx hb dX11_wall_89 rfl (lv_at hl 2 rfl) ?_
                    refine lv_lshl (v := ((1 : Int64) <<< (p_c.toInt64 &&& 63))) hx hb dX11_wall_90 rfl ?_
                    refine lv_ldc2 (v := (-1)) hx hb hown (hts _ kl_X11_119) dX11_wall_91 ?_
                    refine lv_lxor hx hb dX11_wall_94 ?_
                    refine lv_land hx hb dX11_wall_95 ?_
                    refine W.eq (g2 := F0 m 96 ls [.long (e_wa &&& (((1 : Int64) <<< (p_c.toInt64 &&& 63)) ^^^ (-1))), .ref a_h]) rfl ?_
                    refine va_put (D := G.1) (ci := 1) (v := .long (e_wa &&& (((1 : Int64) <<< (p_c.toInt64 &&& 63)) ^^^ (-1)))) (ty := .long) (C := RX1) (T := TX1) (N := 13) hx hb hts inG_X1 tyX1 tyX1_ok nmX1 hown hK hP hD hS 2 rfl rfl 0 (by decide +kernel) (hts _ fl_X11_111) (fun _ h9 => h9) rfl (by decide +kernel) rfl rfl (Nat.le_of_ble_eq_true rfl) dX11_wall_96 ?_
                    clear hP hD hS
                    intro H locs hP hD hS
                    refine g5_rs [(a_o, (oc11 a_h a_im a_ke a_k a_wa a_th a_ha a_wk a_r a_x e_tl e_fd e_fpl a_wd e_wn a_rf e_lr)), (a_rf, (arI G 5 f_rf)), (a_h, (oc1 (e_wa &&& (((1 : Int64) <<< (p_c.toInt64 &&& 63)) ^^^ (-1))) e_le e_st e_fo e_lc a_l a_g a_b a_s a_p a_w e_gb a_bb)), (a_p, (oc6 8 5 a_pn e_p)), (a_pn, (arI G 40 f_p)), (a_bb, (arJ G 24 f_bb))] hP hD ?_
                    clear hP hD
                    intro hP hD
                    refine lv_aload_n hx hb dX11_wall_99 rfl (lv_at hl 1 rfl) ?_
                    refine lv_iload_n hx hb dX11_wall_100 rfl (lv_at hl 0 rfl) ?_
                    obtain ⟨hPc, hDc, hFc⟩ := g5_sub3 (wc := [(a_o, (oc11 a_h a_im a_ke a_k a_wa a_th a_ha a_wk a_r a_x e_tl e_fd e_fpl a_wd e_wn a_rf e_lr))]) hP hD hS hA [0] (by decide +kernel) rfl
                    refine va_calli (va_runV (As := [.int 0]) (rest := []) ⟨hx, hb, hml, hown, hts⟩ (x_done l G a_o a_h a_im a_ke a_k a_wa a_th a_ha a_wk a_r a_x a_wd a_rf H.size e_tl e_fd e_fpl e_wn e_lr 0 h_e_tl h_e_wn) (cwV 1 hts gV_X11_121 rfl rfl rfl hv_X11_done ⟨Nat.le_of_ble_eq_true rfl, Nat.le_of_ble_eq_true rfl⟩) (g5_preV hPc hK hDc hN hT hS hFc (ci := 11) (q0 := 0) rfl rfl) rfl rfl hl.1 rfl (lv_room (Nat.le_of_ble_eq_true rfl)) dX11_wall_101 ⟨Nat.le_of_ble_eq_true rfl, Nat.le_of_ble_eq_true rfl⟩) hS (fun q _ h => hFc q h) hFc (fun r u t H locs ht hvm hw hB hz1 hk1 hS => ?_)
                    obtain ⟨hP1, hD1⟩ := hB
                    have hP1 := g5_ht ht hP1
                    obtain ⟨rfl, rfl⟩ := hw
                    have hJ9 := va_join (wr := [(a_rf, (arI G 5 f_rf)), (a_h, (oc1 (e_wa &&& (((1 : Int64) <<< (p_c.toInt64 &&& 63)) ^^^ (-1))) e_le e_st e_fo e_lc a_l a_g a_b a_s a_p a_w e_gb a_bb)), (a_p, (oc6 8 5 a_pn e_p)), (a_pn, (arI G 40 f_p)), (a_bb, (arJ G 24 f_bb))]) hP hD [0] [1, 2, 3, 4, 5] rfl rfl (by decide +kernel) (by decide +kernel) hk1 hFc hP1 hD1
                    clear hP hD hPc hDc hFc ht hvm hz1 hk1 hP1 hD1
                    obtain ⟨hP, hD⟩ := hJ9
                    refine g5_rs [(a_rf, (arI G 5 f_rf)), (a_h, (oc1 (e_wa &&& (((1 : Int64) <<< (p_c.toInt64 &&& 63)) ^^^ (-1))) e_le e_st e_fo e_lc a_l a_g a_b a_s a_p a_w e_gb a_bb)), (a_p, (oc6 8 5 a_pn e_p)), (a_pn, (arI G 40 f_p)), (a_bb, (arJ G 24 f_bb)), (a_o, (oc11 a_h a_im a_ke a_k a_wa a_th a_ha a_wk a_r a_x e_tl e_fd e_fpl a_wd e_wn a_rf 0))] hP hD ?_
                    clear hP hD
                    intro hP hD
                    exact W.iret (v := 0) hx hb hr (fun t ht hW => ⟨⟨0, [(a_o, (oc11 a_h a_im a_ke a_k a_wa a_th a_ha a_wk a_r a_x e_tl e_fd e_fpl a_wd e_wn a_rf 0)), (a_rf, (arI G 5 f_rf)), (a_h, (oc1 (e_wa &&& (((1 : Int64) <<< (p_c.toInt64 &&& 63)) ^^^ (-1))) e_le e_st e_fo e_lc a_l a_g a_b a_s a_p a_w e_gb a_bb)), (a_p, (oc6 8 5 a_pn e_p)), (a_pn, (arI G 40 f_p)), (a_bb, (arJ G 24 f_bb))], rfl, ⟨0, 0, f_rf, (e_wa &&& (((1 : Int64) <<< (p_c.toInt64 &&& 63)) ^^^ (-1))), hh_wall0 e_hh ⟨by omega, by omega⟩ (by omega), rfl, rfl⟩, by rw [ht]; exact hP.sub [5, 0, 1, 2, 3, 4] rfl, hD.sub [5, 0, 1, 2, 3, 4] (by decide +kernel) rfl⟩, hS.F ht⟩) hS.2.2 dX11_wall_104
                  ·
                    have i_15 : p_i.toInt = 1 := g5_neN (a := p_i.toInt) (b := 1) rfl (by decide +kernel) c_15
                    refine lv_aload_n hx hb dX11_wall_67 rfl (lv_at hl 1 rfl) ?_
                    refine va_get (D := G.1) (ci := 11) (v := .ref a_h) (C := RX11) (T := TX11) (N := 17) hx hb hts inG_X11 hown hK hP 0 rfl rfl 0 (by decide +kernel) (hts _ fl_X11_12) (fun _ h9 => h9) rfl dX11_wall_68 ?_
                    refine va_get (D := G.1) (ci := 1) (v := .long e_wa) (C := RX1) (T := TX1) (N := 13) hx hb hts inG_X1 hown hK hP 2 rfl rfl 0 (by decide +kernel) (hts _ fl_X11_111) (fun _ h9 => h9) rfl dX11_wall_71 ?_
                    refine lv_lconst (v := 1) hx hb dX11_wall_74 (by decide +kernel) ?_
                    refine W.eq (g2 := F0 m 75 ls [.long 1, .long e_wa, .ref a_h]) rfl ?_
                    refine lv_iload_n hx hb dX11_wall_75 rfl (lv_at hl 2 rfl) ?_
                    refine lv_lshl (v := ((1 : Int64) <<< (p_c.toInt64 &&& 63))) hx hb dX11_wall_76 rfl ?_
                    refine lv_lor hx hb dX11_wall_77 ?_
                    refine lv_goto (tgt := 96) hx hb dX11_wall_78 (by decide +kernel) ?_
                    refine va_put (D := G.1) (ci := 1) (v := .long (e_wa ||| ((1 : Int64) <<< (p_c.toInt64 &&& 63)))) (ty := .long) (C := RX1) (T := TX1) (N := 13) hx hb hts inG_X1 tyX1 tyX1_ok nmX1 hown hK hP hD hS 2 rfl rfl 0 (by decide +kernel) (hts _ fl_X11_111) (fun _ h9 => h9) rfl (by decide +kernel) rfl rfl (Nat.le_of_ble_eq_true rfl) dX11_wall_96 ?_
                    clear hP hD hS
                    intro H locs hP hD hS
                    refine g5_rs [(a_o, (oc11 a_h a_im a_ke a_k a_wa a_th a_ha a_wk a_r a_x e_tl e_fd e_fpl a_wd e_wn a_rf e_lr)), (a_rf, (arI G 5 f_rf)), (a_h, (oc1 (e_wa ||| ((1 : Int64) <<< (p_c.toInt64 &&& 63))) e_le e_st e_fo e_lc a_l a_g a_b a_s a_p a_w e_gb a_bb)), (a_p, (oc6 8 5 a_pn e_p)), (a_pn, (arI G 40 f_p)), (a_bb, (arJ G 24 f_bb))] hP hD ?_
                    clear hP hD
                    intro hP hD
                    refine W.eq (g2 := F0 m 99 ls []) rfl ?_
                    refine lv_aload_n hx hb dX11_wall_99 rfl (lv_at hl 1 rfl) ?_
                    refine lv_iload_n hx hb dX11_wall_100 rfl (lv_at hl 0 rfl) ?_
                    obtain ⟨hPc, hDc, hFc⟩ := g5_sub3 (wc := [(a_o, (oc11 a_h a_im a_ke a_k a_wa a_th a_ha a_wk a_r a_x e_tl e_fd e_fpl a_wd e_wn a_rf e_lr))]) hP hD hS hA [0] (by decide +kernel) rfl
                    refine va_calli (va_runV (As := [.int 0]) (rest := []) ⟨hx, hb, hml, hown, hts⟩ (x_done l G a_o a_h a_im a_ke a_k a_wa a_th a_ha a_wk a_r a_x a_wd a_rf H.size e_tl e_fd e_fpl e_wn e_lr 0 h_e_tl h_e_wn) (cwV 1 hts gV_X11_121 rfl rfl rfl hv_X11_done ⟨Nat.le_of_ble_eq_true rfl, Nat.le_of_ble_eq_true rfl⟩) (g5_preV hPc hK hDc hN hT hS hFc (ci := 11) (q0 := 0) rfl rfl) rfl rfl hl.1 rfl (lv_room (Nat.le_of_ble_eq_true rfl)) dX11_wall_101 ⟨Nat.le_of_ble_eq_true rfl, Nat.le_of_ble_eq_true rfl⟩) hS (fun q _ h => hFc q h) hFc (fun r u t H locs ht hvm hw hB hz1 hk1 hS => ?_)
                    obtain ⟨hP1, hD1⟩ := hB
                    have hP1 := g5_ht ht hP1
                    obtain ⟨rfl, rfl⟩ := hw
                    have hJ9 := va_join (wr := [(a_rf, (arI G 5 f_rf)), (a_h, (oc1 (e_wa ||| ((1 : Int64) <<< (p_c.toInt64 &&& 63))) e_le e_st e_fo e_lc a_l a_g a_b a_s a_p a_w e_gb a_bb)), (a_p, (oc6 8 5 a_pn e_p)), (a_pn, (arI G 40 f_p)), (a_bb, (arJ G 24 f_bb))]) hP hD [0] [1, 2, 3, 4, 5] rfl rfl (by decide +kernel) (by decide +kernel) hk1 hFc hP1 hD1
                    clear hP hD hPc hDc hFc ht hvm hz1 hk1 hP1 hD1
                    obtain ⟨hP, hD⟩ := hJ9
                    refine g5_rs [(a_rf, (arI G 5 f_rf)), (a_h, (oc1 (e_wa ||| ((1 : Int64) <<< (p_c.toInt64 &&& 63))) e_le e_st e_fo e_lc a_l a_g a_b a_s a_p a_w e_gb a_bb)), (a_p, (oc6 8 5 a_pn e_p)), (a_pn, (arI G 40 f_p)), (a_bb, (arJ G 24 f_bb)), (a_o, (oc11 a_h a_im a_ke a_k a_wa a_th a_ha a_wk a_r a_x e_tl e_fd e_fpl a_wd e_wn a_rf 0))] hP hD ?_
                    clear hP hD
                    intro hP hD
                    exact W.iret (v := 0) hx hb hr (fun t ht hW => ⟨⟨0, [(a_o, (oc11 a_h a_im a_ke a_k a_wa a_th a_ha a_wk a_r a_x e_tl e_fd e_fpl a_wd e_wn a_rf 0)), (a_rf, (arI G 5 f_rf)), (a_h, (oc1 (e_wa ||| ((1 : Int64) <<< (p_c.toInt64 &&& 63))) e_le e_st e_fo e_lc a_l a_g a_b a_s a_p a_w e_gb a_bb)), (a_p, (oc6 8 5 a_pn e_p)), (a_pn, (arI G 40 f_p)), (a_bb, (arJ G 24 f_bb))], rfl, ⟨0, 0, f_rf, (e_wa ||| ((1 : Int64) <<< (p_c.toInt64 &&& 63))), hh_wall1 e_hh ⟨by omega, by omega⟩ (by omega) (tk_n e_hh e_hg e_hb e_hp ⟨by omega, by omega⟩ i_8), rfl, rfl⟩, by rw [ht]; exact hP.sub [5, 0, 1, 2, 3, 4] rfl, hD.sub [5, 0, 1, 2, 3, 4] (by decide +kernel) rfl⟩, hS.F ht⟩) hS.2.2 dX11_wall_104
                ·
                  exact absurd c_14 (by decide +kernel)
              ·
                have hJ9 := g5_same hP hk1
                clear hP hPc hDc hFc ht hvm hz1 hk1 hP1 hD1
                have hP := hJ9
                clear hJ9
                refine lv_if_eq (tgt := 56) hx hb dX11_wall_49 (by decide +kernel) (fun c_16 => ?_) (fun c_16 => ?_)
                ·
                  exact absurd c_16 (by decide +kernel)
                ·
                  refine lv_iconst (v := 1) hx hb dX11_wall_52 (by decide +kernel) ?_
                  refine lv_goto (tgt := 57) hx hb dX11_wall_53 (by decide +kernel) ?_
                  refine lv_istore_n (lv' := [(3, .int 1), (0, .ref a_o), (1, .int p_c), (2, .int p_i)]) hx hb dX11_wall_57 rfl hl (by decide +kernel) rfl ?_
                  clear hl
                  intro ls hl
                  refine lv_aload_n hx hb dX11_wall_58 rfl (lv_at hl 1 rfl) ?_
                  refine W.eq (g2 := F0 m 59 ls [.ref a_o]) rfl ?_
                  refine va_get (D := G.1) (ci := 11) (v := .ref a_h) (C := RX11) (T := TX11) (N := 17) hx hb hts inG_X11 hown hK hP 0 rfl rfl 0 (by decide +kernel) (hts _ fl_X11_12) (fun _ h9 => h9) rfl dX11_wall_59 ?_
                  refine lv_iload_n hx hb dX11_wall_62 rfl (lv_at hl 3 rfl) ?_
                  refine lv_iconst (v := 1) hx hb dX11_wall_63 (by decide +kernel) ?_
                  refine lv_icmp_ne (tgt := 81) hx hb dX11_wall_64 (by decide +kernel) (fun c_17 => ?_) (fun c_17 => ?_)
                  ·
                    have n_17 : gNe (p_i.toInt) (1) := g5_ne (a := p_i.toInt) (b := 1) rfl (by decide +kernel) c_17
                    have i_17 : p_i.toInt ≤ 0 := by have z := g5_ne (a := p_i.toInt) (b := 1) (by rfl) (by decide +kernel) c_17; omega
                    refine lv_aload_n hx hb dX11_wall_81 rfl (lv_at hl 1 rfl) ?_
                    refine va_get (D := G.1) (ci := 11) (v := .ref a_h) (C := RX11) (T := TX11) (N := 17) hx hb hts inG_X11 hown hK hP 0 rfl rfl 0 (by decide +kernel) (hts _ fl_X11_12) (fun _ h9 => h9) rfl dX11_wall_82 ?_
                    refine va_get (D := G.1) (ci := 1) (v := .long e_wa) (C := RX1) (T := TX1) (N := 13) hx hb hts inG_X1 hown hK hP 2 rfl rfl 0 (by decide +kernel) (hts _ fl_X11_111) (fun _ h9 => h9) rfl dX11_wall_85 ?_
                    refine lv_lconst (v := 1) hx hb dX11_wall_88 (by decide +kernel) ?_
                    refine W.eq (g2 := F0 m 89 ls [.long 1, .long e_wa, .ref a_h]) rfl ?_
                    refine lv_iload_n hx hb dX11_wall_89 rfl (lv_at hl 2 rfl) ?_
                    refine lv_lshl (v := ((1 : Int64) <<< (p_c.toInt64 &&& 63))) hx hb dX11_wall_90 rfl ?_
                    refine lv_ldc2 (v := (-1)) hx hb hown (hts _ kl_X11_119) dX11_wall_91 ?_
                    refine lv_lxor hx hb dX11_wall_94 ?_
                    refine lv_land hx hb dX11_wall_95 ?_
                    refine W.eq (g2 := F0 m 96 ls [.long (e_wa &&& (((1 : Int64) <<< (p_c.toInt64 &&& 63)) ^^^ (-1))), .ref a_h]) rfl ?_
                    refine va_put (D := G.1) (ci := 1) (v := .long (e_wa &&& (((1 : Int64) <<< (p_c.toInt64 &&& 63)) ^^^ (-1)))) (ty := .long) (C := RX1) (T := TX1) (N := 13) hx hb hts inG_X1 tyX1 tyX1_ok nmX1 hown hK hP hD hS 2 rfl rfl 0 (by decide +kernel) (hts _ fl_X11_111) (fun _ h9 => h9) rfl (by decide +kernel) rfl rfl (Nat.le_of_ble_eq_true rfl) dX11_wall_96 ?_
                    clear hP hD hS
                    intro H locs hP hD hS
                    refine g5_rs [(a_o, (oc11 a_h a_im a_ke a_k a_wa a_th a_ha a_wk a_r a_x e_tl e_fd e_fpl a_wd e_wn a_rf e_lr)), (a_rf, (arI G 5 f_rf)), (a_h, (oc1 (e_wa &&& (((1 : Int64) <<< (p_c.toInt64 &&& 63)) ^^^ (-1))) e_le e_st e_fo e_lc a_l a_g a_b a_s a_p a_w e_gb a_bb)), (a_p, (oc6 8 5 a_pn e_p)), (a_pn, (arI G 40 f_p)), (a_bb, (arJ G 24 f_bb))] hP hD ?_
                    clear hP hD
                    intro hP hD
                    refine lv_aload_n hx hb dX11_wall_99 rfl (lv_at hl 1 rfl) ?_
                    refine lv_iload_n hx hb dX11_wall_100 rfl (lv_at hl 0 rfl) ?_
                    obtain ⟨hPc, hDc, hFc⟩ := g5_sub3 (wc := [(a_o, (oc11 a_h a_im a_ke a_k a_wa a_th a_ha a_wk a_r a_x e_tl e_fd e_fpl a_wd e_wn a_rf e_lr))]) hP hD hS hA [0] (by decide +kernel) rfl
                    refine va_calli (va_runV (As := [.int 1]) (rest := []) ⟨hx, hb, hml, hown, hts⟩ (x_done l G a_o a_h a_im a_ke a_k a_wa a_th a_ha a_wk a_r a_x a_wd a_rf H.size e_tl e_fd e_fpl e_wn e_lr 1 h_e_tl h_e_wn) (cwV 1 hts gV_X11_121 rfl rfl rfl hv_X11_done ⟨Nat.le_of_ble_eq_true rfl, Nat.le_of_ble_eq_true rfl⟩) (g5_preV hPc hK hDc hN hT hS hFc (ci := 11) (q0 := 0) rfl rfl) rfl rfl hl.1 rfl (lv_room (Nat.le_of_ble_eq_true rfl)) dX11_wall_101 ⟨Nat.le_of_ble_eq_true rfl, Nat.le_of_ble_eq_true rfl⟩) hS (fun q _ h => hFc q h) hFc (fun r u t H locs ht hvm hw hB hz1 hk1 hS => ?_)
                    obtain ⟨hP1, hD1⟩ := hB
                    have hP1 := g5_ht ht hP1
                    obtain ⟨rfl, rfl⟩ := hw
                    have hJ9 := va_join (wr := [(a_rf, (arI G 5 f_rf)), (a_h, (oc1 (e_wa &&& (((1 : Int64) <<< (p_c.toInt64 &&& 63)) ^^^ (-1))) e_le e_st e_fo e_lc a_l a_g a_b a_s a_p a_w e_gb a_bb)), (a_p, (oc6 8 5 a_pn e_p)), (a_pn, (arI G 40 f_p)), (a_bb, (arJ G 24 f_bb))]) hP hD [0] [1, 2, 3, 4, 5] rfl rfl (by decide +kernel) (by decide +kernel) hk1 hFc hP1 hD1
                    clear hP hD hPc hDc hFc ht hvm hz1 hk1 hP1 hD1
                    obtain ⟨hP, hD⟩ := hJ9
                    refine g5_rs [(a_rf, (arI G 5 f_rf)), (a_h, (oc1 (e_wa &&& (((1 : Int64) <<< (p_c.toInt64 &&& 63)) ^^^ (-1))) e_le e_st e_fo e_lc a_l a_g a_b a_s a_p a_w e_gb a_bb)), (a_p, (oc6 8 5 a_pn e_p)), (a_pn, (arI G 40 f_p)), (a_bb, (arJ G 24 f_bb)), (a_o, (oc11 a_h a_im a_ke a_k a_wa a_th a_ha a_wk a_r a_x e_tl e_fd e_fpl a_wd e_wn a_rf 0))] hP hD ?_
                    clear hP hD
                    intro hP hD
                    exact W.iret (v := 1) hx hb hr (fun t ht hW => ⟨⟨1, [(a_o, (oc11 a_h a_im a_ke a_k a_wa a_th a_ha a_wk a_r a_x e_tl e_fd e_fpl a_wd e_wn a_rf 0)), (a_rf, (arI G 5 f_rf)), (a_h, (oc1 (e_wa &&& (((1 : Int64) <<< (p_c.toInt64 &&& 63)) ^^^ (-1))) e_le e_st e_fo e_lc a_l a_g a_b a_s a_p a_w e_gb a_bb)), (a_p, (oc6 8 5 a_pn e_p)), (a_pn, (arI G 40 f_p)), (a_bb, (arJ G 24 f_bb))], rfl, ⟨1, 0, f_rf, (e_wa &&& (((1 : Int64) <<< (p_c.toInt64 &&& 63)) ^^^ (-1))), hh_wall0 e_hh ⟨by omega, by omega⟩ (by omega), rfl, rfl⟩, by rw [ht]; exact hP.sub [5, 0, 1, 2, 3, 4] rfl, hD.sub [5, 0, 1, 2, 3, 4] (by decide +kernel) rfl⟩, hS.F ht⟩) hS.2.2 dX11_wall_104
                  ·
                    have i_17 : p_i.toInt = 1 := g5_neN (a := p_i.toInt) (b := 1) rfl (by decide +kernel) c_17
                    refine lv_aload_n hx hb dX11_wall_67 rfl (lv_at hl 1 rfl) ?_
                    refine va_get (D := G.1) (ci := 11) (v := .ref a_h) (C := RX11) (T := TX11) (N := 17) hx hb hts inG_X11 hown hK hP 0 rfl rfl 0 (by decide +kernel) (hts _ fl_X11_12) (fun _ h9 => h9) rfl dX11_wall_68 ?_
                    refine va_get (D := G.1) (ci := 1) (v := .long e_wa) (C := RX1) (T := TX1) (N := 13) hx hb hts inG_X1 hown hK hP 2 rfl rfl 0 (by decide +kernel) (hts _ fl_X11_111) (fun _ h9 => h9) rfl dX11_wall_71 ?_
                    refine lv_lconst (v := 1) hx hb dX11_wall_74 (by decide +kernel) ?_
                    refine W.eq (g2 := F0 m 75 ls [.long 1, .long e_wa, .ref a_h]) rfl ?_
                    refine lv_iload_n hx hb dX11_wall_75 rfl (lv_at hl 2 rfl) ?_
                    refine lv_lshl (v := ((1 : Int64) <<< (p_c.toInt64 &&& 63))) hx hb dX11_wall_76 rfl ?_
                    refine lv_lor hx hb dX11_wall_77 ?_
                    refine lv_goto (tgt := 96) hx hb dX11_wall_78 (by decide +kernel) ?_
                    refine va_put (D := G.1) (ci := 1) (v := .long (e_wa ||| ((1 : Int64) <<< (p_c.toInt64 &&& 63)))) (ty := .long) (C := RX1) (T := TX1) (N := 13) hx hb hts inG_X1 tyX1 tyX1_ok nmX1 hown hK hP hD hS 2 rfl rfl 0 (by decide +kernel) (hts _ fl_X11_111) (fun _ h9 => h9) rfl (by decide +kernel) rfl rfl (Nat.le_of_ble_eq_true rfl) dX11_wall_96 ?_
                    clear hP hD hS
                    intro H locs hP hD hS
                    refine g5_rs [(a_o, (oc11 a_h a_im a_ke a_k a_wa a_th a_ha a_wk a_r a_x e_tl e_fd e_fpl a_wd e_wn a_rf e_lr)), (a_rf, (arI G 5 f_rf)), (a_h, (oc1 (e_wa ||| ((1 : Int64) <<< (p_c.toInt64 &&& 63))) e_le e_st e_fo e_lc a_l a_g a_b a_s a_p a_w e_gb a_bb)), (a_p, (oc6 8 5 a_pn e_p)), (a_pn, (arI G 40 f_p)), (a_bb, (arJ G 24 f_bb))] hP hD ?_
                    clear hP hD
                    intro hP hD
                    refine W.eq (g2 := F0 m 99 ls []) rfl ?_
                    refine lv_aload_n hx hb dX11_wall_99 rfl (lv_at hl 1 rfl) ?_
                    refine lv_iload_n hx hb dX11_wall_100 rfl (lv_at hl 0 rfl) ?_
                    obtain ⟨hPc, hDc, hFc⟩ := g5_sub3 (wc := [(a_o, (oc11 a_h a_im a_ke a_k a_wa a_th a_ha a_wk a_r a_x e_tl e_fd e_fpl a_wd e_wn a_rf e_lr))]) hP hD hS hA [0] (by decide +kernel) rfl
                    refine va_calli (va_runV (As := [.int 1]) (rest := []) ⟨hx, hb, hml, hown, hts⟩ (x_done l G a_o a_h a_im a_ke a_k a_wa a_th a_ha a_wk a_r a_x a_wd a_rf H.size e_tl e_fd e_fpl e_wn e_lr 1 h_e_tl h_e_wn) (cwV 1 hts gV_X11_121 rfl rfl rfl hv_X11_done ⟨Nat.le_of_ble_eq_true rfl, Nat.le_of_ble_eq_true rfl⟩) (g5_preV hPc hK hDc hN hT hS hFc (ci := 11) (q0 := 0) rfl rfl) rfl rfl hl.1 rfl (lv_room (Nat.le_of_ble_eq_true rfl)) dX11_wall_101 ⟨Nat.le_of_ble_eq_true rfl, Nat.le_of_ble_eq_true rfl⟩) hS (fun q _ h => hFc q h) hFc (fun r u t H locs ht hvm hw hB hz1 hk1 hS => ?_)
                    obtain ⟨hP1, hD1⟩ := hB
                    have hP1 := g5_ht ht hP1
                    obtain ⟨rfl, rfl⟩ := hw
                    have hJ9 := va_join (wr := [(a_rf, (arI G 5 f_rf)), (a_h, (oc1 (e_wa ||| ((1 : Int64) <<< (p_c.toInt64 &&& 63))) e_le e_st e_fo e_lc a_l a_g a_b a_s a_p a_w e_gb a_bb)), (a_p, (oc6 8 5 a_pn e_p)), (a_pn, (arI G 40 f_p)), (a_bb, (arJ G 24 f_bb))]) hP hD [0] [1, 2, 3, 4, 5] rfl rfl (by decide +kernel) (by decide +kernel) hk1 hFc hP1 hD1
                    clear hP hD hPc hDc hFc ht hvm hz1 hk1 hP1 hD1
                    obtain ⟨hP, hD⟩ := hJ9
                    refine g5_rs [(a_rf, (arI G 5 f_rf)), (a_h, (oc1 (e_wa ||| ((1 : Int64) <<< (p_c.toInt64 &&& 63))) e_le e_st e_fo e_lc a_l a_g a_b a_s a_p a_w e_gb a_bb)), (a_p, (oc6 8 5 a_pn e_p)), (a_pn, (arI G 40 f_p)), (a_bb, (arJ G 24 f_bb)), (a_o, (oc11 a_h a_im a_ke a_k a_wa a_th a_ha a_wk a_r a_x e_tl e_fd e_fpl a_wd e_wn a_rf 0))] hP hD ?_
                    clear hP hD
                    intro hP hD
                    exact W.iret (v := 1) hx hb hr (fun t ht hW => ⟨⟨1, [(a_o, (oc11 a_h a_im a_ke a_k a_wa a_th a_ha a_wk a_r a_x e_tl e_fd e_fpl a_wd e_wn a_rf 0)), (a_rf, (arI G 5 f_rf)), (a_h, (oc1 (e_wa ||| ((1 : Int64) <<< (p_c.toInt64 &&& 63))) e_le e_st e_fo e_lc a_l a_g a_b a_s a_p a_w e_gb a_bb)), (a_p, (oc6 8 5 a_pn e_p)), (a_pn, (arI G 40 f_p)), (a_bb, (arJ G 24 f_bb))], rfl, ⟨1, 0, f_rf, (e_wa ||| ((1 : Int64) <<< (p_c.toInt64 &&& 63))), hh_wall1 e_hh ⟨by omega, by omega⟩ (by omega) (tk_n e_hh e_hg e_hb e_hp ⟨by omega, by omega⟩ i_8), rfl, rfl⟩, by rw [ht]; exact hP.sub [5, 0, 1, 2, 3, 4] rfl, hD.sub [5, 0, 1, 2, 3, 4] (by decide +kernel) rfl⟩, hS.F ht⟩) hS.2.2 dX11_wall_104
            ·
              exact absurd c_11 (by decide +kernel)
        ·
          exact absurd c_6 (by decide +kernel)
      ·
        have hJ9 := g5_same hP hk1
        clear hP hPc hDc hFc ht hvm hz1 hk1 hP1 hD1
        have hP := hJ9
        clear hJ9
        refine lv_if_ne (tgt := 20) hx hb dX11_wall_11 (by decide +kernel) (fun c_18 => ?_) (fun c_18 => ?_)
        ·
          exact absurd c_18 (by decide +kernel)
        ·
          refine lv_aload_n hx hb dX11_wall_14 rfl (lv_at hl 0 rfl) ?_
          refine lv_iconst (v := (-1)) hx hb dX11_wall_15 (by decide +kernel) ?_
          obtain ⟨hPc, hDc, hFc⟩ := g5_sub3 (wc := [(a_o, (oc11 a_h a_im a_ke a_k a_wa a_th a_ha a_wk a_r a_x e_tl e_fd e_fpl a_wd e_wn a_rf e_lr)), (a_rf, (arI G 5 f_rf))]) hP hD hS hA [0, 1] (by decide +kernel) rfl
          refine va_calli (va_runV (As := [.int (-1)]) (rest := []) ⟨hx, hb, hml, hown, hts⟩ (x_refuse1 l G a_o a_rf a_h a_im a_ke a_k a_wa a_th a_ha a_wk a_r a_x a_wd H.size e_tl e_fd e_fpl e_wn e_lr f_rf h_e_tl h_e_wn) (cwV 1 hts gV_X11_104 rfl rfl rfl hv_X11_refuse ⟨Nat.le_of_ble_eq_true rfl, Nat.le_of_ble_eq_true rfl⟩) (g5_preV hPc hK hDc hN hT hS hFc (ci := 11) (q0 := 0) rfl rfl) rfl rfl hl.1 rfl (lv_room (Nat.le_of_ble_eq_true rfl)) dX11_wall_16 ⟨Nat.le_of_ble_eq_true rfl, Nat.le_of_ble_eq_true rfl⟩) hS (fun q _ h => hFc q h) hFc (fun r u t H locs ht hvm hw hB hz1 hk1 hS => ?_)
          obtain ⟨hP1, hD1⟩ := hB
          have hP1 := g5_ht ht hP1
          obtain ⟨z19, rfl, rfl⟩ := hw
          have hJ9 := va_join (wr := [(a_h, (oc1 e_wa e_le e_st e_fo e_lc a_l a_g a_b a_s a_p a_w e_gb a_bb)), (a_p, (oc6 8 5 a_pn e_p)), (a_pn, (arI G 40 f_p)), (a_bb, (arJ G 24 f_bb))]) hP hD [0, 1] [2, 3, 4, 5] rfl rfl (by decide +kernel) (by decide +kernel) hk1 hFc hP1 hD1
          clear hP hD hPc hDc hFc ht hvm hz1 hk1 hP1 hD1
          obtain ⟨hP, hD⟩ := hJ9
          refine g5_rs [(a_h, (oc1 e_wa e_le e_st e_fo e_lc a_l a_g a_b a_s a_p a_w e_gb a_bb)), (a_p, (oc6 8 5 a_pn e_p)), (a_pn, (arI G 40 f_p)), (a_bb, (arJ G 24 f_bb)), (a_o, (oc11 a_h a_im a_ke a_k a_wa a_th a_ha a_wk a_r a_x e_tl e_fd e_fpl a_wd e_wn a_rf (-1))), (a_rf, (arI G 5 z19))] hP hD ?_
          clear hP hD
          intro hP hD
          exact W.iret (v := (-1)) hx hb hr (fun t ht hW => ⟨⟨(-1), [(a_o, (oc11 a_h a_im a_ke a_k a_wa a_th a_ha a_wk a_r a_x e_tl e_fd e_fpl a_wd e_wn a_rf (-1))), (a_rf, (arI G 5 z19)), (a_h, (oc1 e_wa e_le e_st e_fo e_lc a_l a_g a_b a_s a_p a_w e_gb a_bb)), (a_p, (oc6 8 5 a_pn e_p)), (a_pn, (arI G 40 f_p)), (a_bb, (arJ G 24 f_bb))], rfl, ⟨(-1), (-1), z19, e_wa, by rw [wall_1 (f := f_ro) (c := p_c) (i := p_i) (fun q => by omega)]; exact e_hh, rfl, rfl⟩, by rw [ht]; exact hP.sub [4, 5, 0, 1, 2, 3] rfl, hD.sub [4, 5, 0, 1, 2, 3] (by decide +kernel) rfl⟩, hS.F ht⟩) hS.2.2 dX11_wall_19
  ·
    have hJ9 := g5_same hP hk1
    clear hP hPc hDc hFc ht hvm hz1 hk1 hP1 hD1
    have hP := hJ9
    clear hJ9
    refine lv_if_eq (tgt := 14) hx hb dX11_wall_4 (by decide +kernel) (fun c_20 => ?_) (fun c_20 => ?_)
    ·
      refine lv_aload_n hx hb dX11_wall_14 rfl (lv_at hl 0 rfl) ?_
      refine lv_iconst (v := (-1)) hx hb dX11_wall_15 (by decide +kernel) ?_
      obtain ⟨hPc, hDc, hFc⟩ := g5_sub3 (wc := [(a_o, (oc11 a_h a_im a_ke a_k a_wa a_th a_ha a_wk a_r a_x e_tl e_fd e_fpl a_wd e_wn a_rf e_lr)), (a_rf, (arI G 5 f_rf))]) hP hD hS hA [0, 1] (by decide +kernel) rfl
      refine va_calli (va_runV (As := [.int (-1)]) (rest := []) ⟨hx, hb, hml, hown, hts⟩ (x_refuse1 l G a_o a_rf a_h a_im a_ke a_k a_wa a_th a_ha a_wk a_r a_x a_wd H.size e_tl e_fd e_fpl e_wn e_lr f_rf h_e_tl h_e_wn) (cwV 1 hts gV_X11_104 rfl rfl rfl hv_X11_refuse ⟨Nat.le_of_ble_eq_true rfl, Nat.le_of_ble_eq_true rfl⟩) (g5_preV hPc hK hDc hN hT hS hFc (ci := 11) (q0 := 0) rfl rfl) rfl rfl hl.1 rfl (lv_room (Nat.le_of_ble_eq_true rfl)) dX11_wall_16 ⟨Nat.le_of_ble_eq_true rfl, Nat.le_of_ble_eq_true rfl⟩) hS (fun q _ h => hFc q h) hFc (fun r u t H locs ht hvm hw hB hz1 hk1 hS => ?_)
      obtain ⟨hP1, hD1⟩ := hB
      have hP1 := g5_ht ht hP1
      obtain ⟨z21, rfl, rfl⟩ := hw
      have hJ9 := va_join (wr := [(a_h, (oc1 e_wa e_le e_st e_fo e_lc a_l a_g a_b a_s a_p a_w e_gb a_bb)), (a_p, (oc6 8 5 a_pn e_p)), (a_pn, (arI G 40 f_p)), (a_bb, (arJ G 24 f_bb))]) hP hD [0, 1] [2, 3, 4, 5] rfl rfl (by decide +kernel) (by decide +kernel) hk1 hFc hP1 hD1
      clear hP hD hPc hDc hFc ht hvm hz1 hk1 hP1 hD1
      obtain ⟨hP, hD⟩ := hJ9
      refine g5_rs [(a_h, (oc1 e_wa e_le e_st e_fo e_lc a_l a_g a_b a_s a_p a_w e_gb a_bb)), (a_p, (oc6 8 5 a_pn e_p)), (a_pn, (arI G 40 f_p)), (a_bb, (arJ G 24 f_bb)), (a_o, (oc11 a_h a_im a_ke a_k a_wa a_th a_ha a_wk a_r a_x e_tl e_fd e_fpl a_wd e_wn a_rf (-1))), (a_rf, (arI G 5 z21))] hP hD ?_
      clear hP hD
      intro hP hD
      exact W.iret (v := (-1)) hx hb hr (fun t ht hW => ⟨⟨(-1), [(a_o, (oc11 a_h a_im a_ke a_k a_wa a_th a_ha a_wk a_r a_x e_tl e_fd e_fpl a_wd e_wn a_rf (-1))), (a_rf, (arI G 5 z21)), (a_h, (oc1 e_wa e_le e_st e_fo e_lc a_l a_g a_b a_s a_p a_w e_gb a_bb)), (a_p, (oc6 8 5 a_pn e_p)), (a_pn, (arI G 40 f_p)), (a_bb, (arJ G 24 f_bb))], rfl, ⟨(-1), (-1), z21, e_wa, by rw [wall_1 (f := f_ro) (c := p_c) (i := p_i) (fun q => by omega)]; exact e_hh, rfl, rfl⟩, by rw [ht]; exact hP.sub [4, 5, 0, 1, 2, 3] rfl, hD.sub [4, 5, 0, 1, 2, 3] (by decide +kernel) rfl⟩, hS.F ht⟩) hS.2.2 dX11_wall_19
    ·
      exact absurd c_20 (by decide +kernel)
