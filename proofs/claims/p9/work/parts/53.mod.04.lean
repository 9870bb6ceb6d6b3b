set_option maxHeartbeats 4000000 in
set_option maxRecDepth 100000 in
theorem n_pathP (l : Launch) (G : g5_G) (b_o b_ro b_se b_re b_pt b_ah b_be b_me b_rf b_im b_ke b_tp b_nl b_op b_ar b_pi b_pa b_ws b_hw b_ip b_tr b_ld b_wn : Nat) (sz : Nat) (u_th : Int32) (u_sa : Int32) (u_fd : Int32) (u_td : Int32) (u_fr : Int32) (u_to : Int32) (u_so : Int32) (u_fa : Int32) (u_bd : Int32) (u_nc : Int32) (u_co : Int32) (u_le : Int32) (u_pd : Int32) (u_od : Int32) (u_la : Int32) (u_bk : Int32) (u_ce : Int32) (u_ho : Int32) (u_wy : Int32) (u_bt : Int32) (u_ps : Int32) (u_tg : Int32) (u_sn : Int32) (u_ic : Int32) (u_wd : Int32) (u_id : Int32) (p_1 : Int32) (u_wo : Int64) (u_va : Int64) (u_su : Int64) (u_st : Int64) (v_ro : Nat → Int32) (v_se : Nat → Int64) (v_re : Nat → Int64) (v_pt : Nat → Int32) (v_ah : Nat → Int64) (v_be : Nat → Int64) (v_me : Nat → Int32) (h_u_td : 0 ≤ u_td.toInt ∧ u_td.toInt ≤ 400) (h_u_fr : 0 ≤ u_fr.toInt ∧ u_fr.toInt ≤ 400) (h_u_to : 0 ≤ u_to.toInt ∧ u_to.toInt ≤ 400) (h_u_bd : 0 ≤ u_bd.toInt ∧ u_bd.toInt ≤ 1) (h_u_nc : 0 ≤ u_nc.toInt ∧ u_nc.toInt ≤ 12) (h_u_co : 0 ≤ u_co.toInt ∧ u_co.toInt ≤ 400) (h_u_pd : 0 ≤ u_pd.toInt ∧ u_pd.toInt ≤ 400) (h_u_la : 0 ≤ u_la.toInt ∧ u_la.toInt ≤ 4840) (h_u_bk : 0 ≤ u_bk.toInt ∧ u_bk.toInt ≤ 1) (h_u_ce : 0 ≤ u_ce.toInt ∧ u_ce.toInt ≤ 63) (h_u_ho : 0 ≤ u_ho.toInt ∧ u_ho.toInt ≤ 23) (h_u_wy : 0 ≤ u_wy.toInt ∧ u_wy.toInt ≤ 3) (h_u_bt : 0 ≤ u_bt.toInt ∧ u_bt.toInt ≤ 1000000) (h_u_ps : 0 ≤ u_ps.toInt ∧ u_ps.toInt ≤ 200) (h_u_ic : 0 ≤ u_ic.toInt ∧ u_ic.toInt ≤ 1) (h_u_id : 0 ≤ u_id.toInt ∧ u_id.toInt ≤ 1) (r_ro : MI v_ro) (r_pt : PTI v_pt) (r_me : MEI v_me) (e_ah : AH0 v_ah v_me) : Met l yX12_path (wsG yX12_path cX12_path 8 (some .int)) ({ frames := 10, cells := 0, slots := 0, locals := 251 }) (va_Pc [.ref b_o, .int p_1] (g5_P G [(b_o, (oc12 u_th u_sa b_rf b_ro b_im b_ke u_fd b_tp u_td u_fr u_to u_so u_wo u_fa u_bd u_nc b_nl u_co b_op b_ar u_le b_pi b_pa u_pd u_od b_ws b_hw u_la b_se b_re u_bk u_va u_su u_ce u_ho u_wy u_bt u_ps b_pt u_tg u_sn b_ip u_ic b_ah b_be b_me u_wd b_tr b_ld u_st b_wn u_id)), (b_ro, (arI G 5740 v_ro)), (b_se, (arJ G 13 v_se)), (b_re, (arJ G 400 v_re)), (b_pt, (arI G 200 v_pt)), (b_ah, (arJ G 49152 v_ah)), (b_be, (arJ G 49152 v_be)), (b_me, (arI G 1536 v_me))] sz)) (va_Qi (fun (r : Int32) (u : va_W) => (∃ (o_r : Int32) (o_th : Int32) (o_la : Int32) (o_bk : Int32) (o_va : Int64) (o_su : Int64) (o_ce : Int32) (o_ho : Int32) (o_wy : Int32) (o_bt : Int32) (o_ps : Int32) (o_tg : Int32) (o_sn : Int32) (o_ic : Int32) (o_wd : Int32) (o_se : Nat → Int64) (o_re : Nat → Int64) (o_pt : Nat → Int32) (o_ah : Nat → Int64) (o_be : Nat → Int64) (o_me : Nat → Int32), (0 ≤ o_la.toInt ∧ o_la.toInt ≤ 4840) ∧ (0 ≤ o_bk.toInt ∧ o_bk.toInt ≤ 1) ∧ (0 ≤ o_ce.toInt ∧ o_ce.toInt ≤ 63) ∧ (0 ≤ o_ho.toInt ∧ o_ho.toInt ≤ 23) ∧ (0 ≤ o_wy.toInt ∧ o_wy.toInt ≤ 3) ∧ (0 ≤ o_bt.toInt ∧ o_bt.toInt ≤ 1000000) ∧ (0 ≤ o_ps.toInt ∧ o_ps.toInt ≤ 200) ∧ (PTI o_pt) ∧ (0 ≤ o_ic.toInt ∧ o_ic.toInt ≤ 1) ∧ (MEI o_me) ∧ (AH0 o_ah o_me) ∧ (r = o_r) ∧ (u = [(b_o, (oc12 o_th u_sa b_rf b_ro b_im b_ke u_fd b_tp u_td u_fr u_to u_so u_wo u_fa u_bd u_nc b_nl u_co b_op b_ar u_le b_pi b_pa u_pd u_od b_ws b_hw o_la b_se b_re o_bk o_va o_su o_ce o_ho o_wy o_bt o_ps b_pt o_tg o_sn b_ip o_ic b_ah b_be b_me o_wd b_tr b_ld u_st b_wn u_id)), (b_ro, (arI G 5740 v_ro)), (b_se, (arJ G 13 o_se)), (b_re, (arJ G 400 o_re)), (b_pt, (arI G 200 o_pt)), (b_ah, (arJ G 49152 o_ah)), (b_be, (arJ G 49152 o_be)), (b_me, (arI G 1536 o_me))]))) (g5_B G (va_A [(b_o, (oc12 u_th u_sa b_rf b_ro b_im b_ke u_fd b_tp u_td u_fr u_to u_so u_wo u_fa u_bd u_nc b_nl u_co b_op b_ar u_le b_pi b_pa u_pd u_od b_ws b_hw u_la b_se b_re u_bk u_va u_su u_ce u_ho u_wy u_bt u_ps b_pt u_tg u_sn b_ip u_ic b_ah b_be b_me u_wd b_tr b_ld u_st b_wn u_id)), (b_ro, (arI G 5740 v_ro)), (b_se, (arJ G 13 v_se)), (b_re, (arJ G 400 v_re)), (b_pt, (arI G 200 v_pt)), (b_ah, (arJ G 49152 v_ah)), (b_be, (arJ G 49152 v_be)), (b_me, (arI G 1536 v_me))] sz)) (va_A [(b_o, (oc12 u_th u_sa b_rf b_ro b_im b_ke u_fd b_tp u_td u_fr u_to u_so u_wo u_fa u_bd u_nc b_nl u_co b_op b_ar u_le b_pi b_pa u_pd u_od b_ws b_hw u_la b_se b_re u_bk u_va u_su u_ce u_ho u_wy u_bt u_ps b_pt u_tg u_sn b_ip u_ic b_ah b_be b_me u_wd b_tr b_ld u_st b_wn u_id)), (b_ro, (arI G 5740 v_ro)), (b_se, (arJ G 13 v_se)), (b_re, (arJ G 400 v_re)), (b_pt, (arI G 200 v_pt)), (b_ah, (arJ G 49152 v_ah)), (b_be, (arJ G 49152 v_be)), (b_me, (arI G 1536 v_me))] sz)) 0 0 (va_A [(b_o, (oc12 u_th u_sa b_rf b_ro b_im b_ke u_fd b_tp u_td u_fr u_to u_so u_wo u_fa u_bd u_nc b_nl u_co b_op b_ar u_le b_pi b_pa u_pd u_od b_ws b_hw u_la b_se b_re u_bk u_va u_su u_ce u_ho u_wy u_bt u_ps b_pt u_tg u_sn b_ip u_ic b_ah b_be b_me u_wd b_tr b_ld u_st b_wn u_id)), (b_ro, (arI G 5740 v_ro)), (b_se, (arJ G 13 v_se)), (b_re, (arJ G 400 v_re)), (b_pt, (arI G 200 v_pt)), (b_ah, (arJ G 49152 v_ah)), (b_be, (arJ G 49152 v_be)), (b_me, (arI G 1536 v_me))] sz) := by
  refine Met.ofW (cc := cX12_path) (maxL := 8) (ret := (some .int)) (by decide) rfl ?_
  intro p e s m args below meth c s₁ B hml hv
  obtain ⟨rfl, hsz, hP, hK, hD0, hN, hT⟩ := hv
  have hx := B.exec
  have hb := B.bytes
  have hr := B.returns
  have hts : ∀ w ∈ tblG, w.before _ s = true := fun w h => atoms_spec (ws := (wsG yX12_path cX12_path 8 (some .int))) B.pre w (List.mem_cons_of_mem _ h)
  have hown : s.vm.findClass RX12 = some m.cls := findClass_of_methodNamed B.named
  have hlocks := B.notSynchronized
  subst hsz
  have hD := hD0.self (sz := s.heap.size)
  generalize hAe : va_A [(b_o, (oc12 u_th u_sa b_rf b_ro b_im b_ke u_fd b_tp u_td u_fr u_to u_so u_wo u_fa u_bd u_nc b_nl u_co b_op b_ar u_le b_pi b_pa u_pd u_od b_ws b_hw u_la b_se b_re u_bk u_va u_su u_ce u_ho u_wy u_bt u_ps b_pt u_tg u_sn b_ip u_ic b_ah b_be b_me u_wd b_tr b_ld u_st b_wn u_id)), (b_ro, (arI G 5740 v_ro)), (b_se, (arJ G 13 v_se)), (b_re, (arJ G 400 v_re)), (b_pt, (arI G 200 v_pt)), (b_ah, (arJ G 49152 v_ah)), (b_be, (arJ G 49152 v_be)), (b_me, (arI G 1536 v_me))] s.heap.size = A at hD hT ⊢
  have hA : ∀ q : Nat, s.heap.size ≤ q → A q := fun q h => by rw [← hAe]; exact Or.inr h
  have hS : va_S A s.heap s.heap [] := va_S.rf
  have hP : va_P G.1 vwCl [(b_o, (oc12 u_th u_sa b_rf b_ro b_im b_ke u_fd b_tp u_td u_fr u_to u_so u_wo u_fa u_bd u_nc b_nl u_co b_op b_ar u_le b_pi b_pa u_pd u_od b_ws b_hw u_la b_se b_re u_bk u_va u_su u_ce u_ho u_wy u_bt u_ps b_pt u_tg u_sn b_ip u_ic b_ah b_be b_me u_wd b_tr b_ld u_st b_wn u_id)), (b_ro, (arI G 5740 v_ro)), (b_se, (arJ G 13 v_se)), (b_re, (arJ G 400 v_re)), (b_pt, (arI G 200 v_pt)), (b_ah, (arJ G 49152 v_ah)), (b_be, (arJ G 49152 v_be)), (b_me, (arI G 1536 v_me))] s.heap := hP
  have hl := lv_entry ([.ref b_o, .int p_1]) (n := 8) (Nat.le_of_ble_eq_true rfl)
  rw [lg_entry_eq]
  generalize (lg_sl ([.ref b_o, .int p_1]) ++ List.replicate (8 - (lg_sl ([.ref b_o, .int p_1])).length) Slot.unset).toArray = ls at hl ⊢
  have hl : lv_has ls 8 [(0, .ref b_o), (1, .int p_1)] := hl
  refine lv_aload_n hx hb dX12_path_0 rfl (lv_at hl 0 rfl) ?_
  refine lv_iconst (v := 0) hx hb dX12_path_1 (by decide) ?_
  refine va_put (D := G.1) (ci := 12) (v := .int 0) (ty := .int) (C := RX12) (T := TX12) (N := 52) hx hb hts inG_X12 tyX12 tyX12_ok nmX12 hown hK hP hD hS 0 rfl rfl 0 (by decide) (hts _ fl_X12_107) (fun _ h9 => h9) rfl (by decide +kernel) rfl rfl (Nat.le_of_ble_eq_true rfl) dX12_path_2 (fun H locs hP hD hS => ?_)
  refine g5_rs [(b_o, (oc12 0 u_sa b_rf b_ro b_im b_ke u_fd b_tp u_td u_fr u_to u_so u_wo u_fa u_bd u_nc b_nl u_co b_op b_ar u_le b_pi b_pa u_pd u_od b_ws b_hw u_la b_se b_re u_bk u_va u_su u_ce u_ho u_wy u_bt u_ps b_pt u_tg u_sn b_ip u_ic b_ah b_be b_me u_wd b_tr b_ld u_st b_wn u_id)), (b_ro, (arI G 5740 v_ro)), (b_se, (arJ G 13 v_se)), (b_re, (arJ G 400 v_re)), (b_pt, (arI G 200 v_pt)), (b_ah, (arJ G 49152 v_ah)), (b_be, (arJ G 49152 v_be)), (b_me, (arI G 1536 v_me))] hP hD (fun hP hD => ?_)
  refine lv_iload_n hx hb dX12_path_5 rfl (lv_at hl 1 rfl) ?_
  obtain ⟨hPc, hDc, hFc⟩ := g5_sub3 (wc := []) hP hD hS hA [] (by decide) rfl
  refine va_calli (va_runS (As := [.int p_1]) (rest := []) ⟨hx, hb, hml, hown, hts⟩ (n_isHour l G H.size p_1) (va_cwS 1 hts gS_X12_175 rfl rfl rfl hs_X12_isHour ⟨Nat.le_of_ble_eq_true rfl, Nat.le_of_ble_eq_true rfl⟩) (g5_preS hPc hK hDc hN hT hS hFc) rfl rfl hl.1 rfl (lv_room (Nat.le_of_ble_eq_true rfl)) dX12_path_6 ⟨Nat.le_of_ble_eq_true rfl, Nat.le_of_ble_eq_true rfl⟩) hS (fun q _ h => hFc q h) hFc (fun r u t H1 locs ht hvm hw hB hz1 hk1 hS => ?_)
  obtain ⟨hP1, hD1⟩ := hB
  rw [ht] at hP1
  rcases hw with ⟨i_1, rfl, rfl⟩ | ⟨rfl, rfl⟩
  ·
    have i_1 : 0 ≤ p_1.toInt ∧ p_1.toInt ≤ 23 := i_1
    have hP := g5_same hP hk1
    generalize H1 = H at hP hS ⊢
    refine lv_if_ne (tgt := 14) hx hb dX12_path_9 (by decide) (fun c_2 => ?_) (fun c_2 => ?_)
    ·
      refine lv_aload_n hx hb dX12_path_14 rfl (lv_at hl 0 rfl) ?_
      obtain ⟨hPc, hDc, hFc⟩ := g5_sub3 (wc := [(b_o, (oc12 0 u_sa b_rf b_ro b_im b_ke u_fd b_tp u_td u_fr u_to u_so u_wo u_fa u_bd u_nc b_nl u_co b_op b_ar u_le b_pi b_pa u_pd u_od b_ws b_hw u_la b_se b_re u_bk u_va u_su u_ce u_ho u_wy u_bt u_ps b_pt u_tg u_sn b_ip u_ic b_ah b_be b_me u_wd b_tr b_ld u_st b_wn u_id)), (b_ro, (arI G 5740 v_ro)), (b_se, (arJ G 13 v_se)), (b_re, (arJ G 400 v_re)), (b_pt, (arI G 200 v_pt)), (b_ah, (arJ G 49152 v_ah)), (b_be, (arJ G 49152 v_be)), (b_me, (arI G 1536 v_me))]) hP hD hS hA [0, 1, 2, 3, 4, 5, 6, 7] (by decide) rfl
      refine va_callv (va_runV (As := []) (rest := []) ⟨hx, hb, hml, hown, hts⟩ (n_countRowsP l G b_o b_ro b_se b_re b_pt b_ah b_be b_me b_rf b_im b_ke b_tp b_nl b_op b_ar b_pi b_pa b_ws b_hw b_ip b_tr b_ld b_wn H.size 0 u_sa u_fd u_td u_fr u_to u_so u_fa u_bd u_nc u_co u_le u_pd u_od u_la u_bk u_ce u_ho u_wy u_bt u_ps u_tg u_sn u_ic u_wd u_id u_wo u_va u_su u_st v_ro v_se v_re v_pt v_ah v_be v_me h_u_td h_u_fr h_u_to h_u_bd h_u_nc h_u_co h_u_pd h_u_la h_u_bk h_u_ce h_u_ho h_u_wy h_u_bt h_u_ps h_u_ic h_u_id (r_ro) (r_pt) (r_me) (e_ah)) (cwV 0 hts gV_X12_444 rfl rfl rfl hv_X12_countRows ⟨Nat.le_of_ble_eq_true rfl, Nat.le_of_ble_eq_true rfl⟩) (g5_preV hPc hK hDc hN hT hS hFc (ci := 12) (q0 := 0) rfl rfl) rfl rfl hl.1 rfl (lv_room (Nat.le_of_ble_eq_true rfl)) dX12_path_15 ⟨Nat.le_of_ble_eq_true rfl, Nat.le_of_ble_eq_true rfl⟩) hS (fun q _ h => hFc q h) hFc (fun u t H1 locs ht hvm hw hB hz1 hk1 hS => ?_)
      obtain ⟨hP1, hD1⟩ := hB
      rw [ht] at hP1
      obtain ⟨z14, z15, z16, z17, z18, z19, z20, z21, z22, z23, z24, z25, z26, z27, z28, z29, z30, z31, z32, i_3, i_4, i_5, i_6, i_7, i_8, i_9, i_10, i_11, i_12, i_13, rfl⟩ := hw
      have i_3 : 0 ≤ z14.toInt ∧ z14.toInt ≤ 4840 := i_3
      have i_4 : 0 ≤ z15.toInt ∧ z15.toInt ≤ 1 := i_4
      have i_5 : 0 ≤ z18.toInt ∧ z18.toInt ≤ 63 := i_5
      have i_6 : 0 ≤ z19.toInt ∧ z19.toInt ≤ 23 := i_6
      have i_7 : 0 ≤ z20.toInt ∧ z20.toInt ≤ 3 := i_7
      have i_8 : 0 ≤ z21.toInt ∧ z21.toInt ≤ 1000000 := i_8
      have i_9 : 0 ≤ z22.toInt ∧ z22.toInt ≤ 200 := i_9
      have i_10 : PTI z29 := i_10
      have i_11 : 0 ≤ z25.toInt ∧ z25.toInt ≤ 1 := i_11
      have i_12 : MEI z32 := i_12
      have i_13 : AH0 z30 z32 := i_13
      obtain ⟨hP, hD⟩ := va_join (wr := []) hP hD [0, 1, 2, 3, 4, 5, 6, 7] [] rfl rfl (by decide) (by decide) hk1 hFc hP1 hD1
      generalize H1 = H at hP hS ⊢
      refine g5_rs [(b_o, (oc12 0 u_sa b_rf b_ro b_im b_ke u_fd b_tp u_td u_fr u_to u_so u_wo u_fa u_bd u_nc b_nl u_co b_op b_ar u_le b_pi b_pa u_pd u_od b_ws b_hw z14 b_se b_re z15 z16 z17 z18 z19 z20 z21 z22 b_pt z23 z24 b_ip z25 b_ah b_be b_me z26 b_tr b_ld u_st b_wn u_id)), (b_ro, (arI G 5740 v_ro)), (b_se, (arJ G 13 z27)), (b_re, (arJ G 400 z28)), (b_pt, (arI G 200 z29)), (b_ah, (arJ G 49152 z30)), (b_be, (arJ G 49152 z31)), (b_me, (arI G 1536 z32))] hP hD (fun hP hD => ?_)
      refine lv_iconst (v := (-1)) hx hb dX12_path_18 (by decide) ?_
      refine lv_istore_n (lv' := [(2, .int (-1)), (0, .ref b_o), (1, .int p_1)]) hx hb dX12_path_19 rfl hl (by decide) rfl (fun ls hl => ?_)
      refine lv_iconst (v := 0) hx hb dX12_path_20 (by decide) ?_
      refine lv_istore_n (lv' := [(3, .int 0), (2, .int (-1)), (0, .ref b_o), (1, .int p_1)]) hx hb dX12_path_21 rfl hl (by decide) rfl (fun ls hl => ?_)
      refine lv_iconst (v := 0) hx hb dX12_path_22 (by decide) ?_
      refine lv_istore (lv' := [(4, .int 0), (3, .int 0), (2, .int (-1)), (0, .ref b_o), (1, .int p_1)]) hx hb dX12_path_23 hl (by decide) rfl (fun ls hl => ?_)
      refine g5_loop (α := (Int32) × (Int32) × (Int32)) (fun (q : (Int32) × (Int32) × (Int32)) (ls : Array Slot) (H : Heap) (locs : List Loc) => match q with | (k25_4, k25_3, k25_2) => lv_has ls 8 [(2, .int k25_2), (3, .int k25_3), (4, .int k25_4), (0, .ref b_o), (1, .int p_1)] ∧ va_P G.1 vwCl [(b_o, (oc12 0 u_sa b_rf b_ro b_im b_ke u_fd b_tp u_td u_fr u_to u_so u_wo u_fa u_bd u_nc b_nl u_co b_op b_ar u_le b_pi b_pa u_pd u_od b_ws b_hw z14 b_se b_re z15 z16 z17 z18 z19 z20 z21 z22 b_pt z23 z24 b_ip z25 b_ah b_be b_me z26 b_tr b_ld u_st b_wn u_id)), (b_ro, (arI G 5740 v_ro)), (b_se, (arJ G 13 z27)), (b_re, (arJ G 400 z28)), (b_pt, (arI G 200 z29)), (b_ah, (arJ G 49152 z30)), (b_be, (arJ G 49152 z31)), (b_me, (arI G 1536 z32))] H ∧ va_D A [(b_o, (oc12 0 u_sa b_rf b_ro b_im b_ke u_fd b_tp u_td u_fr u_to u_so u_wo u_fa u_bd u_nc b_nl u_co b_op b_ar u_le b_pi b_pa u_pd u_od b_ws b_hw z14 b_se b_re z15 z16 z17 z18 z19 z20 z21 z22 b_pt z23 z24 b_ip z25 b_ah b_be b_me z26 b_tr b_ld u_st b_wn u_id)), (b_ro, (arI G 5740 v_ro)), (b_se, (arJ G 13 z27)), (b_re, (arJ G 400 z28)), (b_pt, (arI G 200 z29)), (b_ah, (arJ G 49152 z30)), (b_be, (arJ G 49152 z31)), (b_me, (arI G 1536 z32))] ∧ va_S A s.heap H locs ∧ (0 ≤ k25_4.toInt ∧ k25_4.toInt ≤ 24) ∧ (0 ≤ k25_3.toInt ∧ k25_3.toInt ≤ 31) ∧ ((-1) ≤ k25_2.toInt ∧ k25_2.toInt ≤ 63)) (fun (q : (Int32) × (Int32) × (Int32)) => match q with | (k25_4, k25_3, k25_2) => Int.toNat (24 - k25_4.toInt)) (0, 0, (-1)) ⟨lv_sub hl [2, 1, 0, 3, 4] rfl, hP, hD, hS, ⟨by decide, by decide⟩, ⟨by decide, by decide⟩, ⟨by decide, by decide⟩⟩ ?_
      rintro ⟨k25_4, k25_3, k25_2⟩ ls H locs ⟨hl, hP, hD, hS, i_33, i_34, i_35⟩ ih_25_36
      have hl : lv_has ls 8 [(2, .int k25_2), (3, .int k25_3), (4, .int k25_4), (0, .ref b_o), (1, .int p_1)] := hl
      have i_33 : 0 ≤ k25_4.toInt ∧ k25_4.toInt ≤ 24 := i_33
      have i_34 : 0 ≤ k25_3.toInt ∧ k25_3.toInt ≤ 31 := i_34
      have i_35 : (-1) ≤ k25_2.toInt ∧ k25_2.toInt ≤ 63 := i_35
      refine g5_rs [(b_o, (oc12 0 u_sa b_rf b_ro b_im b_ke u_fd b_tp u_td u_fr u_to u_so u_wo u_fa u_bd u_nc b_nl u_co b_op b_ar u_le b_pi b_pa u_pd u_od b_ws b_hw z14 b_se b_re z15 z16 z17 z18 z19 z20 z21 z22 b_pt z23 z24 b_ip z25 b_ah b_be b_me z26 b_tr b_ld u_st b_wn u_id)), (b_ro, (arI G 5740 v_ro)), (b_se, (arJ G 13 z27)), (b_re, (arJ G 400 z28)), (b_pt, (arI G 200 z29)), (b_ah, (arJ G 49152 z30)), (b_be, (arJ G 49152 z31)), (b_me, (arI G 1536 z32))] hP hD (fun hP hD => ?_)
      refine lv_iload hx hb dX12_path_25 (lv_at hl 2 rfl) ?_
      refine lv_iload_n hx hb dX12_path_27 rfl (lv_at hl 4 rfl) ?_
      refine lv_icmp_gt (tgt := 194) hx hb dX12_path_28 (by decide) (fun c_37 => ?_) (fun c_37 => ?_)
      ·
        have i_37 : k25_4.toInt > p_1.toInt := by have z := g5_gt (a := k25_4.toInt) (b := p_1.toInt) (by rfl) (by rfl) c_37; omega
        refine lv_iload_n hx hb dX12_path_194 rfl (lv_at hl 0 rfl) ?_
        exact W.iret (v := k25_2) hx hb hr (fun t ht hW => ⟨⟨k25_2, [(b_o, (oc12 0 u_sa b_rf b_ro b_im b_ke u_fd b_tp u_td u_fr u_to u_so u_wo u_fa u_bd u_nc b_nl u_co b_op b_ar u_le b_pi b_pa u_pd u_od b_ws b_hw z14 b_se b_re z15 z16 z17 z18 z19 z20 z21 z22 b_pt z23 z24 b_ip z25 b_ah b_be b_me z26 b_tr b_ld u_st b_wn u_id)), (b_ro, (arI G 5740 v_ro)), (b_se, (arJ G 13 z27)), (b_re, (arJ G 400 z28)), (b_pt, (arI G 200 z29)), (b_ah, (arJ G 49152 z30)), (b_be, (arJ G 49152 z31)), (b_me, (arI G 1536 z32))], rfl, ⟨k25_2, 0, z14, z15, z16, z17, z18, z19, z20, z21, z22, z23, z24, z25, z26, z27, z28, z29, z30, z31, z32, i_3, i_4, i_5, i_6, i_7, i_8, i_9, i_10, i_11, i_12, i_13, rfl, rfl⟩, by rw [ht]; exact hP.sub [0, 1, 2, 3, 4, 5, 6, 7] rfl, hD.sub [0, 1, 2, 3, 4, 5, 6, 7] (by decide) rfl⟩, hS.F ht⟩) hS.2.2 dX12_path_195
      ·
        have i_37 : k25_4.toInt ≤ p_1.toInt := by have z := g5_gtN (a := k25_4.toInt) (b := p_1.toInt) (by rfl) (by rfl) c_37; omega
        refine lv_iconst (v := (-1)) hx hb dX12_path_31 (by decide) ?_
        refine lv_istore (lv' := [(5, .int (-1)), (2, .int k25_2), (3, .int k25_3), (4, .int k25_4), (0, .ref b_o), (1, .int p_1)]) hx hb dX12_path_32 hl (by decide) rfl (fun ls hl => ?_)
        refine lv_bipush (v := 63) hx hb dX12_path_34 (by decide) ?_
        refine lv_istore (lv' := [(6, .int 63), (5, .int (-1)), (2, .int k25_2), (3, .int k25_3), (4, .int k25_4), (0, .ref b_o), (1, .int p_1)]) hx hb dX12_path_36 hl (by decide) rfl (fun ls hl => ?_)
        refine g5_loop (α := (Int32) × (Int32)) (fun (q : (Int32) × (Int32)) (ls : Array Slot) (H : Heap) (locs : List Loc) => match q with | (k38_6, k38_5) => lv_has ls 8 [(5, .int k38_5), (6, .int k38_6), (2, .int k25_2), (3, .int k25_3), (4, .int k25_4), (0, .ref b_o), (1, .int p_1)] ∧ va_P G.1 vwCl [(b_o, (oc12 0 u_sa b_rf b_ro b_im b_ke u_fd b_tp u_td u_fr u_to u_so u_wo u_fa u_bd u_nc b_nl u_co b_op b_ar u_le b_pi b_pa u_pd u_od b_ws b_hw z14 b_se b_re z15 z16 z17 z18 z19 z20 z21 z22 b_pt z23 z24 b_ip z25 b_ah b_be b_me z26 b_tr b_ld u_st b_wn u_id)), (b_ro, (arI G 5740 v_ro)), (b_se, (arJ G 13 z27)), (b_re, (arJ G 400 z28)), (b_pt, (arI G 200 z29)), (b_ah, (arJ G 49152 z30)), (b_be, (arJ G 49152 z31)), (b_me, (arI G 1536 z32))] H ∧ va_D A [(b_o, (oc12 0 u_sa b_rf b_ro b_im b_ke u_fd b_tp u_td u_fr u_to u_so u_wo u_fa u_bd u_nc b_nl u_co b_op b_ar u_le b_pi b_pa u_pd u_od b_ws b_hw z14 b_se b_re z15 z16 z17 z18 z19 z20 z21 z22 b_pt z23 z24 b_ip z25 b_ah b_be b_me z26 b_tr b_ld u_st b_wn u_id)), (b_ro, (arI G 5740 v_ro)), (b_se, (arJ G 13 z27)), (b_re, (arJ G 400 z28)), (b_pt, (arI G 200 z29)), (b_ah, (arJ G 49152 z30)), (b_be, (arJ G 49152 z31)), (b_me, (arI G 1536 z32))] ∧ va_S A s.heap H locs ∧ ((-1) ≤ k38_6.toInt ∧ k38_6.toInt ≤ 63) ∧ ((-1) ≤ k38_5.toInt ∧ k38_5.toInt ≤ 63) ∧ (k38_5.toInt = -1 ∨ (z32 (64 * k25_4.toInt + k38_5.toInt).toNat).toInt < 64)) (fun (q : (Int32) × (Int32)) => match q with | (k38_6, k38_5) => Int.toNat (k38_6.toInt + 1)) (63, (-1)) ⟨lv_sub hl [1, 0, 2, 3, 4, 5, 6] rfl, hP, hD, hS, ⟨by decide, by decide⟩, ⟨by decide, by decide⟩, Or.inl (by decide)⟩ ?_
        rintro ⟨k38_6, k38_5⟩ ls H locs ⟨hl, hP, hD, hS, i_38, i_39, i_40⟩ ih_38_41
        have hl : lv_has ls 8 [(5, .int k38_5), (6, .int k38_6), (2, .int k25_2), (3, .int k25_3), (4, .int k25_4), (0, .ref b_o), (1, .int p_1)] := hl
        have i_38 : (-1) ≤ k38_6.toInt ∧ k38_6.toInt ≤ 63 := i_38
        have i_39 : (-1) ≤ k38_5.toInt ∧ k38_5.toInt ≤ 63 := i_39
        have i_40 : k38_5.toInt = -1 ∨ (z32 (64 * k25_4.toInt + k38_5.toInt).toNat).toInt < 64 := i_40
        refine g5_rs [(b_o, (oc12 0 u_sa b_rf b_ro b_im b_ke u_fd b_tp u_td u_fr u_to u_so u_wo u_fa u_bd u_nc b_nl u_co b_op b_ar u_le b_pi b_pa u_pd u_od b_ws b_hw z14 b_se b_re z15 z16 z17 z18 z19 z20 z21 z22 b_pt z23 z24 b_ip z25 b_ah b_be b_me z26 b_tr b_ld u_st b_wn u_id)), (b_ro, (arI G 5740 v_ro)), (b_se, (arJ G 13 z27)), (b_re, (arJ G 400 z28)), (b_pt, (arI G 200 z29)), (b_ah, (arJ G 49152 z30)), (b_be, (arJ G 49152 z31)), (b_me, (arI G 1536 z32))] hP hD (fun hP hD => ?_)
        refine lv_iload hx hb dX12_path_38 (lv_at hl 1 rfl) ?_
        refine lv_if_lt (tgt := 162) hx hb dX12_path_40 (by decide) (fun c_42 => ?_) (fun c_42 => ?_)
        ·
          have i_42 : k38_6.toInt < 0 := by have z := g5_lt (a := k38_6.toInt) (b := 0) (by rfl) (by decide) c_42; omega
          refine lv_iload hx hb dX12_path_162 (lv_at hl 0 rfl) ?_
          refine lv_iconst (v := (-1)) hx hb dX12_path_164 (by decide) ?_
          refine lv_icmp_ne (tgt := 170) hx hb dX12_path_165 (by decide) (fun c_43 => ?_) (fun c_43 => ?_)
          ·
            have n_43 : gNe (k38_5.toInt) ((-1)) := by have z := g5_ne (a := k38_5.toInt) (b := (-1)) (by rfl) (by decide) c_43; unfold gNe; omega
            have i_43 : k38_5.toInt ≥ 0 := by have z := g5_ne (a := k38_5.toInt) (b := (-1)) (by rfl) (by decide) c_43; omega
            refine lv_iload hx hb dX12_path_170 (lv_at hl 0 rfl) ?_
            refine lv_istore_n (lv' := [(2, .int k38_5), (5, .int k38_5), (6, .int k38_6), (3, .int k25_3), (4, .int k25_4), (0, .ref b_o), (1, .int p_1)]) hx hb dX12_path_172 rfl hl (by decide) rfl (fun ls hl => ?_)
            refine lv_iload_n hx hb dX12_path_173 rfl (lv_at hl 3 rfl) ?_
            refine lv_aload_n hx hb dX12_path_174 rfl (lv_at hl 5 rfl) ?_
            refine va_get (D := G.1) (ci := 12) (v := .ref b_me) (C := RX12) (T := TX12) (N := 52) hx hb hts inG_X12 hown hK hP 0 rfl rfl 45 (by decide) (hts _ fl_X12_95) (fun _ h9 => h9) rfl dX12_path_175 ?_
            refine lv_bipush (v := 64) hx hb dX12_path_178 (by decide) ?_
            refine lv_iload hx hb dX12_path_180 (lv_at hl 4 rfl) ?_
            refine lv_imul hx hb dX12_path_182 ?_
            have t_44 : (64 * k25_4).toInt = 64 * k25_4.toInt := g5_imul (a := 64) (b := k25_4.toInt) (by decide) (by rfl) (by omega) (by omega)
            refine lv_iload_n hx hb dX12_path_183 rfl (lv_at hl 0 rfl) ?_
            refine lv_iadd hx hb dX12_path_184 ?_
            have t_45 : ((64 * k25_4) + k38_5).toInt = (64 * k25_4).toInt + k38_5.toInt := g5_iadd (a := (64 * k25_4).toInt) (b := k38_5.toInt) (by rfl) (by rfl) (by omega) (by omega)
            refine va_iald hx hb hK hP 7 0 rfl rfl (i := ((64 * k25_4) + k38_5)) (vp_in_iff.mpr ⟨by omega, by omega⟩) dX12_path_185 ?_
            have hr_46 : 0 ≤ (z32 ((64 * k25_4) + k38_5).toNatClampNeg).toInt ∧ ((z32 ((64 * k25_4) + k38_5).toNatClampNeg).toInt < 32 ∨ 64 ≤ (z32 ((64 * k25_4) + k38_5).toNatClampNeg).toInt) ∧ (z32 ((64 * k25_4) + k38_5).toNatClampNeg).toInt ≤ 127 := i_12 (((64 * k25_4) + k38_5).toNatClampNeg)
            have h64_47 : (z32 ((64 * k25_4) + k38_5).toNatClampNeg).toInt < 64 := by have e9 : ((64 * k25_4) + k38_5).toNatClampNeg = (64 * k25_4.toInt + k38_5.toInt).toNat := (by have zz := g5_clamp ((64 * k25_4) + k38_5); omega); rw [e9]; rcases i_40 with q | q; omega; exact q
            refine lv_ior hx hb dX12_path_186 ?_
            have ho_48 : 0 ≤ (k25_3 ||| (z32 ((64 * k25_4) + k38_5).toNatClampNeg)).toInt ∧ (k25_3 ||| (z32 ((64 * k25_4) + k38_5).toNatClampNeg)).toInt < 32 := me_low ⟨by omega, by omega⟩ ⟨by omega, by omega⟩
            refine lv_istore_n (lv' := [(3, .int (k25_3 ||| (z32 ((64 * k25_4) + k38_5).toNatClampNeg))), (2, .int k38_5), (5, .int k38_5), (6, .int k38_6), (4, .int k25_4), (0, .ref b_o), (1, .int p_1)]) hx hb dX12_path_187 rfl hl (by decide) rfl (fun ls hl => ?_)
            refine lv_iinc (v := (k25_4 + 1)) (lv' := [(4, .int (k25_4 + 1)), (3, .int (k25_3 ||| (z32 ((64 * k25_4) + k38_5).toNatClampNeg))), (2, .int k38_5), (5, .int k38_5), (6, .int k38_6), (0, .ref b_o), (1, .int p_1)]) hx hb dX12_path_188 hl (k := 4) rfl rfl (by decide) rfl (fun ls hl => ?_)
            have t_49 : (k25_4 + 1).toInt = k25_4.toInt + 1 := g5_iadd (a := k25_4.toInt) (b := 1) rfl (by decide) (by omega) (by omega)
            refine lv_goto (tgt := 25) hx hb dX12_path_191 (by decide) ?_
            exact ih_25_36 ((k25_4 + 1), (k25_3 ||| (z32 ((64 * k25_4) + k38_5).toNatClampNeg)), k38_5) ls H locs (show Int.toNat (24 - (k25_4 + 1).toInt) < Int.toNat (24 - k25_4.toInt) from g_up (show k25_4.toInt < (k25_4 + 1).toInt by omega) (show k25_4.toInt < 24 by omega)) ⟨lv_sub hl [2, 1, 0, 5, 6] rfl, hP, hD, hS, ⟨by omega, by omega⟩, ⟨by omega, by omega⟩, i_39⟩
          ·
            have i_43 : k38_5.toInt = (-1) := by have z := g5_neN (a := k38_5.toInt) (b := (-1)) (by rfl) (by decide) c_43; omega
            refine lv_iconst (v := (-1)) hx hb dX12_path_168 (by decide) ?_
            exact W.iret (v := (-1)) hx hb hr (fun t ht hW => ⟨⟨(-1), [(b_o, (oc12 0 u_sa b_rf b_ro b_im b_ke u_fd b_tp u_td u_fr u_to u_so u_wo u_fa u_bd u_nc b_nl u_co b_op b_ar u_le b_pi b_pa u_pd u_od b_ws b_hw z14 b_se b_re z15 z16 z17 z18 z19 z20 z21 z22 b_pt z23 z24 b_ip z25 b_ah b_be b_me z26 b_tr b_ld u_st b_wn u_id)), (b_ro, (arI G 5740 v_ro)), (b_se, (arJ G 13 z27)), (b_re, (arJ G 400 z28)), (b_pt, (arI G 200 z29)), (b_ah, (arJ G 49152 z30)), (b_be, (arJ G 49152 z31)), (b_me, (arI G 1536 z32))], rfl, ⟨(-1), 0, z14, z15, z16, z17, z18, z19, z20, z21, z22, z23, z24, z25, z26, z27, z28, z29, z30, z31, z32, i_3, i_4, i_5, i_6, i_7, i_8, i_9, i_10, i_11, i_12, i_13, rfl, rfl⟩, by rw [ht]; exact hP.sub [0, 1, 2, 3, 4, 5, 6, 7] rfl, hD.sub [0, 1, 2, 3, 4, 5, 6, 7] (by decide) rfl⟩, hS.F ht⟩) hS.2.2 dX12_path_169
        ·
          have i_42 : k38_6.toInt ≥ 0 := by have z := g5_ltN (a := k38_6.toInt) (b := 0) (by rfl) (by decide) c_42; omega
          refine lv_iload hx hb dX12_path_43 (lv_at hl 4 rfl) ?_
          refine lv_if_ne (tgt := 68) hx hb dX12_path_45 (by decide) (fun c_50 => ?_) (fun c_50 => ?_)
          ·
            have n_50 : gNe (k25_4.toInt) (0) := by have z := g5_ne (a := k25_4.toInt) (b := 0) (by rfl) (by decide) c_50; unfold gNe; omega
            have i_50 : k25_4.toInt ≥ 1 := by have z := g5_ne (a := k25_4.toInt) (b := 0) (by rfl) (by decide) c_50; omega
            refine lv_iload_n hx hb dX12_path_68 rfl (lv_at hl 2 rfl) ?_
            refine lv_iload hx hb dX12_path_69 (lv_at hl 1 rfl) ?_
            obtain ⟨hPc, hDc, hFc⟩ := g5_sub3 (wc := []) hP hD hS hA [] (by decide) rfl
            refine va_calli (va_runS (As := [.int k25_2, .int k38_6]) (rest := []) ⟨hx, hb, hml, hown, hts⟩ (n_isStep l G H.size k25_2 k38_6 i_35 ⟨by omega, by omega⟩) (va_cwS 2 hts gS_X12_454 rfl rfl rfl hs_X12_isStep ⟨Nat.le_of_ble_eq_true rfl, Nat.le_of_ble_eq_true rfl⟩) (g5_preS hPc hK hDc hN hT hS hFc) rfl rfl hl.1 rfl (lv_room (Nat.le_of_ble_eq_true rfl)) dX12_path_71 ⟨Nat.le_of_ble_eq_true rfl, Nat.le_of_ble_eq_true rfl⟩) hS (fun q _ h => hFc q h) hFc (fun r u t H1 locs ht hvm hw hB hz1 hk1 hS => ?_)
            obtain ⟨hP1, hD1⟩ := hB
            rw [ht] at hP1
            obtain ⟨z52, i_51, y53, rfl⟩ := hw
            have i_51 : 0 ≤ z52.toInt ∧ z52.toInt ≤ 1 := i_51
            have hP := g5_same hP hk1
            generalize H1 = H at hP hS ⊢
            refine g5_ti (v := z52) y53 ?_
            refine lv_if_eq (tgt := 139) hx hb dX12_path_74 (by decide) (fun c_54 => ?_) (fun c_54 => ?_)
            ·
              have i_54 : z52.toInt = 0 := by have z := g5_eq (a := z52.toInt) (b := 0) (by rfl) (by decide) c_54; omega
              refine lv_iconst (v := 0) hx hb dX12_path_139 (by decide) ?_
              refine lv_istore (lv' := [(7, .int 0), (5, .int k38_5), (6, .int k38_6), (2, .int k25_2), (3, .int k25_3), (4, .int k25_4), (0, .ref b_o), (1, .int p_1)]) hx hb dX12_path_140 hl (by decide) rfl (fun ls hl => ?_)
              refine lv_iload hx hb dX12_path_142 (lv_at hl 0 rfl) ?_
              refine lv_if_eq (tgt := 152) hx hb dX12_path_144 (by decide) (fun c_55 => ?_) (fun c_55 => ?_)
              ·
                refine lv_iload hx hb dX12_path_152 (lv_at hl 1 rfl) ?_
                refine lv_istore (lv' := [(5, .int k38_5), (7, .int 0), (6, .int k38_6), (2, .int k25_2), (3, .int k25_3), (4, .int k25_4), (0, .ref b_o), (1, .int p_1)]) hx hb dX12_path_154 hl (by decide) rfl (fun ls hl => ?_)
                obtain ⟨y56, hy_56, t_56⟩ := g_incN k38_6 (-1) (by decide) (by omega) (by omega)
                have t_56 : y56.toInt = k38_6.toInt + (-1) := t_56
                refine lv_iinc (v := y56) (lv' := [(6, .int y56), (5, .int k38_5), (7, .int 0), (2, .int k25_2), (3, .int k25_3), (4, .int k25_4), (0, .ref b_o), (1, .int p_1)]) hx hb dX12_path_156 hl (k := 2) rfl hy_56 (by decide) rfl (fun ls hl => ?_)
                refine lv_goto (tgt := 38) hx hb dX12_path_159 (by decide) ?_
                exact ih_38_41 (y56, k38_5) ls H locs (show Int.toNat (y56.toInt + 1) < Int.toNat (k38_6.toInt + 1) from g_dn (show y56.toInt < k38_6.toInt by omega) (show 0 ≤ k38_6.toInt by omega)) ⟨lv_sub hl [1, 0, 3, 4, 5, 6, 7] rfl, hP, hD, hS, ⟨by omega, by omega⟩, i_39, i_40⟩
              ·
                exact absurd c_55 (by decide)
            ·
              have n_54 : gNe (z52.toInt) (0) := by have z := g5_eqN (a := z52.toInt) (b := 0) (by rfl) (by decide) c_54; unfold gNe; omega
              have i_54 : z52.toInt ≥ 1 := by have z := g5_eqN (a := z52.toInt) (b := 0) (by rfl) (by decide) c_54; omega
              refine lv_aload_n hx hb dX12_path_77 rfl (lv_at hl 5 rfl) ?_
              refine va_get (D := G.1) (ci := 12) (v := .ref b_me) (C := RX12) (T := TX12) (N := 52) hx hb hts inG_X12 hown hK hP 0 rfl rfl 45 (by decide) (hts _ fl_X12_95) (fun _ h9 => h9) rfl dX12_path_78 ?_
              refine lv_bipush (v := 64) hx hb dX12_path_81 (by decide) ?_
              refine lv_iload hx hb dX12_path_83 (lv_at hl 4 rfl) ?_
              refine lv_imul hx hb dX12_path_85 ?_
              have t_57 : (64 * k25_4).toInt = 64 * k25_4.toInt := g5_imul (a := 64) (b := k25_4.toInt) (by decide) (by rfl) (by omega) (by omega)
              refine lv_iload hx hb dX12_path_86 (lv_at hl 1 rfl) ?_
              refine lv_iadd hx hb dX12_path_88 ?_
              have t_58 : ((64 * k25_4) + k38_6).toInt = (64 * k25_4).toInt + k38_6.toInt := g5_iadd (a := (64 * k25_4).toInt) (b := k38_6.toInt) (by rfl) (by rfl) (by omega) (by omega)
              refine va_iald hx hb hK hP 7 0 rfl rfl (i := ((64 * k25_4) + k38_6)) (vp_in_iff.mpr ⟨by omega, by omega⟩) dX12_path_89 ?_
              have hr_59 : 0 ≤ (z32 ((64 * k25_4) + k38_6).toNatClampNeg).toInt ∧ ((z32 ((64 * k25_4) + k38_6).toNatClampNeg).toInt < 32 ∨ 64 ≤ (z32 ((64 * k25_4) + k38_6).toNatClampNeg).toInt) ∧ (z32 ((64 * k25_4) + k38_6).toNatClampNeg).toInt ≤ 127 := i_12 (((64 * k25_4) + k38_6).toNatClampNeg)
              refine lv_bipush (v := 64) hx hb dX12_path_90 (by decide) ?_
              refine lv_icmp_ge (tgt := 139) hx hb dX12_path_92 (by decide) (fun c_60 => ?_) (fun c_60 => ?_)
              ·
                have i_60 : (z32 ((64 * k25_4) + k38_6).toNatClampNeg).toInt ≥ 64 := by have z := g5_ge (a := (z32 ((64 * k25_4) + k38_6).toNatClampNeg).toInt) (b := 64) (by rfl) (by decide) c_60; omega
                refine lv_iconst (v := 0) hx hb dX12_path_139 (by decide) ?_
                refine lv_istore (lv' := [(7, .int 0), (5, .int k38_5), (6, .int k38_6), (2, .int k25_2), (3, .int k25_3), (4, .int k25_4), (0, .ref b_o), (1, .int p_1)]) hx hb dX12_path_140 hl (by decide) rfl (fun ls hl => ?_)
                refine lv_iload hx hb dX12_path_142 (lv_at hl 0 rfl) ?_
                refine lv_if_eq (tgt := 152) hx hb dX12_path_144 (by decide) (fun c_61 => ?_) (fun c_61 => ?_)
                ·
                  refine lv_iload hx hb dX12_path_152 (lv_at hl 1 rfl) ?_
                  refine lv_istore (lv' := [(5, .int k38_5), (7, .int 0), (6, .int k38_6), (2, .int k25_2), (3, .int k25_3), (4, .int k25_4), (0, .ref b_o), (1, .int p_1)]) hx hb dX12_path_154 hl (by decide) rfl (fun ls hl => ?_)
                  obtain ⟨y62, hy_62, t_62⟩ := g_incN k38_6 (-1) (by decide) (by omega) (by omega)
                  have t_62 : y62.toInt = k38_6.toInt + (-1) := t_62
                  refine lv_iinc (v := y62) (lv' := [(6, .int y62), (5, .int k38_5), (7, .int 0), (2, .int k25_2), (3, .int k25_3), (4, .int k25_4), (0, .ref b_o), (1, .int p_1)]) hx hb dX12_path_156 hl (k := 2) rfl hy_62 (by decide) rfl (fun ls hl => ?_)
                  refine lv_goto (tgt := 38) hx hb dX12_path_159 (by decide) ?_
                  exact ih_38_41 (y62, k38_5) ls H locs (show Int.toNat (y62.toInt + 1) < Int.toNat (k38_6.toInt + 1) from g_dn (show y62.toInt < k38_6.toInt by omega) (show 0 ≤ k38_6.toInt by omega)) ⟨lv_sub hl [1, 0, 3, 4, 5, 6, 7] rfl, hP, hD, hS, ⟨by omega, by omega⟩, i_39, i_40⟩
                ·
                  exact absurd c_61 (by decide)
              ·
                have i_60 : (z32 ((64 * k25_4) + k38_6).toNatClampNeg).toInt < 64 := by have z := g5_geN (a := (z32 ((64 * k25_4) + k38_6).toNatClampNeg).toInt) (b := 64) (by rfl) (by decide) c_60; omega
                refine lv_aload_n hx hb dX12_path_95 rfl (lv_at hl 5 rfl) ?_
                refine va_get (D := G.1) (ci := 12) (v := .ref b_be) (C := RX12) (T := TX12) (N := 52) hx hb hts inG_X12 hown hK hP 0 rfl rfl 44 (by decide) (hts _ fl_X12_92) (fun _ h9 => h9) rfl dX12_path_96 ?_
                refine lv_bipush (v := 32) hx hb dX12_path_99 (by decide) ?_
                refine lv_bipush (v := 64) hx hb dX12_path_101 (by decide) ?_
                refine lv_iload hx hb dX12_path_103 (lv_at hl 4 rfl) ?_
                refine lv_imul hx hb dX12_path_105 ?_
                have t_63 : (64 * k25_4).toInt = 64 * k25_4.toInt := g5_imul (a := 64) (b := k25_4.toInt) (by decide) (by rfl) (by omega) (by omega)
                refine lv_iload hx hb dX12_path_106 (lv_at hl 1 rfl) ?_
                refine lv_iadd hx hb dX12_path_108 ?_
                have t_64 : ((64 * k25_4) + k38_6).toInt = (64 * k25_4).toInt + k38_6.toInt := g5_iadd (a := (64 * k25_4).toInt) (b := k38_6.toInt) (by rfl) (by rfl) (by omega) (by omega)
                refine lv_imul hx hb dX12_path_109 ?_
                have t_65 : (32 * ((64 * k25_4) + k38_6)).toInt = 32 * ((64 * k25_4) + k38_6).toInt := g5_imul (a := 32) (b := ((64 * k25_4) + k38_6).toInt) (by decide) (by rfl) (by omega) (by omega)
                refine lv_iload_n hx hb dX12_path_110 rfl (lv_at hl 3 rfl) ?_
                refine lv_aload_n hx hb dX12_path_111 rfl (lv_at hl 5 rfl) ?_
                refine va_get (D := G.1) (ci := 12) (v := .ref b_me) (C := RX12) (T := TX12) (N := 52) hx hb hts inG_X12 hown hK hP 0 rfl rfl 45 (by decide) (hts _ fl_X12_95) (fun _ h9 => h9) rfl dX12_path_112 ?_
                refine lv_bipush (v := 64) hx hb dX12_path_115 (by decide) ?_
                refine lv_iload hx hb dX12_path_117 (lv_at hl 4 rfl) ?_
                refine lv_imul hx hb dX12_path_119 ?_
                have t_66 : (64 * k25_4).toInt = 64 * k25_4.toInt := g5_imul (a := 64) (b := k25_4.toInt) (by decide) (by rfl) (by omega) (by omega)
                refine lv_iload hx hb dX12_path_120 (lv_at hl 1 rfl) ?_
                refine lv_iadd hx hb dX12_path_122 ?_
                have t_67 : ((64 * k25_4) + k38_6).toInt = (64 * k25_4).toInt + k38_6.toInt := g5_iadd (a := (64 * k25_4).toInt) (b := k38_6.toInt) (by rfl) (by rfl) (by omega) (by omega)
                refine va_iald hx hb hK hP 7 0 rfl rfl (i := ((64 * k25_4) + k38_6)) (vp_in_iff.mpr ⟨by omega, by omega⟩) dX12_path_123 ?_
                have hr_68 : 0 ≤ (z32 ((64 * k25_4) + k38_6).toNatClampNeg).toInt ∧ ((z32 ((64 * k25_4) + k38_6).toNatClampNeg).toInt < 32 ∨ 64 ≤ (z32 ((64 * k25_4) + k38_6).toNatClampNeg).toInt) ∧ (z32 ((64 * k25_4) + k38_6).toNatClampNeg).toInt ≤ 127 := i_12 (((64 * k25_4) + k38_6).toNatClampNeg)
                refine lv_bipush (v := 31) hx hb dX12_path_124 (by decide) ?_
                refine lv_iand hx hb dX12_path_126 ?_
                have t_69 : ((z32 ((64 * k25_4) + k38_6).toNatClampNeg) &&& 31).toInt = (z32 ((64 * k25_4) + k38_6).toNatClampNeg).toInt % 32 := g5_and31 (a := (z32 ((64 * k25_4) + k38_6).toNatClampNeg).toInt) rfl (by omega)
                refine lv_ior hx hb dX12_path_127 ?_
                have ho_70 : 0 ≤ (k25_3 ||| ((z32 ((64 * k25_4) + k38_6).toNatClampNeg) &&& 31)).toInt ∧ (k25_3 ||| ((z32 ((64 * k25_4) + k38_6).toNatClampNeg) &&& 31)).toInt < 32 := me_low ⟨by omega, by omega⟩ ⟨by omega, by omega⟩
                refine lv_iadd hx hb dX12_path_128 ?_
                have t_71 : ((32 * ((64 * k25_4) + k38_6)) + (k25_3 ||| ((z32 ((64 * k25_4) + k38_6).toNatClampNeg) &&& 31))).toInt = (32 * ((64 * k25_4) + k38_6)).toInt + (k25_3 ||| ((z32 ((64 * k25_4) + k38_6).toNatClampNeg) &&& 31)).toInt := g5_iadd (a := (32 * ((64 * k25_4) + k38_6)).toInt) (b := (k25_3 ||| ((z32 ((64 * k25_4) + k38_6).toNatClampNeg) &&& 31)).toInt) (by rfl) (by rfl) (by omega) (by omega)
                refine va_lald hx hb hK hP 6 1 rfl rfl (i := ((32 * ((64 * k25_4) + k38_6)) + (k25_3 ||| ((z32 ((64 * k25_4) + k38_6).toNatClampNeg) &&& 31)))) (vp_in_iff.mpr ⟨by omega, by omega⟩) dX12_path_129 ?_
                refine lv_lconst (v := 0) hx hb dX12_path_130 (by decide) ?_
                refine W.lcmp hx hb dX12_path_131 ?_
                refine lv_if_le (tgt := 139) hx hb dX12_path_132 (by decide) (fun c_72 => ?_) (fun c_72 => ?_)
                ·
                  have i_72 : (lg_cmp (z31 ((32 * ((64 * k25_4) + k38_6)) + (k25_3 ||| ((z32 ((64 * k25_4) + k38_6).toNatClampNeg) &&& 31))).toNatClampNeg) 0).toInt ≤ 0 := by have z := g5_le (a := (lg_cmp (z31 ((32 * ((64 * k25_4) + k38_6)) + (k25_3 ||| ((z32 ((64 * k25_4) + k38_6).toNatClampNeg) &&& 31))).toNatClampNeg) 0).toInt) (b := 0) (by rfl) (by decide) c_72; omega
                  refine lv_iconst (v := 0) hx hb dX12_path_139 (by decide) ?_
                  refine lv_istore (lv' := [(7, .int 0), (5, .int k38_5), (6, .int k38_6), (2, .int k25_2), (3, .int k25_3), (4, .int k25_4), (0, .ref b_o), (1, .int p_1)]) hx hb dX12_path_140 hl (by decide) rfl (fun ls hl => ?_)
                  refine lv_iload hx hb dX12_path_142 (lv_at hl 0 rfl) ?_
                  refine lv_if_eq (tgt := 152) hx hb dX12_path_144 (by decide) (fun c_73 => ?_) (fun c_73 => ?_)
                  ·
                    refine lv_iload hx hb dX12_path_152 (lv_at hl 1 rfl) ?_
                    refine lv_istore (lv' := [(5, .int k38_5), (7, .int 0), (6, .int k38_6), (2, .int k25_2), (3, .int k25_3), (4, .int k25_4), (0, .ref b_o), (1, .int p_1)]) hx hb dX12_path_154 hl (by decide) rfl (fun ls hl => ?_)
                    obtain ⟨y74, hy_74, t_74⟩ := g_incN k38_6 (-1) (by decide) (by omega) (by omega)
                    have t_74 : y74.toInt = k38_6.toInt + (-1) := t_74
                    refine lv_iinc (v := y74) (lv' := [(6, .int y74), (5, .int k38_5), (7, .int 0), (2, .int k25_2), (3, .int k25_3), (4, .int k25_4), (0, .ref b_o), (1, .int p_1)]) hx hb dX12_path_156 hl (k := 2) rfl hy_74 (by decide) rfl (fun ls hl => ?_)
                    refine lv_goto (tgt := 38) hx hb dX12_path_159 (by decide) ?_
                    exact ih_38_41 (y74, k38_5) ls H locs (show Int.toNat (y74.toInt + 1) < Int.toNat (k38_6.toInt + 1) from g_dn (show y74.toInt < k38_6.toInt by omega) (show 0 ≤ k38_6.toInt by omega)) ⟨lv_sub hl [1, 0, 3, 4, 5, 6, 7] rfl, hP, hD, hS, ⟨by omega, by omega⟩, i_39, i_40⟩
                  ·
                    exact absurd c_73 (by decide)
                ·
                  have i_72 : (lg_cmp (z31 ((32 * ((64 * k25_4) + k38_6)) + (k25_3 ||| ((z32 ((64 * k25_4) + k38_6).toNatClampNeg) &&& 31))).toNatClampNeg) 0).toInt > 0 := by have z := g5_leN (a := (lg_cmp (z31 ((32 * ((64 * k25_4) + k38_6)) + (k25_3 ||| ((z32 ((64 * k25_4) + k38_6).toNatClampNeg) &&& 31))).toNatClampNeg) 0).toInt) (b := 0) (by rfl) (by decide) c_72; omega
                  refine lv_iconst (v := 1) hx hb dX12_path_135 (by decide) ?_
                  refine lv_goto (tgt := 140) hx hb dX12_path_136 (by decide) ?_
                  refine lv_istore (lv' := [(7, .int 1), (5, .int k38_5), (6, .int k38_6), (2, .int k25_2), (3, .int k25_3), (4, .int k25_4), (0, .ref b_o), (1, .int p_1)]) hx hb dX12_path_140 hl (by decide) rfl (fun ls hl => ?_)
                  refine lv_iload hx hb dX12_path_142 (lv_at hl 0 rfl) ?_
                  refine lv_if_eq (tgt := 152) hx hb dX12_path_144 (by decide) (fun c_75 => ?_) (fun c_75 => ?_)
                  ·
                    exact absurd c_75 (by decide)
                  ·
                    refine lv_iload hx hb dX12_path_147 (lv_at hl 2 rfl) ?_
                    refine lv_goto (tgt := 154) hx hb dX12_path_149 (by decide) ?_
                    refine lv_istore (lv' := [(5, .int k38_6), (7, .int 1), (6, .int k38_6), (2, .int k25_2), (3, .int k25_3), (4, .int k25_4), (0, .ref b_o), (1, .int p_1)]) hx hb dX12_path_154 hl (by decide) rfl (fun ls hl => ?_)
                    obtain ⟨y76, hy_76, t_76⟩ := g_incN k38_6 (-1) (by decide) (by omega) (by omega)
                    have t_76 : y76.toInt = k38_6.toInt + (-1) := t_76
                    refine lv_iinc (v := y76) (lv' := [(6, .int y76), (5, .int k38_6), (7, .int 1), (2, .int k25_2), (3, .int k25_3), (4, .int k25_4), (0, .ref b_o), (1, .int p_1)]) hx hb dX12_path_156 hl (k := 2) rfl hy_76 (by decide) rfl (fun ls hl => ?_)
                    refine lv_goto (tgt := 38) hx hb dX12_path_159 (by decide) ?_
                    exact ih_38_41 (y76, k38_6) ls H locs (show Int.toNat (y76.toInt + 1) < Int.toNat (k38_6.toInt + 1) from g_dn (show y76.toInt < k38_6.toInt by omega) (show 0 ≤ k38_6.toInt by omega)) ⟨lv_sub hl [1, 0, 3, 4, 5, 6, 7] rfl, hP, hD, hS, ⟨by omega, by omega⟩, i_38, Or.inr (by have e9 : (64 * k25_4.toInt + k38_6.toInt).toNat = ((64 * k25_4) + k38_6).toNatClampNeg := (by have zz := g5_clamp ((64 * k25_4) + k38_6); omega); rw [e9]; omega)⟩
          ·
            have i_50 : k25_4.toInt = 0 := by have z := g5_neN (a := k25_4.toInt) (b := 0) (by rfl) (by decide) c_50; omega
            refine lv_aload_n hx hb dX12_path_48 rfl (lv_at hl 5 rfl) ?_
            refine lv_iconst (v := 0) hx hb dX12_path_49 (by decide) ?_
            refine lv_iload hx hb dX12_path_50 (lv_at hl 1 rfl) ?_
            obtain ⟨hPc, hDc, hFc⟩ := g5_sub3 (wc := [(b_o, (oc12 0 u_sa b_rf b_ro b_im b_ke u_fd b_tp u_td u_fr u_to u_so u_wo u_fa u_bd u_nc b_nl u_co b_op b_ar u_le b_pi b_pa u_pd u_od b_ws b_hw z14 b_se b_re z15 z16 z17 z18 z19 z20 z21 z22 b_pt z23 z24 b_ip z25 b_ah b_be b_me z26 b_tr b_ld u_st b_wn u_id)), (b_ah, (arJ G 49152 z30)), (b_be, (arJ G 49152 z31)), (b_me, (arI G 1536 z32))]) hP hD hS hA [0, 5, 6, 7] (by decide) rfl
            refine va_calll (va_runV (As := [.int 0, .int k38_6]) (rest := []) ⟨hx, hb, hml, hown, hts⟩ (n_rowsAt0 l G b_o b_ah b_be b_me b_rf b_ro b_im b_ke b_tp b_nl b_op b_ar b_pi b_pa b_ws b_hw b_se b_re b_pt b_ip b_tr b_ld b_wn H.size 0 u_sa u_fd u_td u_fr u_to u_so u_fa u_bd u_nc u_co u_le u_pd u_od z14 z15 z18 z19 z20 z21 z22 z23 z24 z25 z26 u_id k38_6 u_wo z16 z17 u_st z30 z31 z32 h_u_td h_u_fr h_u_to h_u_bd h_u_nc h_u_co h_u_pd i_3 i_4 i_5 i_6 i_7 i_8 i_9 i_11 h_u_id ⟨by omega, by omega⟩ (i_13)) (cwV 2 hts gV_X12_440 rfl rfl rfl hv_X12_rowsAt ⟨Nat.le_of_ble_eq_true rfl, Nat.le_of_ble_eq_true rfl⟩) (g5_preV hPc hK hDc hN hT hS hFc (ci := 12) (q0 := 0) rfl rfl) rfl rfl hl.1 rfl (lv_room (Nat.le_of_ble_eq_true rfl)) dX12_path_52 ⟨Nat.le_of_ble_eq_true rfl, Nat.le_of_ble_eq_true rfl⟩) hS (fun q _ h => hFc q h) hFc (fun r u t H1 locs ht hvm hw hB hz1 hk1 hS => ?_)
            obtain ⟨hP1, hD1⟩ := hB
            rw [ht] at hP1
            obtain ⟨z78, i_77, y79, rfl⟩ := hw
            have i_77 : 64 ≤ (z32 k38_6.toNatClampNeg).toInt → z78 = 0 := i_77
            obtain ⟨hP, hD⟩ := va_join (wr := [(b_ro, (arI G 5740 v_ro)), (b_se, (arJ G 13 z27)), (b_re, (arJ G 400 z28)), (b_pt, (arI G 200 z29))]) hP hD [0, 5, 6, 7] [1, 2, 3, 4] rfl rfl (by decide) (by decide) hk1 hFc hP1 hD1
            generalize H1 = H at hP hS ⊢
            refine g5_rs [(b_ro, (arI G 5740 v_ro)), (b_se, (arJ G 13 z27)), (b_re, (arJ G 400 z28)), (b_pt, (arI G 200 z29)), (b_o, (oc12 0 u_sa b_rf b_ro b_im b_ke u_fd b_tp u_td u_fr u_to u_so u_wo u_fa u_bd u_nc b_nl u_co b_op b_ar u_le b_pi b_pa u_pd u_od b_ws b_hw z14 b_se b_re z15 z16 z17 z18 z19 z20 z21 z22 b_pt z23 z24 b_ip z25 b_ah b_be b_me z26 b_tr b_ld u_st b_wn u_id)), (b_ah, (arJ G 49152 z30)), (b_be, (arJ G 49152 z31)), (b_me, (arI G 1536 z32))] hP hD (fun hP hD => ?_)
            refine g5_tl (v := z78) y79 ?_
            refine lv_lconst (v := 0) hx hb dX12_path_55 (by decide) ?_
            refine W.lcmp hx hb dX12_path_56 ?_
            refine lv_if_le (tgt := 64) hx hb dX12_path_57 (by decide) (fun c_80 => ?_) (fun c_80 => ?_)
            ·
              have i_80 : (lg_cmp z78 0).toInt ≤ 0 := by have z := g5_le (a := (lg_cmp z78 0).toInt) (b := 0) (by rfl) (by decide) c_80; omega
              refine lv_iconst (v := 0) hx hb dX12_path_64 (by decide) ?_
              refine lv_goto (tgt := 140) hx hb dX12_path_65 (by decide) ?_
              refine lv_istore (lv' := [(7, .int 0), (5, .int k38_5), (6, .int k38_6), (2, .int k25_2), (3, .int k25_3), (4, .int k25_4), (0, .ref b_o), (1, .int p_1)]) hx hb dX12_path_140 hl (by decide) rfl (fun ls hl => ?_)
              refine lv_iload hx hb dX12_path_142 (lv_at hl 0 rfl) ?_
              refine lv_if_eq (tgt := 152) hx hb dX12_path_144 (by decide) (fun c_81 => ?_) (fun c_81 => ?_)
              ·
                refine lv_iload hx hb dX12_path_152 (lv_at hl 1 rfl) ?_
                refine lv_istore (lv' := [(5, .int k38_5), (7, .int 0), (6, .int k38_6), (2, .int k25_2), (3, .int k25_3), (4, .int k25_4), (0, .ref b_o), (1, .int p_1)]) hx hb dX12_path_154 hl (by decide) rfl (fun ls hl => ?_)
                obtain ⟨y82, hy_82, t_82⟩ := g_incN k38_6 (-1) (by decide) (by omega) (by omega)
                have t_82 : y82.toInt = k38_6.toInt + (-1) := t_82
                refine lv_iinc (v := y82) (lv' := [(6, .int y82), (5, .int k38_5), (7, .int 0), (2, .int k25_2), (3, .int k25_3), (4, .int k25_4), (0, .ref b_o), (1, .int p_1)]) hx hb dX12_path_156 hl (k := 2) rfl hy_82 (by decide) rfl (fun ls hl => ?_)
                refine lv_goto (tgt := 38) hx hb dX12_path_159 (by decide) ?_
                exact ih_38_41 (y82, k38_5) ls H locs (show Int.toNat (y82.toInt + 1) < Int.toNat (k38_6.toInt + 1) from g_dn (show y82.toInt < k38_6.toInt by omega) (show 0 ≤ k38_6.toInt by omega)) ⟨lv_sub hl [1, 0, 3, 4, 5, 6, 7] rfl, hP.sub [4, 0, 1, 2, 3, 5, 6, 7] rfl, hD.sub [4, 0, 1, 2, 3, 5, 6, 7] (by decide) rfl, hS, ⟨by omega, by omega⟩, i_39, i_40⟩
              ·
                exact absurd c_81 (by decide)
            ·
              have i_80 : (lg_cmp z78 0).toInt > 0 := by have z := g5_leN (a := (lg_cmp z78 0).toInt) (b := 0) (by rfl) (by decide) c_80; omega
              refine lv_iconst (v := 1) hx hb dX12_path_60 (by decide) ?_
              refine lv_goto (tgt := 140) hx hb dX12_path_61 (by decide) ?_
              refine lv_istore (lv' := [(7, .int 1), (5, .int k38_5), (6, .int k38_6), (2, .int k25_2), (3, .int k25_3), (4, .int k25_4), (0, .ref b_o), (1, .int p_1)]) hx hb dX12_path_140 hl (by decide) rfl (fun ls hl => ?_)
              refine lv_iload hx hb dX12_path_142 (lv_at hl 0 rfl) ?_
              refine lv_if_eq (tgt := 152) hx hb dX12_path_144 (by decide) (fun c_83 => ?_) (fun c_83 => ?_)
              ·
                exact absurd c_83 (by decide)
              ·
                refine lv_iload hx hb dX12_path_147 (lv_at hl 2 rfl) ?_
                refine lv_goto (tgt := 154) hx hb dX12_path_149 (by decide) ?_
                refine lv_istore (lv' := [(5, .int k38_6), (7, .int 1), (6, .int k38_6), (2, .int k25_2), (3, .int k25_3), (4, .int k25_4), (0, .ref b_o), (1, .int p_1)]) hx hb dX12_path_154 hl (by decide) rfl (fun ls hl => ?_)
                obtain ⟨y84, hy_84, t_84⟩ := g_incN k38_6 (-1) (by decide) (by omega) (by omega)
                have t_84 : y84.toInt = k38_6.toInt + (-1) := t_84
                refine lv_iinc (v := y84) (lv' := [(6, .int y84), (5, .int k38_6), (7, .int 1), (2, .int k25_2), (3, .int k25_3), (4, .int k25_4), (0, .ref b_o), (1, .int p_1)]) hx hb dX12_path_156 hl (k := 2) rfl hy_84 (by decide) rfl (fun ls hl => ?_)
                refine lv_goto (tgt := 38) hx hb dX12_path_159 (by decide) ?_
                exact ih_38_41 (y84, k38_6) ls H locs (show Int.toNat (y84.toInt + 1) < Int.toNat (k38_6.toInt + 1) from g_dn (show y84.toInt < k38_6.toInt by omega) (show 0 ≤ k38_6.toInt by omega)) ⟨lv_sub hl [1, 0, 3, 4, 5, 6, 7] rfl, hP.sub [4, 0, 1, 2, 3, 5, 6, 7] rfl, hD.sub [4, 0, 1, 2, 3, 5, 6, 7] (by decide) rfl, hS, ⟨by omega, by omega⟩, i_38, Or.inr (by have e9 : (64 * k25_4.toInt + k38_6.toInt).toNat = k38_6.toNatClampNeg := (by have zz := g5_clamp k38_6; omega); rw [e9]; have z9 := ra_pos i_77 i_80; omega)⟩
    ·
      exact absurd c_2 (by decide)
  ·
    have hP := g5_same hP hk1
    generalize H1 = H at hP hS ⊢
    refine lv_if_ne (tgt := 14) hx hb dX12_path_9 (by decide) (fun c_85 => ?_) (fun c_85 => ?_)
    ·
      exact absurd c_85 (by decide)
    ·
      refine lv_iconst (v := (-1)) hx hb dX12_path_12 (by decide) ?_
      exact W.iret (v := (-1)) hx hb hr (fun t ht hW => ⟨⟨(-1), [(b_o, (oc12 0 u_sa b_rf b_ro b_im b_ke u_fd b_tp u_td u_fr u_to u_so u_wo u_fa u_bd u_nc b_nl u_co b_op b_ar u_le b_pi b_pa u_pd u_od b_ws b_hw u_la b_se b_re u_bk u_va u_su u_ce u_ho u_wy u_bt u_ps b_pt u_tg u_sn b_ip u_ic b_ah b_be b_me u_wd b_tr b_ld u_st b_wn u_id)), (b_ro, (arI G 5740 v_ro)), (b_se, (arJ G 13 v_se)), (b_re, (arJ G 400 v_re)), (b_pt, (arI G 200 v_pt)), (b_ah, (arJ G 49152 v_ah)), (b_be, (arJ G 49152 v_be)), (b_me, (arI G 1536 v_me))], rfl, ⟨(-1), 0, u_la, u_bk, u_va, u_su, u_ce, u_ho, u_wy, u_bt, u_ps, u_tg, u_sn, u_ic, u_wd, v_se, v_re, v_pt, v_ah, v_be, v_me, h_u_la, h_u_bk, h_u_ce, h_u_ho, h_u_wy, h_u_bt, h_u_ps, r_pt, h_u_ic, r_me, e_ah, rfl, rfl⟩, by rw [ht]; exact hP.sub [0, 1, 2, 3, 4, 5, 6, 7] rfl, hD.sub [0, 1, 2, 3, 4, 5, 6, 7] (by decide) rfl⟩, hS.F ht⟩) hS.2.2 dX12_path_13
