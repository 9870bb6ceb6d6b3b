set_option maxHeartbeats 4000000 in
set_option maxRecDepth 100000 in
theorem n_surelyP (l : Launch) (G : g5_G) (b_o b_ro b_se b_re b_pt b_ah b_be b_me b_rf b_im b_ke b_tp b_nl b_op b_ar b_pi b_pa b_ws b_hw b_ip b_tr b_ld b_wn : Nat) (sz : Nat) (u_th : Int32) (u_sa : Int32) (u_fd : Int32) (u_td : Int32) (u_fr : Int32) (u_to : Int32) (u_so : Int32) (u_fa : Int32) (u_bd : Int32) (u_nc : Int32) (u_co : Int32) (u_le : Int32) (u_pd : Int32) (u_od : Int32) (u_la : Int32) (u_bk : Int32) (u_ce : Int32) (u_ho : Int32) (u_wy : Int32) (u_bt : Int32) (u_ps : Int32) (u_tg : Int32) (u_sn : Int32) (u_ic : Int32) (u_wd : Int32) (u_id : Int32) (p_1 : Int32) (u_wo : Int64) (u_va : Int64) (u_su : Int64) (u_st : Int64) (v_ro : Nat → Int32) (v_se : Nat → Int64) (v_re : Nat → Int64) (v_pt : Nat → Int32) (v_ah : Nat → Int64) (v_be : Nat → Int64) (v_me : Nat → Int32) (h_u_td : 0 ≤ u_td.toInt ∧ u_td.toInt ≤ 400) (h_u_fr : 0 ≤ u_fr.toInt ∧ u_fr.toInt ≤ 400) (h_u_to : 0 ≤ u_to.toInt ∧ u_to.toInt ≤ 400) (h_u_bd : 0 ≤ u_bd.toInt ∧ u_bd.toInt ≤ 1) (h_u_nc : 0 ≤ u_nc.toInt ∧ u_nc.toInt ≤ 12) (h_u_co : 0 ≤ u_co.toInt ∧ u_co.toInt ≤ 400) (h_u_pd : 0 ≤ u_pd.toInt ∧ u_pd.toInt ≤ 400) (h_u_la : 0 ≤ u_la.toInt ∧ u_la.toInt ≤ 4840) (h_u_bk : 0 ≤ u_bk.toInt ∧ u_bk.toInt ≤ 1) (h_u_ce : 0 ≤ u_ce.toInt ∧ u_ce.toInt ≤ 63) (h_u_ho : 0 ≤ u_ho.toInt ∧ u_ho.toInt ≤ 23) (h_u_wy : 0 ≤ u_wy.toInt ∧ u_wy.toInt ≤ 3) (h_u_bt : 0 ≤ u_bt.toInt ∧ u_bt.toInt ≤ 1000000) (h_u_ps : 0 ≤ u_ps.toInt ∧ u_ps.toInt ≤ 200) (h_u_ic : 0 ≤ u_ic.toInt ∧ u_ic.toInt ≤ 1) (h_u_id : 0 ≤ u_id.toInt ∧ u_id.toInt ≤ 1) (r_ro : MI v_ro) (r_pt : PTI v_pt) (r_me : MEI v_me) (e_ah : AH0 v_ah v_me) : Met l yX12_surely (wsG yX12_surely cX12_surely 5 (some .int)) ({ frames := 10, cells := 0, slots := 0, locals := 251 }) (va_Pc [.ref b_o, .int p_1] (g5_P G [(b_o, (oc12 u_th u_sa b_rf b_ro b_im b_ke u_fd b_tp u_td u_fr u_to u_so u_wo u_fa u_bd u_nc b_nl u_co b_op b_ar u_le b_pi b_pa u_pd u_od b_ws b_hw u_la b_se b_re u_bk u_va u_su u_ce u_ho u_wy u_bt u_ps b_pt u_tg u_sn b_ip u_ic b_ah b_be b_me u_wd b_tr b_ld u_st b_wn u_id)), (b_ro, (arI G 5740 v_ro)), (b_se, (arJ G 13 v_se)), (b_re, (arJ G 400 v_re)), (b_pt, (arI G 200 v_pt)), (b_ah, (arJ G 49152 v_ah)), (b_be, (arJ G 49152 v_be)), (b_me, (arI G 1536 v_me))] sz)) (va_Qi (fun (r : Int32) (u : va_W) => (∃ (o_r : Int32) (o_th : Int32) (o_la : Int32) (o_bk : Int32) (o_va : Int64) (o_su : Int64) (o_ce : Int32) (o_ho : Int32) (o_wy : Int32) (o_bt : Int32) (o_ps : Int32) (o_tg : Int32) (o_sn : Int32) (o_ic : Int32) (o_wd : Int32) (o_se : Nat → Int64) (o_re : Nat → Int64) (o_pt : Nat → Int32) (o_ah : Nat → Int64) (o_be : Nat → Int64) (o_me : Nat → Int32), (0 ≤ o_la.toInt ∧ o_la.toInt ≤ 4840) ∧ (0 ≤ o_bk.toInt ∧ o_bk.toInt ≤ 1) ∧ (0 ≤ o_ce.toInt ∧ o_ce.toInt ≤ 63) ∧ (0 ≤ o_ho.toInt ∧ o_ho.toInt ≤ 23) ∧ (0 ≤ o_wy.toInt ∧ o_wy.toInt ≤ 3) ∧ (0 ≤ o_bt.toInt ∧ o_bt.toInt ≤ 1000000) ∧ (0 ≤ o_ps.toInt ∧ o_ps.toInt ≤ 200) ∧ (PTI o_pt) ∧ (0 ≤ o_ic.toInt ∧ o_ic.toInt ≤ 1) ∧ (MEI o_me) ∧ (AH0 o_ah o_me) ∧ (r = o_r) ∧ (u = [(b_o, (oc12 o_th u_sa b_rf b_ro b_im b_ke u_fd b_tp u_td u_fr u_to u_so u_wo u_fa u_bd u_nc b_nl u_co b_op b_ar u_le b_pi b_pa u_pd u_od b_ws b_hw o_la b_se b_re o_bk o_va o_su o_ce o_ho o_wy o_bt o_ps b_pt o_tg o_sn b_ip o_ic b_ah b_be b_me o_wd b_tr b_ld u_st b_wn u_id)), (b_ro, (arI G 5740 v_ro)), (b_se, (arJ G 13 o_se)), (b_re, (arJ G 400 o_re)), (b_pt, (arI G 200 o_pt)), (b_ah, (arJ G 49152 o_ah)), (b_be, (arJ G 49152 o_be)), (b_me, (arI G 1536 o_me))]))) (g5_B G (va_A [(b_o, (oc12 u_th u_sa b_rf b_ro b_im b_ke u_fd b_tp u_td u_fr u_to u_so u_wo u_fa u_bd u_nc b_nl u_co b_op b_ar u_le b_pi b_pa u_pd u_od b_ws b_hw u_la b_se b_re u_bk u_va u_su u_ce u_ho u_wy u_bt u_ps b_pt u_tg u_sn b_ip u_ic b_ah b_be b_me u_wd b_tr b_ld u_st b_wn u_id)), (b_ro, (arI G 5740 v_ro)), (b_se, (arJ G 13 v_se)), (b_re, (arJ G 400 v_re)), (b_pt, (arI G 200 v_pt)), (b_ah, (arJ G 49152 v_ah)), (b_be, (arJ G 49152 v_be)), (b_me, (arI G 1536 v_me))] sz)) (va_A [(b_o, (oc12 u_th u_sa b_rf b_ro b_im b_ke u_fd b_tp u_td u_fr u_to u_so u_wo u_fa u_bd u_nc b_nl u_co b_op b_ar u_le b_pi b_pa u_pd u_od b_ws b_hw u_la b_se b_re u_bk u_va u_su u_ce u_ho u_wy u_bt u_ps b_pt u_tg u_sn b_ip u_ic b_ah b_be b_me u_wd b_tr b_ld u_st b_wn u_id)), (b_ro, (arI G 5740 v_ro)), (b_se, (arJ G 13 v_se)), (b_re, (arJ G 400 v_re)), (b_pt, (arI G 200 v_pt)), (b_ah, (arJ G 49152 v_ah)), (b_be, (arJ G 49152 v_be)), (b_me, (arI G 1536 v_me))] sz)) 0 0 (va_A [(b_o, (oc12 u_th u_sa b_rf b_ro b_im b_ke u_fd b_tp u_td u_fr u_to u_so u_wo u_fa u_bd u_nc b_nl u_co b_op b_ar u_le b_pi b_pa u_pd u_od b_ws b_hw u_la b_se b_re u_bk u_va u_su u_ce u_ho u_wy u_bt u_ps b_pt u_tg u_sn b_ip u_ic b_ah b_be b_me u_wd b_tr b_ld u_st b_wn u_id)), (b_ro, (arI G 5740 v_ro)), (b_se, (arJ G 13 v_se)), (b_re, (arJ G 400 v_re)), (b_pt, (arI G 200 v_pt)), (b_ah, (arJ G 49152 v_ah)), (b_be, (arJ G 49152 v_be)), (b_me, (arI G 1536 v_me))] sz) := by
  refine Met.ofW (cc := cX12_surely) (maxL := 5) (ret := (some .int)) (by decide) rfl ?_
  intro p e s m args below meth c s₁ B hml hv
  obtain ⟨rfl, hsz, hP, hK, hD0, hN, hT⟩ := hv
  have hx := B.exec
  have hb := B.bytes
  have hr := B.returns
  have hts : ∀ w ∈ tblG, w.before _ s = true := fun w h => atoms_spec (ws := (wsG yX12_surely cX12_surely 5 (some .int))) B.pre w (List.mem_cons_of_mem _ h)
  have hown : s.vm.findClass RX12 = some m.cls := findClass_of_methodNamed B.named
  have hlocks := B.notSynchronized
  subst hsz
  have hD := hD0.self (sz := s.heap.size)
  generalize hAe : va_A [(b_o, (oc12 u_th u_sa b_rf b_ro b_im b_ke u_fd b_tp u_td u_fr u_to u_so u_wo u_fa u_bd u_nc b_nl u_co b_op b_ar u_le b_pi b_pa u_pd u_od b_ws b_hw u_la b_se b_re u_bk u_va u_su u_ce u_ho u_wy u_bt u_ps b_pt u_tg u_sn b_ip u_ic b_ah b_be b_me u_wd b_tr b_ld u_st b_wn u_id)), (b_ro, (arI G 5740 v_ro)), (b_se, (arJ G 13 v_se)), (b_re, (arJ G 400 v_re)), (b_pt, (arI G 200 v_pt)), (b_ah, (arJ G 49152 v_ah)), (b_be, (arJ G 49152 v_be)), (b_me, (arI G 1536 v_me))] s.heap.size = A at hD hT ⊢
  have hA : ∀ q : Nat, s.heap.size ≤ q → A q := fun q h => by rw [← hAe]; exact Or.inr h
  have hS : va_S A s.heap s.heap [] := va_S.rf
  have hP : va_P G.1 vwCl [(b_o, (oc12 u_th u_sa b_rf b_ro b_im b_ke u_fd b_tp u_td u_fr u_to u_so u_wo u_fa u_bd u_nc b_nl u_co b_op b_ar u_le b_pi b_pa u_pd u_od b_ws b_hw u_la b_se b_re u_bk u_va u_su u_ce u_ho u_wy u_bt u_ps b_pt u_tg u_sn b_ip u_ic b_ah b_be b_me u_wd b_tr b_ld u_st b_wn u_id)), (b_ro, (arI G 5740 v_ro)), (b_se, (arJ G 13 v_se)), (b_re, (arJ G 400 v_re)), (b_pt, (arI G 200 v_pt)), (b_ah, (arJ G 49152 v_ah)), (b_be, (arJ G 49152 v_be)), (b_me, (arI G 1536 v_me))] s.heap := hP
  have hl := lv_entry ([.ref b_o, .int p_1]) (n := 5) (Nat.le_of_ble_eq_true rfl)
  rw [lg_entry_eq]
  generalize (lg_sl ([.ref b_o, .int p_1]) ++ List.replicate (5 - (lg_sl ([.ref b_o, .int p_1])).length) Slot.unset).toArray = ls at hl ⊢
  have hl : lv_has ls 5 [(0, .ref b_o), (1, .int p_1)] := hl
  refine lv_aload_n hx hb dX12_surely_0 rfl (lv_at hl 0 rfl) ?_
  refine lv_iconst (v := 0) hx hb dX12_surely_1 (by decide) ?_
  refine va_put (D := G.1) (ci := 12) (v := .int 0) (ty := .int) (C := RX12) (T := TX12) (N := 52) hx hb hts inG_X12 tyX12 tyX12_ok nmX12 hown hK hP hD hS 0 rfl rfl 0 (by decide) (hts _ fl_X12_107) (fun _ h9 => h9) rfl (by decide +kernel) rfl rfl (Nat.le_of_ble_eq_true rfl) dX12_surely_2 (fun H locs hP hD hS => ?_)
  refine g5_rs [(b_o, (oc12 0 u_sa b_rf b_ro b_im b_ke u_fd b_tp u_td u_fr u_to u_so u_wo u_fa u_bd u_nc b_nl u_co b_op b_ar u_le b_pi b_pa u_pd u_od b_ws b_hw u_la b_se b_re u_bk u_va u_su u_ce u_ho u_wy u_bt u_ps b_pt u_tg u_sn b_ip u_ic b_ah b_be b_me u_wd b_tr b_ld u_st b_wn u_id)), (b_ro, (arI G 5740 v_ro)), (b_se, (arJ G 13 v_se)), (b_re, (arJ G 400 v_re)), (b_pt, (arI G 200 v_pt)), (b_ah, (arJ G 49152 v_ah)), (b_be, (arJ G 49152 v_be)), (b_me, (arI G 1536 v_me))] hP hD (fun hP hD => ?_)
  refine lv_iload_n hx hb dX12_surely_5 rfl (lv_at hl 1 rfl) ?_
  obtain ⟨hPc, hDc, hFc⟩ := g5_sub3 (wc := []) hP hD hS hA [] (by decide) rfl
  refine va_calli (va_runS (As := [.int p_1]) (rest := []) ⟨hx, hb, hml, hown, hts⟩ (n_isHour l G H.size p_1) (va_cwS 1 hts gS_X12_175 rfl rfl rfl hs_X12_isHour ⟨Nat.le_of_ble_eq_true rfl, Nat.le_of_ble_eq_true rfl⟩) (g5_preS hPc hK hDc hN hT hS hFc) rfl rfl hl.1 rfl (lv_room (Nat.le_of_ble_eq_true rfl)) dX12_surely_6 ⟨Nat.le_of_ble_eq_true rfl, Nat.le_of_ble_eq_true rfl⟩) hS (fun q _ h => hFc q h) hFc (fun r u t H1 locs ht hvm hw hB hz1 hk1 hS => ?_)
  obtain ⟨hP1, hD1⟩ := hB
  rw [ht] at hP1
  rcases hw with ⟨i_1, rfl, rfl⟩ | ⟨rfl, rfl⟩
  ·
    have i_1 : 0 ≤ p_1.toInt ∧ p_1.toInt ≤ 23 := i_1
    have hP := g5_same hP hk1
    generalize H1 = H at hP hS ⊢
    refine lv_if_ne (tgt := 14) hx hb dX12_surely_9 (by decide) (fun c_2 => ?_) (fun c_2 => ?_)
    ·
      refine lv_aload_n hx hb dX12_surely_14 rfl (lv_at hl 0 rfl) ?_
      obtain ⟨hPc, hDc, hFc⟩ := g5_sub3 (wc := [(b_o, (oc12 0 u_sa b_rf b_ro b_im b_ke u_fd b_tp u_td u_fr u_to u_so u_wo u_fa u_bd u_nc b_nl u_co b_op b_ar u_le b_pi b_pa u_pd u_od b_ws b_hw u_la b_se b_re u_bk u_va u_su u_ce u_ho u_wy u_bt u_ps b_pt u_tg u_sn b_ip u_ic b_ah b_be b_me u_wd b_tr b_ld u_st b_wn u_id)), (b_ro, (arI G 5740 v_ro)), (b_se, (arJ G 13 v_se)), (b_re, (arJ G 400 v_re)), (b_pt, (arI G 200 v_pt)), (b_ah, (arJ G 49152 v_ah)), (b_be, (arJ G 49152 v_be)), (b_me, (arI G 1536 v_me))]) hP hD hS hA [0, 1, 2, 3, 4, 5, 6, 7] (by decide) rfl
      refine va_callv (va_runV (As := []) (rest := []) ⟨hx, hb, hml, hown, hts⟩ (n_countRowsP l G b_o b_ro b_se b_re b_pt b_ah b_be b_me b_rf b_im b_ke b_tp b_nl b_op b_ar b_pi b_pa b_ws b_hw b_ip b_tr b_ld b_wn H.size 0 u_sa u_fd u_td u_fr u_to u_so u_fa u_bd u_nc u_co u_le u_pd u_od u_la u_bk u_ce u_ho u_wy u_bt u_ps u_tg u_sn u_ic u_wd u_id u_wo u_va u_su u_st v_ro v_se v_re v_pt v_ah v_be v_me h_u_td h_u_fr h_u_to h_u_bd h_u_nc h_u_co h_u_pd h_u_la h_u_bk h_u_ce h_u_ho h_u_wy h_u_bt h_u_ps h_u_ic h_u_id (r_ro) (r_pt) (r_me) (e_ah)) (cwV 0 hts gV_X12_444 rfl rfl rfl hv_X12_countRows ⟨Nat.le_of_ble_eq_true rfl, Nat.le_of_ble_eq_true rfl⟩) (g5_preV hPc hK hDc hN hT hS hFc (ci := 12) (q0 := 0) rfl rfl) rfl rfl hl.1 rfl (lv_room (Nat.le_of_ble_eq_true rfl)) dX12_surely_15 ⟨Nat.le_of_ble_eq_true rfl, Nat.le_of_ble_eq_true rfl⟩) hS (fun q _ h => hFc q h) hFc (fun u t H1 locs ht hvm hw hB hz1 hk1 hS => ?_)
      obtain ⟨hP1, hD1⟩ := hB
      rw [ht] at hP1
      obtain ⟨z14, z15, z16, z17, z18, z19, z20, z21, z22, z23, z24, z25, z26, z27, z28, z29, z30, z31, z32, i_3, i_4, i_5, i_6, i_7, i_8, i_9, i_10, i_11, i_12, i_13, rfl⟩ := hw
      have i_3 : 0 ≤ z14.toInt ∧ z14.toInt ≤ 4840 := i_3
      have i_4 : 0 ≤ z15.toInt ∧ z15.toInt ≤ 1 := i_4
      have i_5 : 0 ≤ z18.toInt ∧ z18.toInt ≤ 63 := i_5
      have i_6 : 0 ≤ z19.toInt ∧ z19.toInt ≤ 23 := i_6
      have i_7 : 0 ≤ z20.toInt ∧ z20.toInt ≤ 3 := i_7
      have i_8 : 0 ≤ z21.toInt ∧ z21.toInt ≤ 1000000 := i_8
      have i_9 : 0 ≤ z22.toInt ∧ z22.toInt ≤ 200 := i_9
      have i_10 : PTI z29 := i_10
      have i_11 : 0 ≤ z25.toInt ∧ z25.toInt ≤ 1 := i_11
      have i_12 : MEI z32 := i_12
      have i_13 : AH0 z30 z32 := i_13
      obtain ⟨hP, hD⟩ := va_join (wr := []) hP hD [0, 1, 2, 3, 4, 5, 6, 7] [] rfl rfl (by decide) (by decide) hk1 hFc hP1 hD1
      generalize H1 = H at hP hS ⊢
      refine g5_rs [(b_o, (oc12 0 u_sa b_rf b_ro b_im b_ke u_fd b_tp u_td u_fr u_to u_so u_wo u_fa u_bd u_nc b_nl u_co b_op b_ar u_le b_pi b_pa u_pd u_od b_ws b_hw z14 b_se b_re z15 z16 z17 z18 z19 z20 z21 z22 b_pt z23 z24 b_ip z25 b_ah b_be b_me z26 b_tr b_ld u_st b_wn u_id)), (b_ro, (arI G 5740 v_ro)), (b_se, (arJ G 13 z27)), (b_re, (arJ G 400 z28)), (b_pt, (arI G 200 z29)), (b_ah, (arJ G 49152 z30)), (b_be, (arJ G 49152 z31)), (b_me, (arI G 1536 z32))] hP hD (fun hP hD => ?_)
      refine lv_iconst (v := (-1)) hx hb dX12_surely_18 (by decide) ?_
      refine lv_istore_n (lv' := [(2, .int (-1)), (0, .ref b_o), (1, .int p_1)]) hx hb dX12_surely_19 rfl hl (by decide) rfl (fun ls hl => ?_)
      refine lv_iconst (v := 0) hx hb dX12_surely_20 (by decide) ?_
      refine lv_istore_n (lv' := [(3, .int 0), (2, .int (-1)), (0, .ref b_o), (1, .int p_1)]) hx hb dX12_surely_21 rfl hl (by decide) rfl (fun ls hl => ?_)
      refine lv_iconst (v := 0) hx hb dX12_surely_22 (by decide) ?_
      refine lv_istore (lv' := [(4, .int 0), (3, .int 0), (2, .int (-1)), (0, .ref b_o), (1, .int p_1)]) hx hb dX12_surely_23 hl (by decide) rfl (fun ls hl => ?_)
      refine g5_loop (α := (Int32) × (Int32) × (Int32)) (fun (q : (Int32) × (Int32) × (Int32)) (ls : Array Slot) (H : Heap) (locs : List Loc) => match q with | (k25_4, k25_3, k25_2) => lv_has ls 5 [(2, .int k25_2), (3, .int k25_3), (4, .int k25_4), (0, .ref b_o), (1, .int p_1)] ∧ va_P G.1 vwCl [(b_o, (oc12 0 u_sa b_rf b_ro b_im b_ke u_fd b_tp u_td u_fr u_to u_so u_wo u_fa u_bd u_nc b_nl u_co b_op b_ar u_le b_pi b_pa u_pd u_od b_ws b_hw z14 b_se b_re z15 z16 z17 z18 z19 z20 z21 z22 b_pt z23 z24 b_ip z25 b_ah b_be b_me z26 b_tr b_ld u_st b_wn u_id)), (b_ro, (arI G 5740 v_ro)), (b_se, (arJ G 13 z27)), (b_re, (arJ G 400 z28)), (b_pt, (arI G 200 z29)), (b_ah, (arJ G 49152 z30)), (b_be, (arJ G 49152 z31)), (b_me, (arI G 1536 z32))] H ∧ va_D A [(b_o, (oc12 0 u_sa b_rf b_ro b_im b_ke u_fd b_tp u_td u_fr u_to u_so u_wo u_fa u_bd u_nc b_nl u_co b_op b_ar u_le b_pi b_pa u_pd u_od b_ws b_hw z14 b_se b_re z15 z16 z17 z18 z19 z20 z21 z22 b_pt z23 z24 b_ip z25 b_ah b_be b_me z26 b_tr b_ld u_st b_wn u_id)), (b_ro, (arI G 5740 v_ro)), (b_se, (arJ G 13 z27)), (b_re, (arJ G 400 z28)), (b_pt, (arI G 200 z29)), (b_ah, (arJ G 49152 z30)), (b_be, (arJ G 49152 z31)), (b_me, (arI G 1536 z32))] ∧ va_S A s.heap H locs ∧ (0 ≤ k25_4.toInt ∧ k25_4.toInt ≤ 64)) (fun (q : (Int32) × (Int32) × (Int32)) => match q with | (k25_4, k25_3, k25_2) => Int.toNat (64 - k25_4.toInt)) (0, 0, (-1)) ⟨lv_sub hl [2, 1, 0, 3, 4] rfl, hP, hD, hS, ⟨by decide, by decide⟩⟩ ?_
      rintro ⟨k25_4, k25_3, k25_2⟩ ls H locs ⟨hl, hP, hD, hS, i_33⟩ ih_25_34
      have hl : lv_has ls 5 [(2, .int k25_2), (3, .int k25_3), (4, .int k25_4), (0, .ref b_o), (1, .int p_1)] := hl
      have i_33 : 0 ≤ k25_4.toInt ∧ k25_4.toInt ≤ 64 := i_33
      refine g5_rs [(b_o, (oc12 0 u_sa b_rf b_ro b_im b_ke u_fd b_tp u_td u_fr u_to u_so u_wo u_fa u_bd u_nc b_nl u_co b_op b_ar u_le b_pi b_pa u_pd u_od b_ws b_hw z14 b_se b_re z15 z16 z17 z18 z19 z20 z21 z22 b_pt z23 z24 b_ip z25 b_ah b_be b_me z26 b_tr b_ld u_st b_wn u_id)), (b_ro, (arI G 5740 v_ro)), (b_se, (arJ G 13 z27)), (b_re, (arJ G 400 z28)), (b_pt, (arI G 200 z29)), (b_ah, (arJ G 49152 z30)), (b_be, (arJ G 49152 z31)), (b_me, (arI G 1536 z32))] hP hD (fun hP hD => ?_)
      refine lv_iload hx hb dX12_surely_25 (lv_at hl 2 rfl) ?_
      refine lv_bipush (v := 64) hx hb dX12_surely_27 (by decide) ?_
      refine lv_icmp_ge (tgt := 77) hx hb dX12_surely_29 (by decide) (fun c_35 => ?_) (fun c_35 => ?_)
      ·
        have i_35 : k25_4.toInt ≥ 64 := by have z := g5_ge (a := k25_4.toInt) (b := 64) (by rfl) (by decide) c_35; omega
        refine lv_iload_n hx hb dX12_surely_77 rfl (lv_at hl 1 rfl) ?_
        refine lv_iconst (v := 1) hx hb dX12_surely_78 (by decide) ?_
        refine lv_icmp_ne (tgt := 86) hx hb dX12_surely_79 (by decide) (fun c_36 => ?_) (fun c_36 => ?_)
        ·
          have n_36 : gNe (k25_3.toInt) (1) := by have z := g5_ne (a := k25_3.toInt) (b := 1) (by rfl) (by decide) c_36; unfold gNe; omega
          refine lv_iconst (v := (-1)) hx hb dX12_surely_86 (by decide) ?_
          exact W.iret (v := (-1)) hx hb hr (fun t ht hW => ⟨⟨(-1), [(b_o, (oc12 0 u_sa b_rf b_ro b_im b_ke u_fd b_tp u_td u_fr u_to u_so u_wo u_fa u_bd u_nc b_nl u_co b_op b_ar u_le b_pi b_pa u_pd u_od b_ws b_hw z14 b_se b_re z15 z16 z17 z18 z19 z20 z21 z22 b_pt z23 z24 b_ip z25 b_ah b_be b_me z26 b_tr b_ld u_st b_wn u_id)), (b_ro, (arI G 5740 v_ro)), (b_se, (arJ G 13 z27)), (b_re, (arJ G 400 z28)), (b_pt, (arI G 200 z29)), (b_ah, (arJ G 49152 z30)), (b_be, (arJ G 49152 z31)), (b_me, (arI G 1536 z32))], rfl, ⟨(-1), 0, z14, z15, z16, z17, z18, z19, z20, z21, z22, z23, z24, z25, z26, z27, z28, z29, z30, z31, z32, i_3, i_4, i_5, i_6, i_7, i_8, i_9, i_10, i_11, i_12, i_13, rfl, rfl⟩, by rw [ht]; exact hP.sub [0, 1, 2, 3, 4, 5, 6, 7] rfl, hD.sub [0, 1, 2, 3, 4, 5, 6, 7] (by decide) rfl⟩, hS.F ht⟩) hS.2.2 dX12_surely_87
        ·
          have i_36 : k25_3.toInt = 1 := by have z := g5_neN (a := k25_3.toInt) (b := 1) (by rfl) (by decide) c_36; omega
          refine lv_iload_n hx hb dX12_surely_82 rfl (lv_at hl 0 rfl) ?_
          refine lv_goto (tgt := 87) hx hb dX12_surely_83 (by decide) ?_
          exact W.iret (v := k25_2) hx hb hr (fun t ht hW => ⟨⟨k25_2, [(b_o, (oc12 0 u_sa b_rf b_ro b_im b_ke u_fd b_tp u_td u_fr u_to u_so u_wo u_fa u_bd u_nc b_nl u_co b_op b_ar u_le b_pi b_pa u_pd u_od b_ws b_hw z14 b_se b_re z15 z16 z17 z18 z19 z20 z21 z22 b_pt z23 z24 b_ip z25 b_ah b_be b_me z26 b_tr b_ld u_st b_wn u_id)), (b_ro, (arI G 5740 v_ro)), (b_se, (arJ G 13 z27)), (b_re, (arJ G 400 z28)), (b_pt, (arI G 200 z29)), (b_ah, (arJ G 49152 z30)), (b_be, (arJ G 49152 z31)), (b_me, (arI G 1536 z32))], rfl, ⟨k25_2, 0, z14, z15, z16, z17, z18, z19, z20, z21, z22, z23, z24, z25, z26, z27, z28, z29, z30, z31, z32, i_3, i_4, i_5, i_6, i_7, i_8, i_9, i_10, i_11, i_12, i_13, rfl, rfl⟩, by rw [ht]; exact hP.sub [0, 1, 2, 3, 4, 5, 6, 7] rfl, hD.sub [0, 1, 2, 3, 4, 5, 6, 7] (by decide) rfl⟩, hS.F ht⟩) hS.2.2 dX12_surely_87
      ·
        have i_35 : k25_4.toInt < 64 := by have z := g5_geN (a := k25_4.toInt) (b := 64) (by rfl) (by decide) c_35; omega
        refine lv_aload_n hx hb dX12_surely_32 rfl (lv_at hl 3 rfl) ?_
        refine lv_iload_n hx hb dX12_surely_33 rfl (lv_at hl 4 rfl) ?_
        refine lv_iload hx hb dX12_surely_34 (lv_at hl 2 rfl) ?_
        obtain ⟨hPc, hDc, hFc⟩ := g5_sub3 (wc := [(b_o, (oc12 0 u_sa b_rf b_ro b_im b_ke u_fd b_tp u_td u_fr u_to u_so u_wo u_fa u_bd u_nc b_nl u_co b_op b_ar u_le b_pi b_pa u_pd u_od b_ws b_hw z14 b_se b_re z15 z16 z17 z18 z19 z20 z21 z22 b_pt z23 z24 b_ip z25 b_ah b_be b_me z26 b_tr b_ld u_st b_wn u_id)), (b_ah, (arJ G 49152 z30)), (b_be, (arJ G 49152 z31))]) hP hD hS hA [0, 5, 6] (by decide) rfl
        refine va_calll (va_runV (As := [.int p_1, .int k25_4]) (rest := []) ⟨hx, hb, hml, hown, hts⟩ (n_rowsAt l G b_o b_ah b_be b_rf b_ro b_im b_ke b_tp b_nl b_op b_ar b_pi b_pa b_ws b_hw b_se b_re b_pt b_ip b_me b_tr b_ld b_wn H.size 0 u_sa u_fd u_td u_fr u_to u_so u_fa u_bd u_nc u_co u_le u_pd u_od z14 z15 z18 z19 z20 z21 z22 z23 z24 z25 z26 u_id p_1 k25_4 u_wo z16 z17 u_st z30 z31 h_u_td h_u_fr h_u_to h_u_bd h_u_nc h_u_co h_u_pd i_3 i_4 i_5 i_6 i_7 i_8 i_9 i_11 h_u_id i_1 ⟨by omega, by omega⟩) (cwV 2 hts gV_X12_440 rfl rfl rfl hv_X12_rowsAt ⟨Nat.le_of_ble_eq_true rfl, Nat.le_of_ble_eq_true rfl⟩) (g5_preV hPc hK hDc hN hT hS hFc (ci := 12) (q0 := 0) rfl rfl) rfl rfl hl.1 rfl (lv_room (Nat.le_of_ble_eq_true rfl)) dX12_surely_36 ⟨Nat.le_of_ble_eq_true rfl, Nat.le_of_ble_eq_true rfl⟩) hS (fun q _ h => hFc q h) hFc (fun r u t H1 locs ht hvm hw hB hz1 hk1 hS => ?_)
        obtain ⟨hP1, hD1⟩ := hB
        rw [ht] at hP1
        obtain ⟨z37, y38, rfl⟩ := hw
        obtain ⟨hP, hD⟩ := va_join (wr := [(b_ro, (arI G 5740 v_ro)), (b_se, (arJ G 13 z27)), (b_re, (arJ G 400 z28)), (b_pt, (arI G 200 z29)), (b_me, (arI G 1536 z32))]) hP hD [0, 5, 6] [1, 2, 3, 4, 7] rfl rfl (by decide) (by decide) hk1 hFc hP1 hD1
        generalize H1 = H at hP hS ⊢
        refine g5_rs [(b_ro, (arI G 5740 v_ro)), (b_se, (arJ G 13 z27)), (b_re, (arJ G 400 z28)), (b_pt, (arI G 200 z29)), (b_me, (arI G 1536 z32)), (b_o, (oc12 0 u_sa b_rf b_ro b_im b_ke u_fd b_tp u_td u_fr u_to u_so u_wo u_fa u_bd u_nc b_nl u_co b_op b_ar u_le b_pi b_pa u_pd u_od b_ws b_hw z14 b_se b_re z15 z16 z17 z18 z19 z20 z21 z22 b_pt z23 z24 b_ip z25 b_ah b_be b_me z26 b_tr b_ld u_st b_wn u_id)), (b_ah, (arJ G 49152 z30)), (b_be, (arJ G 49152 z31))] hP hD (fun hP hD => ?_)
        refine g5_tl (v := z37) y38 ?_
        refine lv_lconst (v := 0) hx hb dX12_surely_39 (by decide) ?_
        refine W.lcmp hx hb dX12_surely_40 ?_
        refine lv_if_le (tgt := 49) hx hb dX12_surely_41 (by decide) (fun c_39 => ?_) (fun c_39 => ?_)
        ·
          have i_39 : (lg_cmp z37 0).toInt ≤ 0 := by have z := g5_le (a := (lg_cmp z37 0).toInt) (b := 0) (by rfl) (by decide) c_39; omega
          refine lv_iload_n hx hb dX12_surely_49 rfl (lv_at hl 0 rfl) ?_
          refine lv_istore_n (lv' := [(2, .int k25_2), (3, .int k25_3), (4, .int k25_4), (0, .ref b_o), (1, .int p_1)]) hx hb dX12_surely_50 rfl hl (by decide) rfl (fun ls hl => ?_)
          refine lv_iload_n hx hb dX12_surely_51 rfl (lv_at hl 1 rfl) ?_
          refine lv_aload_n hx hb dX12_surely_52 rfl (lv_at hl 3 rfl) ?_
          refine lv_iload_n hx hb dX12_surely_53 rfl (lv_at hl 4 rfl) ?_
          refine lv_iload hx hb dX12_surely_54 (lv_at hl 2 rfl) ?_
          obtain ⟨hPc, hDc, hFc⟩ := g5_sub3 (wc := [(b_o, (oc12 0 u_sa b_rf b_ro b_im b_ke u_fd b_tp u_td u_fr u_to u_so u_wo u_fa u_bd u_nc b_nl u_co b_op b_ar u_le b_pi b_pa u_pd u_od b_ws b_hw z14 b_se b_re z15 z16 z17 z18 z19 z20 z21 z22 b_pt z23 z24 b_ip z25 b_ah b_be b_me z26 b_tr b_ld u_st b_wn u_id)), (b_ah, (arJ G 49152 z30)), (b_be, (arJ G 49152 z31))]) hP hD hS hA [5, 6, 7] (by decide) rfl
          refine va_calll (va_runV (As := [.int p_1, .int k25_4]) (rest := [.int k25_3]) ⟨hx, hb, hml, hown, hts⟩ (n_rowsAt l G b_o b_ah b_be b_rf b_ro b_im b_ke b_tp b_nl b_op b_ar b_pi b_pa b_ws b_hw b_se b_re b_pt b_ip b_me b_tr b_ld b_wn H.size 0 u_sa u_fd u_td u_fr u_to u_so u_fa u_bd u_nc u_co u_le u_pd u_od z14 z15 z18 z19 z20 z21 z22 z23 z24 z25 z26 u_id p_1 k25_4 u_wo z16 z17 u_st z30 z31 h_u_td h_u_fr h_u_to h_u_bd h_u_nc h_u_co h_u_pd i_3 i_4 i_5 i_6 i_7 i_8 i_9 i_11 h_u_id i_1 ⟨by omega, by omega⟩) (cwV 2 hts gV_X12_440 rfl rfl rfl hv_X12_rowsAt ⟨Nat.le_of_ble_eq_true rfl, Nat.le_of_ble_eq_true rfl⟩) (g5_preV hPc hK hDc hN hT hS hFc (ci := 12) (q0 := 0) rfl rfl) rfl rfl hl.1 rfl (lv_room (Nat.le_of_ble_eq_true rfl)) dX12_surely_56 ⟨Nat.le_of_ble_eq_true rfl, Nat.le_of_ble_eq_true rfl⟩) hS (fun q _ h => hFc q h) hFc (fun r u t H1 locs ht hvm hw hB hz1 hk1 hS => ?_)
          obtain ⟨hP1, hD1⟩ := hB
          rw [ht] at hP1
          obtain ⟨z40, y41, rfl⟩ := hw
          obtain ⟨hP, hD⟩ := va_join (wr := [(b_ro, (arI G 5740 v_ro)), (b_se, (arJ G 13 z27)), (b_re, (arJ G 400 z28)), (b_pt, (arI G 200 z29)), (b_me, (arI G 1536 z32))]) hP hD [5, 6, 7] [0, 1, 2, 3, 4] rfl rfl (by decide) (by decide) hk1 hFc hP1 hD1
          generalize H1 = H at hP hS ⊢
          refine g5_rs [(b_ro, (arI G 5740 v_ro)), (b_se, (arJ G 13 z27)), (b_re, (arJ G 400 z28)), (b_pt, (arI G 200 z29)), (b_me, (arI G 1536 z32)), (b_o, (oc12 0 u_sa b_rf b_ro b_im b_ke u_fd b_tp u_td u_fr u_to u_so u_wo u_fa u_bd u_nc b_nl u_co b_op b_ar u_le b_pi b_pa u_pd u_od b_ws b_hw z14 b_se b_re z15 z16 z17 z18 z19 z20 z21 z22 b_pt z23 z24 b_ip z25 b_ah b_be b_me z26 b_tr b_ld u_st b_wn u_id)), (b_ah, (arJ G 49152 z30)), (b_be, (arJ G 49152 z31))] hP hD (fun hP hD => ?_)
          refine g5_tl (v := z40) y41 ?_
          refine lv_lconst (v := 0) hx hb dX12_surely_59 (by decide) ?_
          refine W.lcmp hx hb dX12_surely_60 ?_
          refine lv_if_le (tgt := 68) hx hb dX12_surely_61 (by decide) (fun c_42 => ?_) (fun c_42 => ?_)
          ·
            have i_42 : (lg_cmp z40 0).toInt ≤ 0 := by have z := g5_le (a := (lg_cmp z40 0).toInt) (b := 0) (by rfl) (by decide) c_42; omega
            refine lv_iconst (v := 0) hx hb dX12_surely_68 (by decide) ?_
            refine lv_iadd hx hb dX12_surely_69 ?_
            refine g5_ti (v := k25_3) (by simp) ?_
            refine lv_istore_n (lv' := [(3, .int k25_3), (2, .int k25_2), (4, .int k25_4), (0, .ref b_o), (1, .int p_1)]) hx hb dX12_surely_70 rfl hl (by decide) rfl (fun ls hl => ?_)
            refine lv_iinc (v := (k25_4 + 1)) (lv' := [(4, .int (k25_4 + 1)), (3, .int k25_3), (2, .int k25_2), (0, .ref b_o), (1, .int p_1)]) hx hb dX12_surely_71 hl (k := 2) rfl rfl (by decide) rfl (fun ls hl => ?_)
            have t_43 : (k25_4 + 1).toInt = k25_4.toInt + 1 := g5_iadd (a := k25_4.toInt) (b := 1) rfl (by decide) (by omega) (by omega)
            refine lv_goto (tgt := 25) hx hb dX12_surely_74 (by decide) ?_
            exact ih_25_34 ((k25_4 + 1), k25_3, k25_2) ls H locs (show Int.toNat (64 - (k25_4 + 1).toInt) < Int.toNat (64 - k25_4.toInt) from g_up (show k25_4.toInt < (k25_4 + 1).toInt by omega) (show k25_4.toInt < 64 by omega)) ⟨lv_sub hl [2, 1, 0, 3, 4] rfl, hP.sub [5, 0, 1, 2, 3, 6, 7, 4] rfl, hD.sub [5, 0, 1, 2, 3, 6, 7, 4] (by decide) rfl, hS, ⟨by omega, by omega⟩⟩
          ·
            have i_42 : (lg_cmp z40 0).toInt > 0 := by have z := g5_leN (a := (lg_cmp z40 0).toInt) (b := 0) (by rfl) (by decide) c_42; omega
            refine lv_iconst (v := 1) hx hb dX12_surely_64 (by decide) ?_
            refine lv_goto (tgt := 69) hx hb dX12_surely_65 (by decide) ?_
            refine lv_iadd hx hb dX12_surely_69 ?_
            refine lv_istore_n (lv' := [(3, .int (k25_3 + 1)), (2, .int k25_2), (4, .int k25_4), (0, .ref b_o), (1, .int p_1)]) hx hb dX12_surely_70 rfl hl (by decide) rfl (fun ls hl => ?_)
            refine lv_iinc (v := (k25_4 + 1)) (lv' := [(4, .int (k25_4 + 1)), (3, .int (k25_3 + 1)), (2, .int k25_2), (0, .ref b_o), (1, .int p_1)]) hx hb dX12_surely_71 hl (k := 2) rfl rfl (by decide) rfl (fun ls hl => ?_)
            have t_44 : (k25_4 + 1).toInt = k25_4.toInt + 1 := g5_iadd (a := k25_4.toInt) (b := 1) rfl (by decide) (by omega) (by omega)
            refine lv_goto (tgt := 25) hx hb dX12_surely_74 (by decide) ?_
            exact ih_25_34 ((k25_4 + 1), (k25_3 + 1), k25_2) ls H locs (show Int.toNat (64 - (k25_4 + 1).toInt) < Int.toNat (64 - k25_4.toInt) from g_up (show k25_4.toInt < (k25_4 + 1).toInt by omega) (show k25_4.toInt < 64 by omega)) ⟨lv_sub hl [2, 1, 0, 3, 4] rfl, hP.sub [5, 0, 1, 2, 3, 6, 7, 4] rfl, hD.sub [5, 0, 1, 2, 3, 6, 7, 4] (by decide) rfl, hS, ⟨by omega, by omega⟩⟩
        ·
          have i_39 : (lg_cmp z37 0).toInt > 0 := by have z := g5_leN (a := (lg_cmp z37 0).toInt) (b := 0) (by rfl) (by decide) c_39; omega
          refine lv_iload hx hb dX12_surely_44 (lv_at hl 2 rfl) ?_
          refine lv_goto (tgt := 50) hx hb dX12_surely_46 (by decide) ?_
          refine lv_istore_n (lv' := [(2, .int k25_4), (3, .int k25_3), (4, .int k25_4), (0, .ref b_o), (1, .int p_1)]) hx hb dX12_surely_50 rfl hl (by decide) rfl (fun ls hl => ?_)
          refine lv_iload_n hx hb dX12_surely_51 rfl (lv_at hl 1 rfl) ?_
          refine lv_aload_n hx hb dX12_surely_52 rfl (lv_at hl 3 rfl) ?_
          refine lv_iload_n hx hb dX12_surely_53 rfl (lv_at hl 4 rfl) ?_
          refine lv_iload hx hb dX12_surely_54 (lv_at hl 2 rfl) ?_
          obtain ⟨hPc, hDc, hFc⟩ := g5_sub3 (wc := [(b_o, (oc12 0 u_sa b_rf b_ro b_im b_ke u_fd b_tp u_td u_fr u_to u_so u_wo u_fa u_bd u_nc b_nl u_co b_op b_ar u_le b_pi b_pa u_pd u_od b_ws b_hw z14 b_se b_re z15 z16 z17 z18 z19 z20 z21 z22 b_pt z23 z24 b_ip z25 b_ah b_be b_me z26 b_tr b_ld u_st b_wn u_id)), (b_ah, (arJ G 49152 z30)), (b_be, (arJ G 49152 z31))]) hP hD hS hA [5, 6, 7] (by decide) rfl
          refine va_calll (va_runV (As := [.int p_1, .int k25_4]) (rest := [.int k25_3]) ⟨hx, hb, hml, hown, hts⟩ (n_rowsAt l G b_o b_ah b_be b_rf b_ro b_im b_ke b_tp b_nl b_op b_ar b_pi b_pa b_ws b_hw b_se b_re b_pt b_ip b_me b_tr b_ld b_wn H.size 0 u_sa u_fd u_td u_fr u_to u_so u_fa u_bd u_nc u_co u_le u_pd u_od z14 z15 z18 z19 z20 z21 z22 z23 z24 z25 z26 u_id p_1 k25_4 u_wo z16 z17 u_st z30 z31 h_u_td h_u_fr h_u_to h_u_bd h_u_nc h_u_co h_u_pd i_3 i_4 i_5 i_6 i_7 i_8 i_9 i_11 h_u_id i_1 ⟨by omega, by omega⟩) (cwV 2 hts gV_X12_440 rfl rfl rfl hv_X12_rowsAt ⟨Nat.le_of_ble_eq_true rfl, Nat.le_of_ble_eq_true rfl⟩) (g5_preV hPc hK hDc hN hT hS hFc (ci := 12) (q0 := 0) rfl rfl) rfl rfl hl.1 rfl (lv_room (Nat.le_of_ble_eq_true rfl)) dX12_surely_56 ⟨Nat.le_of_ble_eq_true rfl, Nat.le_of_ble_eq_true rfl⟩) hS (fun q _ h => hFc q h) hFc (fun r u t H1 locs ht hvm hw hB hz1 hk1 hS => ?_)
          obtain ⟨hP1, hD1⟩ := hB
          rw [ht] at hP1
          obtain ⟨z45, y46, rfl⟩ := hw
          obtain ⟨hP, hD⟩ := va_join (wr := [(b_ro, (arI G 5740 v_ro)), (b_se, (arJ G 13 z27)), (b_re, (arJ G 400 z28)), (b_pt, (arI G 200 z29)), (b_me, (arI G 1536 z32))]) hP hD [5, 6, 7] [0, 1, 2, 3, 4] rfl rfl (by decide) (by decide) hk1 hFc hP1 hD1
          generalize H1 = H at hP hS ⊢
          refine g5_rs [(b_ro, (arI G 5740 v_ro)), (b_se, (arJ G 13 z27)), (b_re, (arJ G 400 z28)), (b_pt, (arI G 200 z29)), (b_me, (arI G 1536 z32)), (b_o, (oc12 0 u_sa b_rf b_ro b_im b_ke u_fd b_tp u_td u_fr u_to u_so u_wo u_fa u_bd u_nc b_nl u_co b_op b_ar u_le b_pi b_pa u_pd u_od b_ws b_hw z14 b_se b_re z15 z16 z17 z18 z19 z20 z21 z22 b_pt z23 z24 b_ip z25 b_ah b_be b_me z26 b_tr b_ld u_st b_wn u_id)), (b_ah, (arJ G 49152 z30)), (b_be, (arJ G 49152 z31))] hP hD (fun hP hD => ?_)
          refine g5_tl (v := z45) y46 ?_
          refine lv_lconst (v := 0) hx hb dX12_surely_59 (by decide) ?_
          refine W.lcmp hx hb dX12_surely_60 ?_
          refine lv_if_le (tgt := 68) hx hb dX12_surely_61 (by decide) (fun c_47 => ?_) (fun c_47 => ?_)
          ·
            have i_47 : (lg_cmp z45 0).toInt ≤ 0 := by have z := g5_le (a := (lg_cmp z45 0).toInt) (b := 0) (by rfl) (by decide) c_47; omega
            refine lv_iconst (v := 0) hx hb dX12_surely_68 (by decide) ?_
            refine lv_iadd hx hb dX12_surely_69 ?_
            refine g5_ti (v := k25_3) (by simp) ?_
            refine lv_istore_n (lv' := [(3, .int k25_3), (2, .int k25_4), (4, .int k25_4), (0, .ref b_o), (1, .int p_1)]) hx hb dX12_surely_70 rfl hl (by decide) rfl (fun ls hl => ?_)
            refine lv_iinc (v := (k25_4 + 1)) (lv' := [(4, .int (k25_4 + 1)), (3, .int k25_3), (2, .int k25_4), (0, .ref b_o), (1, .int p_1)]) hx hb dX12_surely_71 hl (k := 2) rfl rfl (by decide) rfl (fun ls hl => ?_)
            have t_48 : (k25_4 + 1).toInt = k25_4.toInt + 1 := g5_iadd (a := k25_4.toInt) (b := 1) rfl (by decide) (by omega) (by omega)
            refine lv_goto (tgt := 25) hx hb dX12_surely_74 (by decide) ?_
            exact ih_25_34 ((k25_4 + 1), k25_3, k25_4) ls H locs (show Int.toNat (64 - (k25_4 + 1).toInt) < Int.toNat (64 - k25_4.toInt) from g_up (show k25_4.toInt < (k25_4 + 1).toInt by omega) (show k25_4.toInt < 64 by omega)) ⟨lv_sub hl [2, 1, 0, 3, 4] rfl, hP.sub [5, 0, 1, 2, 3, 6, 7, 4] rfl, hD.sub [5, 0, 1, 2, 3, 6, 7, 4] (by decide) rfl, hS, ⟨by omega, by omega⟩⟩
          ·
            have i_47 : (lg_cmp z45 0).toInt > 0 := by have z := g5_leN (a := (lg_cmp z45 0).toInt) (b := 0) (by rfl) (by decide) c_47; omega
            refine lv_iconst (v := 1) hx hb dX12_surely_64 (by decide) ?_
            refine lv_goto (tgt := 69) hx hb dX12_surely_65 (by decide) ?_
            refine lv_iadd hx hb dX12_surely_69 ?_
            refine lv_istore_n (lv' := [(3, .int (k25_3 + 1)), (2, .int k25_4), (4, .int k25_4), (0, .ref b_o), (1, .int p_1)]) hx hb dX12_surely_70 rfl hl (by decide) rfl (fun ls hl => ?_)
            refine lv_iinc (v := (k25_4 + 1)) (lv' := [(4, .int (k25_4 + 1)), (3, .int (k25_3 + 1)), (2, .int k25_4), (0, .ref b_o), (1, .int p_1)]) hx hb dX12_surely_71 hl (k := 2) rfl rfl (by decide) rfl (fun ls hl => ?_)
            have t_49 : (k25_4 + 1).toInt = k25_4.toInt + 1 := g5_iadd (a := k25_4.toInt) (b := 1) rfl (by decide) (by omega) (by omega)
            refine lv_goto (tgt := 25) hx hb dX12_surely_74 (by decide) ?_
            exact ih_25_34 ((k25_4 + 1), (k25_3 + 1), k25_4) ls H locs (show Int.toNat (64 - (k25_4 + 1).toInt) < Int.toNat (64 - k25_4.toInt) from g_up (show k25_4.toInt < (k25_4 + 1).toInt by omega) (show k25_4.toInt < 64 by omega)) ⟨lv_sub hl [2, 1, 0, 3, 4] rfl, hP.sub [5, 0, 1, 2, 3, 6, 7, 4] rfl, hD.sub [5, 0, 1, 2, 3, 6, 7, 4] (by decide) rfl, hS, ⟨by omega, by omega⟩⟩
    ·
      exact absurd c_2 (by decide)
  ·
    have hP := g5_same hP hk1
    generalize H1 = H at hP hS ⊢
    refine lv_if_ne (tgt := 14) hx hb dX12_surely_9 (by decide) (fun c_50 => ?_) (fun c_50 => ?_)
    ·
      exact absurd c_50 (by decide)
    ·
      refine lv_iconst (v := (-1)) hx hb dX12_surely_12 (by decide) ?_
      exact W.iret (v := (-1)) hx hb hr (fun t ht hW => ⟨⟨(-1), [(b_o, (oc12 0 u_sa b_rf b_ro b_im b_ke u_fd b_tp u_td u_fr u_to u_so u_wo u_fa u_bd u_nc b_nl u_co b_op b_ar u_le b_pi b_pa u_pd u_od b_ws b_hw u_la b_se b_re u_bk u_va u_su u_ce u_ho u_wy u_bt u_ps b_pt u_tg u_sn b_ip u_ic b_ah b_be b_me u_wd b_tr b_ld u_st b_wn u_id)), (b_ro, (arI G 5740 v_ro)), (b_se, (arJ G 13 v_se)), (b_re, (arJ G 400 v_re)), (b_pt, (arI G 200 v_pt)), (b_ah, (arJ G 49152 v_ah)), (b_be, (arJ G 49152 v_be)), (b_me, (arI G 1536 v_me))], rfl, ⟨(-1), 0, u_la, u_bk, u_va, u_su, u_ce, u_ho, u_wy, u_bt, u_ps, u_tg, u_sn, u_ic, u_wd, v_se, v_re, v_pt, v_ah, v_be, v_me, h_u_la, h_u_bk, h_u_ce, h_u_ho, h_u_wy, h_u_bt, h_u_ps, r_pt, h_u_ic, r_me, e_ah, rfl, rfl⟩, by rw [ht]; exact hP.sub [0, 1, 2, 3, 4, 5, 6, 7] rfl, hD.sub [0, 1, 2, 3, 4, 5, 6, 7] (by decide) rfl⟩, hS.F ht⟩) hS.2.2 dX12_surely_13
set_option maxHeartbeats 4000000 in
set_option maxRecDepth 100000 in
theorem n_couldP (l : Launch) (G : g5_G) (b_o b_ro b_se b_re b_pt b_ah b_be b_me b_rf b_im b_ke b_tp b_nl b_op b_ar b_pi b_pa b_ws b_hw b_ip b_tr b_ld b_wn : Nat) (sz : Nat) (u_th : Int32) (u_sa : Int32) (u_fd : Int32) (u_td : Int32) (u_fr : Int32) (u_to : Int32) (u_so : Int32) (u_fa : Int32) (u_bd : Int32) (u_nc : Int32) (u_co : Int32) (u_le : Int32) (u_pd : Int32) (u_od : Int32) (u_la : Int32) (u_bk : Int32) (u_ce : Int32) (u_ho : Int32) (u_wy : Int32) (u_bt : Int32) (u_ps : Int32) (u_tg : Int32) (u_sn : Int32) (u_ic : Int32) (u_wd : Int32) (u_id : Int32) (p_1 : Int32) (p_2 : Int32) (u_wo : Int64) (u_va : Int64) (u_su : Int64) (u_st : Int64) (v_ro : Nat → Int32) (v_se : Nat → Int64) (v_re : Nat → Int64) (v_pt : Nat → Int32) (v_ah : Nat → Int64) (v_be : Nat → Int64) (v_me : Nat → Int32) (h_u_td : 0 ≤ u_td.toInt ∧ u_td.toInt ≤ 400) (h_u_fr : 0 ≤ u_fr.toInt ∧ u_fr.toInt ≤ 400) (h_u_to : 0 ≤ u_to.toInt ∧ u_to.toInt ≤ 400) (h_u_bd : 0 ≤ u_bd.toInt ∧ u_bd.toInt ≤ 1) (h_u_nc : 0 ≤ u_nc.toInt ∧ u_nc.toInt ≤ 12) (h_u_co : 0 ≤ u_co.toInt ∧ u_co.toInt ≤ 400) (h_u_pd : 0 ≤ u_pd.toInt ∧ u_pd.toInt ≤ 400) (h_u_la : 0 ≤ u_la.toInt ∧ u_la.toInt ≤ 4840) (h_u_bk : 0 ≤ u_bk.toInt ∧ u_bk.toInt ≤ 1) (h_u_ce : 0 ≤ u_ce.toInt ∧ u_ce.toInt ≤ 63) (h_u_ho : 0 ≤ u_ho.toInt ∧ u_ho.toInt ≤ 23) (h_u_wy : 0 ≤ u_wy.toInt ∧ u_wy.toInt ≤ 3) (h_u_bt : 0 ≤ u_bt.toInt ∧ u_bt.toInt ≤ 1000000) (h_u_ps : 0 ≤ u_ps.toInt ∧ u_ps.toInt ≤ 200) (h_u_ic : 0 ≤ u_ic.toInt ∧ u_ic.toInt ≤ 1) (h_u_id : 0 ≤ u_id.toInt ∧ u_id.toInt ≤ 1) (r_ro : MI v_ro) (r_pt : PTI v_pt) (r_me : MEI v_me) (e_ah : AH0 v_ah v_me) : Met l yX12_could (wsG yX12_could cX12_could 6 (some .long)) ({ frames := 10, cells := 0, slots := 0, locals := 251 }) (va_Pc [.ref b_o, .int p_1, .int p_2] (g5_P G [(b_o, (oc12 u_th u_sa b_rf b_ro b_im b_ke u_fd b_tp u_td u_fr u_to u_so u_wo u_fa u_bd u_nc b_nl u_co b_op b_ar u_le b_pi b_pa u_pd u_od b_ws b_hw u_la b_se b_re u_bk u_va u_su u_ce u_ho u_wy u_bt u_ps b_pt u_tg u_sn b_ip u_ic b_ah b_be b_me u_wd b_tr b_ld u_st b_wn u_id)), (b_ro, (arI G 5740 v_ro)), (b_se, (arJ G 13 v_se)), (b_re, (arJ G 400 v_re)), (b_pt, (arI G 200 v_pt)), (b_ah, (arJ G 49152 v_ah)), (b_be, (arJ G 49152 v_be)), (b_me, (arI G 1536 v_me))] sz)) (va_Ql (fun (r : Int64) (u : va_W) => (∃ (o_r : Int64) (o_th : Int32) (o_la : Int32) (o_bk : Int32) (o_va : Int64) (o_su : Int64) (o_ce : Int32) (o_ho : Int32) (o_wy : Int32) (o_bt : Int32) (o_ps : Int32) (o_tg : Int32) (o_sn : Int32) (o_ic : Int32) (o_wd : Int32) (o_se : Nat → Int64) (o_re : Nat → Int64) (o_pt : Nat → Int32) (o_ah : Nat → Int64) (o_be : Nat → Int64) (o_me : Nat → Int32), (0 ≤ o_la.toInt ∧ o_la.toInt ≤ 4840) ∧ (0 ≤ o_bk.toInt ∧ o_bk.toInt ≤ 1) ∧ (0 ≤ o_ce.toInt ∧ o_ce.toInt ≤ 63) ∧ (0 ≤ o_ho.toInt ∧ o_ho.toInt ≤ 23) ∧ (0 ≤ o_wy.toInt ∧ o_wy.toInt ≤ 3) ∧ (0 ≤ o_bt.toInt ∧ o_bt.toInt ≤ 1000000) ∧ (0 ≤ o_ps.toInt ∧ o_ps.toInt ≤ 200) ∧ (PTI o_pt) ∧ (0 ≤ o_ic.toInt ∧ o_ic.toInt ≤ 1) ∧ (MEI o_me) ∧ (AH0 o_ah o_me) ∧ (r = o_r) ∧ (u = [(b_o, (oc12 o_th u_sa b_rf b_ro b_im b_ke u_fd b_tp u_td u_fr u_to u_so u_wo u_fa u_bd u_nc b_nl u_co b_op b_ar u_le b_pi b_pa u_pd u_od b_ws b_hw o_la b_se b_re o_bk o_va o_su o_ce o_ho o_wy o_bt o_ps b_pt o_tg o_sn b_ip o_ic b_ah b_be b_me o_wd b_tr b_ld u_st b_wn u_id)), (b_ro, (arI G 5740 v_ro)), (b_se, (arJ G 13 o_se)), (b_re, (arJ G 400 o_re)), (b_pt, (arI G 200 o_pt)), (b_ah, (arJ G 49152 o_ah)), (b_be, (arJ G 49152 o_be)), (b_me, (arI G 1536 o_me))]))) (g5_B G (va_A [(b_o, (oc12 u_th u_sa b_rf b_ro b_im b_ke u_fd b_tp u_td u_fr u_to u_so u_wo u_fa u_bd u_nc b_nl u_co b_op b_ar u_le b_pi b_pa u_pd u_od b_ws b_hw u_la b_se b_re u_bk u_va u_su u_ce u_ho u_wy u_bt u_ps b_pt u_tg u_sn b_ip u_ic b_ah b_be b_me u_wd b_tr b_ld u_st b_wn u_id)), (b_ro, (arI G 5740 v_ro)), (b_se, (arJ G 13 v_se)), (b_re, (arJ G 400 v_re)), (b_pt, (arI G 200 v_pt)), (b_ah, (arJ G 49152 v_ah)), (b_be, (arJ G 49152 v_be)), (b_me, (arI G 1536 v_me))] sz)) (va_A [(b_o, (oc12 u_th u_sa b_rf b_ro b_im b_ke u_fd b_tp u_td u_fr u_to u_so u_wo u_fa u_bd u_nc b_nl u_co b_op b_ar u_le b_pi b_pa u_pd u_od b_ws b_hw u_la b_se b_re u_bk u_va u_su u_ce u_ho u_wy u_bt u_ps b_pt u_tg u_sn b_ip u_ic b_ah b_be b_me u_wd b_tr b_ld u_st b_wn u_id)), (b_ro, (arI G 5740 v_ro)), (b_se, (arJ G 13 v_se)), (b_re, (arJ G 400 v_re)), (b_pt, (arI G 200 v_pt)), (b_ah, (arJ G 49152 v_ah)), (b_be, (arJ G 49152 v_be)), (b_me, (arI G 1536 v_me))] sz)) 0 0 (va_A [(b_o, (oc12 u_th u_sa b_rf b_ro b_im b_ke u_fd b_tp u_td u_fr u_to u_so u_wo u_fa u_bd u_nc b_nl u_co b_op b_ar u_le b_pi b_pa u_pd u_od b_ws b_hw u_la b_se b_re u_bk u_va u_su u_ce u_ho u_wy u_bt u_ps b_pt u_tg u_sn b_ip u_ic b_ah b_be b_me u_wd b_tr b_ld u_st b_wn u_id)), (b_ro, (arI G 5740 v_ro)), (b_se, (arJ G 13 v_se)), (b_re, (arJ G 400 v_re)), (b_pt, (arI G 200 v_pt)), (b_ah, (arJ G 49152 v_ah)), (b_be, (arJ G 49152 v_be)), (b_me, (arI G 1536 v_me))] sz) := by
  refine Met.ofW (cc := cX12_could) (maxL := 6) (ret := (some .long)) (by decide) rfl ?_
  intro p e s m args below meth c s₁ B hml hv
  obtain ⟨rfl, hsz, hP, hK, hD0, hN, hT⟩ := hv
  have hx := B.exec
  have hb := B.bytes
  have hr := B.returns
  have hts : ∀ w ∈ tblG, w.before _ s = true := fun w h => atoms_spec (ws := (wsG yX12_could cX12_could 6 (some .long))) B.pre w (List.mem_cons_of_mem _ h)
  have hown : s.vm.findClass RX12 = some m.cls := findClass_of_methodNamed B.named
  have hlocks := B.notSynchronized
  subst hsz
  have hD := hD0.self (sz := s.heap.size)
  generalize hAe : va_A [(b_o, (oc12 u_th u_sa b_rf b_ro b_im b_ke u_fd b_tp u_td u_fr u_to u_so u_wo u_fa u_bd u_nc b_nl u_co b_op b_ar u_le b_pi b_pa u_pd u_od b_ws b_hw u_la b_se b_re u_bk u_va u_su u_ce u_ho u_wy u_bt u_ps b_pt u_tg u_sn b_ip u_ic b_ah b_be b_me u_wd b_tr b_ld u_st b_wn u_id)), (b_ro, (arI G 5740 v_ro)), (b_se, (arJ G 13 v_se)), (b_re, (arJ G 400 v_re)), (b_pt, (arI G 200 v_pt)), (b_ah, (arJ G 49152 v_ah)), (b_be, (arJ G 49152 v_be)), (b_me, (arI G 1536 v_me))] s.heap.size = A at hD hT ⊢
  have hA : ∀ q : Nat, s.heap.size ≤ q → A q := fun q h => by rw [← hAe]; exact Or.inr h
  have hS : va_S A s.heap s.heap [] := va_S.rf
  have hP : va_P G.1 vwCl [(b_o, (oc12 u_th u_sa b_rf b_ro b_im b_ke u_fd b_tp u_td u_fr u_to u_so u_wo u_fa u_bd u_nc b_nl u_co b_op b_ar u_le b_pi b_pa u_pd u_od b_ws b_hw u_la b_se b_re u_bk u_va u_su u_ce u_ho u_wy u_bt u_ps b_pt u_tg u_sn b_ip u_ic b_ah b_be b_me u_wd b_tr b_ld u_st b_wn u_id)), (b_ro, (arI G 5740 v_ro)), (b_se, (arJ G 13 v_se)), (b_re, (arJ G 400 v_re)), (b_pt, (arI G 200 v_pt)), (b_ah, (arJ G 49152 v_ah)), (b_be, (arJ G 49152 v_be)), (b_me, (arI G 1536 v_me))] s.heap := hP
  have hl := lv_entry ([.ref b_o, .int p_1, .int p_2]) (n := 6) (Nat.le_of_ble_eq_true rfl)
  rw [lg_entry_eq]
  generalize (lg_sl ([.ref b_o, .int p_1, .int p_2]) ++ List.replicate (6 - (lg_sl ([.ref b_o, .int p_1, .int p_2])).length) Slot.unset).toArray = ls at hl ⊢
  have hl : lv_has ls 6 [(0, .ref b_o), (1, .int p_1), (2, .int p_2)] := hl
  refine lv_aload_n hx hb dX12_could_0 rfl (lv_at hl 0 rfl) ?_
  refine lv_iconst (v := 0) hx hb dX12_could_1 (by decide) ?_
  refine va_put (D := G.1) (ci := 12) (v := .int 0) (ty := .int) (C := RX12) (T := TX12) (N := 52) hx hb hts inG_X12 tyX12 tyX12_ok nmX12 hown hK hP hD hS 0 rfl rfl 0 (by decide) (hts _ fl_X12_107) (fun _ h9 => h9) rfl (by decide +kernel) rfl rfl (Nat.le_of_ble_eq_true rfl) dX12_could_2 (fun H locs hP hD hS => ?_)
  refine g5_rs [(b_o, (oc12 0 u_sa b_rf b_ro b_im b_ke u_fd b_tp u_td u_fr u_to u_so u_wo u_fa u_bd u_nc b_nl u_co b_op b_ar u_le b_pi b_pa u_pd u_od b_ws b_hw u_la b_se b_re u_bk u_va u_su u_ce u_ho u_wy u_bt u_ps b_pt u_tg u_sn b_ip u_ic b_ah b_be b_me u_wd b_tr b_ld u_st b_wn u_id)), (b_ro, (arI G 5740 v_ro)), (b_se, (arJ G 13 v_se)), (b_re, (arJ G 400 v_re)), (b_pt, (arI G 200 v_pt)), (b_ah, (arJ G 49152 v_ah)), (b_be, (arJ G 49152 v_be)), (b_me, (arI G 1536 v_me))] hP hD (fun hP hD => ?_)
  refine lv_iload_n hx hb dX12_could_5 rfl (lv_at hl 1 rfl) ?_
  obtain ⟨hPc, hDc, hFc⟩ := g5_sub3 (wc := []) hP hD hS hA [] (by decide) rfl
  refine va_calli (va_runS (As := [.int p_1]) (rest := []) ⟨hx, hb, hml, hown, hts⟩ (n_isHour l G H.size p_1) (va_cwS 1 hts gS_X12_175 rfl rfl rfl hs_X12_isHour ⟨Nat.le_of_ble_eq_true rfl, Nat.le_of_ble_eq_true rfl⟩) (g5_preS hPc hK hDc hN hT hS hFc) rfl rfl hl.1 rfl (lv_room (Nat.le_of_ble_eq_true rfl)) dX12_could_6 ⟨Nat.le_of_ble_eq_true rfl, Nat.le_of_ble_eq_true rfl⟩) hS (fun q _ h => hFc q h) hFc (fun r u t H1 locs ht hvm hw hB hz1 hk1 hS => ?_)
  obtain ⟨hP1, hD1⟩ := hB
  rw [ht] at hP1
  rcases hw with ⟨i_1, rfl, rfl⟩ | ⟨rfl, rfl⟩
  ·
    have i_1 : 0 ≤ p_1.toInt ∧ p_1.toInt ≤ 23 := i_1
    have hP := g5_same hP hk1
    generalize H1 = H at hP hS ⊢
    refine lv_if_eq (tgt := 26) hx hb dX12_could_9 (by decide) (fun c_2 => ?_) (fun c_2 => ?_)
    ·
      exact absurd c_2 (by decide)
    ·
      refine lv_iload_n hx hb dX12_could_12 rfl (lv_at hl 2 rfl) ?_
      refine lv_i2l (v := p_2.toInt64) hx hb dX12_could_13 rfl ?_
      refine lv_ldc2 (v := (-1)) hx hb hown (hts _ kl_X12_178) dX12_could_14 ?_
      refine lv_ldc2 (v := 63) hx hb hown (hts _ kl_X12_128) dX12_could_17 ?_
      obtain ⟨hPc, hDc, hFc⟩ := g5_sub3 (wc := []) hP hD hS hA [] (by decide) rfl
      refine va_calli (va_runS (As := [.long p_2.toInt64, .long (-1), .long 63]) (rest := []) ⟨hx, hb, hml, hown, hts⟩ (n_in_m1_63 l G H.size p_2) (va_cwS 3 hts gS_X12_121 rfl rfl rfl hs_X12_in ⟨Nat.le_of_ble_eq_true rfl, Nat.le_of_ble_eq_true rfl⟩) (g5_preS hPc hK hDc hN hT hS hFc) rfl rfl hl.1 rfl (lv_room (Nat.le_of_ble_eq_true rfl)) dX12_could_20 ⟨Nat.le_of_ble_eq_true rfl, Nat.le_of_ble_eq_true rfl⟩) hS (fun q _ h => hFc q h) hFc (fun r u t H1 locs ht hvm hw hB hz1 hk1 hS => ?_)
      obtain ⟨hP1, hD1⟩ := hB
      rw [ht] at hP1
      rcases hw with ⟨i_3, rfl, rfl⟩ | ⟨i_4, rfl, rfl⟩
      ·
        have i_3 : p_2.toInt < (-1) ∨ 63 < p_2.toInt := i_3
        have hP := g5_same hP hk1
        generalize H1 = H at hP hS ⊢
        refine lv_if_ne (tgt := 30) hx hb dX12_could_23 (by decide) (fun c_5 => ?_) (fun c_5 => ?_)
        ·
          exact absurd c_5 (by decide)
        ·
          refine lv_ldc2 (v := (-1)) hx hb hown (hts _ kl_X12_178) dX12_could_26 ?_
          exact W.lret (v := (-1)) hx hb hr (fun t ht hW => ⟨⟨(-1), [(b_o, (oc12 0 u_sa b_rf b_ro b_im b_ke u_fd b_tp u_td u_fr u_to u_so u_wo u_fa u_bd u_nc b_nl u_co b_op b_ar u_le b_pi b_pa u_pd u_od b_ws b_hw u_la b_se b_re u_bk u_va u_su u_ce u_ho u_wy u_bt u_ps b_pt u_tg u_sn b_ip u_ic b_ah b_be b_me u_wd b_tr b_ld u_st b_wn u_id)), (b_ro, (arI G 5740 v_ro)), (b_se, (arJ G 13 v_se)), (b_re, (arJ G 400 v_re)), (b_pt, (arI G 200 v_pt)), (b_ah, (arJ G 49152 v_ah)), (b_be, (arJ G 49152 v_be)), (b_me, (arI G 1536 v_me))], rfl, ⟨(-1), 0, u_la, u_bk, u_va, u_su, u_ce, u_ho, u_wy, u_bt, u_ps, u_tg, u_sn, u_ic, u_wd, v_se, v_re, v_pt, v_ah, v_be, v_me, h_u_la, h_u_bk, h_u_ce, h_u_ho, h_u_wy, h_u_bt, h_u_ps, r_pt, h_u_ic, r_me, e_ah, rfl, rfl⟩, by rw [ht]; exact hP.sub [0, 1, 2, 3, 4, 5, 6, 7] rfl, hD.sub [0, 1, 2, 3, 4, 5, 6, 7] (by decide) rfl⟩, hS.F ht⟩) hS.2.2 dX12_could_29
      ·
        have i_4 : (-1) ≤ p_2.toInt ∧ p_2.toInt ≤ 63 := i_4
        have hP := g5_same hP hk1
        generalize H1 = H at hP hS ⊢
        refine lv_if_ne (tgt := 30) hx hb dX12_could_23 (by decide) (fun c_6 => ?_) (fun c_6 => ?_)
        ·
          refine lv_aload_n hx hb dX12_could_30 rfl (lv_at hl 0 rfl) ?_
          obtain ⟨hPc, hDc, hFc⟩ := g5_sub3 (wc := [(b_o, (oc12 0 u_sa b_rf b_ro b_im b_ke u_fd b_tp u_td u_fr u_to u_so u_wo u_fa u_bd u_nc b_nl u_co b_op b_ar u_le b_pi b_pa u_pd u_od b_ws b_hw u_la b_se b_re u_bk u_va u_su u_ce u_ho u_wy u_bt u_ps b_pt u_tg u_sn b_ip u_ic b_ah b_be b_me u_wd b_tr b_ld u_st b_wn u_id)), (b_ro, (arI G 5740 v_ro)), (b_se, (arJ G 13 v_se)), (b_re, (arJ G 400 v_re)), (b_pt, (arI G 200 v_pt)), (b_ah, (arJ G 49152 v_ah)), (b_be, (arJ G 49152 v_be)), (b_me, (arI G 1536 v_me))]) hP hD hS hA [0, 1, 2, 3, 4, 5, 6, 7] (by decide) rfl
          refine va_callv (va_runV (As := []) (rest := []) ⟨hx, hb, hml, hown, hts⟩ (n_countRowsP l G b_o b_ro b_se b_re b_pt b_ah b_be b_me b_rf b_im b_ke b_tp b_nl b_op b_ar b_pi b_pa b_ws b_hw b_ip b_tr b_ld b_wn H.size 0 u_sa u_fd u_td u_fr u_to u_so u_fa u_bd u_nc u_co u_le u_pd u_od u_la u_bk u_ce u_ho u_wy u_bt u_ps u_tg u_sn u_ic u_wd u_id u_wo u_va u_su u_st v_ro v_se v_re v_pt v_ah v_be v_me h_u_td h_u_fr h_u_to h_u_bd h_u_nc h_u_co h_u_pd h_u_la h_u_bk h_u_ce h_u_ho h_u_wy h_u_bt h_u_ps h_u_ic h_u_id (r_ro) (r_pt) (r_me) (e_ah)) (cwV 0 hts gV_X12_444 rfl rfl rfl hv_X12_countRows ⟨Nat.le_of_ble_eq_true rfl, Nat.le_of_ble_eq_true rfl⟩) (g5_preV hPc hK hDc hN hT hS hFc (ci := 12) (q0 := 0) rfl rfl) rfl rfl hl.1 rfl (lv_room (Nat.le_of_ble_eq_true rfl)) dX12_could_31 ⟨Nat.le_of_ble_eq_true rfl, Nat.le_of_ble_eq_true rfl⟩) hS (fun q _ h => hFc q h) hFc (fun u t H1 locs ht hvm hw hB hz1 hk1 hS => ?_)
          obtain ⟨hP1, hD1⟩ := hB
          rw [ht] at hP1
          obtain ⟨z18, z19, z20, z21, z22, z23, z24, z25, z26, z27, z28, z29, z30, z31, z32, z33, z34, z35, z36, i_7, i_8, i_9, i_10, i_11, i_12, i_13, i_14, i_15, i_16, i_17, rfl⟩ := hw
          have i_7 : 0 ≤ z18.toInt ∧ z18.toInt ≤ 4840 := i_7
          have i_8 : 0 ≤ z19.toInt ∧ z19.toInt ≤ 1 := i_8
          have i_9 : 0 ≤ z22.toInt ∧ z22.toInt ≤ 63 := i_9
          have i_10 : 0 ≤ z23.toInt ∧ z23.toInt ≤ 23 := i_10
          have i_11 : 0 ≤ z24.toInt ∧ z24.toInt ≤ 3 := i_11
          have i_12 : 0 ≤ z25.toInt ∧ z25.toInt ≤ 1000000 := i_12
          have i_13 : 0 ≤ z26.toInt ∧ z26.toInt ≤ 200 := i_13
          have i_14 : PTI z33 := i_14
          have i_15 : 0 ≤ z29.toInt ∧ z29.toInt ≤ 1 := i_15
          have i_16 : MEI z36 := i_16
          have i_17 : AH0 z34 z36 := i_17
          obtain ⟨hP, hD⟩ := va_join (wr := []) hP hD [0, 1, 2, 3, 4, 5, 6, 7] [] rfl rfl (by decide) (by decide) hk1 hFc hP1 hD1
          generalize H1 = H at hP hS ⊢
          refine g5_rs [(b_o, (oc12 0 u_sa b_rf b_ro b_im b_ke u_fd b_tp u_td u_fr u_to u_so u_wo u_fa u_bd u_nc b_nl u_co b_op b_ar u_le b_pi b_pa u_pd u_od b_ws b_hw z18 b_se b_re z19 z20 z21 z22 z23 z24 z25 z26 b_pt z27 z28 b_ip z29 b_ah b_be b_me z30 b_tr b_ld u_st b_wn u_id)), (b_ro, (arI G 5740 v_ro)), (b_se, (arJ G 13 z31)), (b_re, (arJ G 400 z32)), (b_pt, (arI G 200 z33)), (b_ah, (arJ G 49152 z34)), (b_be, (arJ G 49152 z35)), (b_me, (arI G 1536 z36))] hP hD (fun hP hD => ?_)
          refine lv_iload_n hx hb dX12_could_34 rfl (lv_at hl 2 rfl) ?_
          refine lv_iconst (v := (-1)) hx hb dX12_could_35 (by decide) ?_
          refine lv_icmp_eq (tgt := 46) hx hb dX12_could_36 (by decide) (fun c_37 => ?_) (fun c_37 => ?_)
          ·
            have i_37 : p_2.toInt = (-1) := by have z := g5_eq (a := p_2.toInt) (b := (-1)) (by rfl) (by decide) c_37; omega
            refine lv_lconst (v := 0) hx hb dX12_could_46 (by decide) ?_
            refine lv_lstore_n (lv' := [(3, .long 0), (0, .ref b_o), (1, .int p_1), (2, .int p_2)]) hx hb dX12_could_47 rfl hl (by decide) rfl (fun ls hl => ?_)
            refine lv_iconst (v := 0) hx hb dX12_could_48 (by decide) ?_
            refine lv_istore (lv' := [(5, .int 0), (3, .long 0), (0, .ref b_o), (1, .int p_1), (2, .int p_2)]) hx hb dX12_could_49 hl (by decide) rfl (fun ls hl => ?_)
            refine g5_loop (α := (Int32) × (Int64)) (fun (q : (Int32) × (Int64)) (ls : Array Slot) (H : Heap) (locs : List Loc) => match q with | (k51_5, k51_3) => lv_has ls 6 [(3, .long k51_3), (5, .int k51_5), (0, .ref b_o), (1, .int p_1), (2, .int p_2)] ∧ va_P G.1 vwCl [(b_o, (oc12 0 u_sa b_rf b_ro b_im b_ke u_fd b_tp u_td u_fr u_to u_so u_wo u_fa u_bd u_nc b_nl u_co b_op b_ar u_le b_pi b_pa u_pd u_od b_ws b_hw z18 b_se b_re z19 z20 z21 z22 z23 z24 z25 z26 b_pt z27 z28 b_ip z29 b_ah b_be b_me z30 b_tr b_ld u_st b_wn u_id)), (b_ro, (arI G 5740 v_ro)), (b_se, (arJ G 13 z31)), (b_re, (arJ G 400 z32)), (b_pt, (arI G 200 z33)), (b_ah, (arJ G 49152 z34)), (b_be, (arJ G 49152 z35)), (b_me, (arI G 1536 z36))] H ∧ va_D A [(b_o, (oc12 0 u_sa b_rf b_ro b_im b_ke u_fd b_tp u_td u_fr u_to u_so u_wo u_fa u_bd u_nc b_nl u_co b_op b_ar u_le b_pi b_pa u_pd u_od b_ws b_hw z18 b_se b_re z19 z20 z21 z22 z23 z24 z25 z26 b_pt z27 z28 b_ip z29 b_ah b_be b_me z30 b_tr b_ld u_st b_wn u_id)), (b_ro, (arI G 5740 v_ro)), (b_se, (arJ G 13 z31)), (b_re, (arJ G 400 z32)), (b_pt, (arI G 200 z33)), (b_ah, (arJ G 49152 z34)), (b_be, (arJ G 49152 z35)), (b_me, (arI G 1536 z36))] ∧ va_S A s.heap H locs ∧ (0 ≤ k51_5.toInt ∧ k51_5.toInt ≤ 64)) (fun (q : (Int32) × (Int64)) => match q with | (k51_5, k51_3) => Int.toNat (64 - k51_5.toInt)) (0, 0) ⟨lv_sub hl [1, 0, 2, 3, 4] rfl, hP, hD, hS, ⟨by decide, by decide⟩⟩ ?_
            rintro ⟨k51_5, k51_3⟩ ls H locs ⟨hl, hP, hD, hS, i_38⟩ ih_51_39
            have hl : lv_has ls 6 [(3, .long k51_3), (5, .int k51_5), (0, .ref b_o), (1, .int p_1), (2, .int p_2)] := hl
            have i_38 : 0 ≤ k51_5.toInt ∧ k51_5.toInt ≤ 64 := i_38
            refine g5_rs [(b_o, (oc12 0 u_sa b_rf b_ro b_im b_ke u_fd b_tp u_td u_fr u_to u_so u_wo u_fa u_bd u_nc b_nl u_co b_op b_ar u_le b_pi b_pa u_pd u_od b_ws b_hw z18 b_se b_re z19 z20 z21 z22 z23 z24 z25 z26 b_pt z27 z28 b_ip z29 b_ah b_be b_me z30 b_tr b_ld u_st b_wn u_id)), (b_ro, (arI G 5740 v_ro)), (b_se, (arJ G 13 z31)), (b_re, (arJ G 400 z32)), (b_pt, (arI G 200 z33)), (b_ah, (arJ G 49152 z34)), (b_be, (arJ G 49152 z35)), (b_me, (arI G 1536 z36))] hP hD (fun hP hD => ?_)
            refine lv_iload hx hb dX12_could_51 (lv_at hl 1 rfl) ?_
            refine lv_bipush (v := 64) hx hb dX12_could_53 (by decide) ?_
            refine lv_icmp_ge (tgt := 84) hx hb dX12_could_55 (by decide) (fun c_40 => ?_) (fun c_40 => ?_)
            ·
              have i_40 : k51_5.toInt ≥ 64 := by have z := g5_ge (a := k51_5.toInt) (b := 64) (by rfl) (by decide) c_40; omega
              refine lv_lload_n hx hb dX12_could_84 rfl (lv_at hl 0 rfl) ?_
              exact W.lret (v := k51_3) hx hb hr (fun t ht hW => ⟨⟨k51_3, [(b_o, (oc12 0 u_sa b_rf b_ro b_im b_ke u_fd b_tp u_td u_fr u_to u_so u_wo u_fa u_bd u_nc b_nl u_co b_op b_ar u_le b_pi b_pa u_pd u_od b_ws b_hw z18 b_se b_re z19 z20 z21 z22 z23 z24 z25 z26 b_pt z27 z28 b_ip z29 b_ah b_be b_me z30 b_tr b_ld u_st b_wn u_id)), (b_ro, (arI G 5740 v_ro)), (b_se, (arJ G 13 z31)), (b_re, (arJ G 400 z32)), (b_pt, (arI G 200 z33)), (b_ah, (arJ G 49152 z34)), (b_be, (arJ G 49152 z35)), (b_me, (arI G 1536 z36))], rfl, ⟨k51_3, 0, z18, z19, z20, z21, z22, z23, z24, z25, z26, z27, z28, z29, z30, z31, z32, z33, z34, z35, z36, i_7, i_8, i_9, i_10, i_11, i_12, i_13, i_14, i_15, i_16, i_17, rfl, rfl⟩, by rw [ht]; exact hP.sub [0, 1, 2, 3, 4, 5, 6, 7] rfl, hD.sub [0, 1, 2, 3, 4, 5, 6, 7] (by decide) rfl⟩, hS.F ht⟩) hS.2.2 dX12_could_85
            ·
              have i_40 : k51_5.toInt < 64 := by have z := g5_geN (a := k51_5.toInt) (b := 64) (by rfl) (by decide) c_40; omega
              refine lv_lload_n hx hb dX12_could_58 rfl (lv_at hl 0 rfl) ?_
              refine lv_aload_n hx hb dX12_could_59 rfl (lv_at hl 2 rfl) ?_
              refine lv_iload_n hx hb dX12_could_60 rfl (lv_at hl 3 rfl) ?_
              refine lv_iload hx hb dX12_could_61 (lv_at hl 1 rfl) ?_
              obtain ⟨hPc, hDc, hFc⟩ := g5_sub3 (wc := [(b_o, (oc12 0 u_sa b_rf b_ro b_im b_ke u_fd b_tp u_td u_fr u_to u_so u_wo u_fa u_bd u_nc b_nl u_co b_op b_ar u_le b_pi b_pa u_pd u_od b_ws b_hw z18 b_se b_re z19 z20 z21 z22 z23 z24 z25 z26 b_pt z27 z28 b_ip z29 b_ah b_be b_me z30 b_tr b_ld u_st b_wn u_id)), (b_ah, (arJ G 49152 z34)), (b_be, (arJ G 49152 z35))]) hP hD hS hA [0, 5, 6] (by decide) rfl
              refine va_calll (va_runV (As := [.int p_1, .int k51_5]) (rest := [.long k51_3]) ⟨hx, hb, hml, hown, hts⟩ (n_rowsAt l G b_o b_ah b_be b_rf b_ro b_im b_ke b_tp b_nl b_op b_ar b_pi b_pa b_ws b_hw b_se b_re b_pt b_ip b_me b_tr b_ld b_wn H.size 0 u_sa u_fd u_td u_fr u_to u_so u_fa u_bd u_nc u_co u_le u_pd u_od z18 z19 z22 z23 z24 z25 z26 z27 z28 z29 z30 u_id p_1 k51_5 u_wo z20 z21 u_st z34 z35 h_u_td h_u_fr h_u_to h_u_bd h_u_nc h_u_co h_u_pd i_7 i_8 i_9 i_10 i_11 i_12 i_13 i_15 h_u_id i_1 ⟨by omega, by omega⟩) (cwV 2 hts gV_X12_440 rfl rfl rfl hv_X12_rowsAt ⟨Nat.le_of_ble_eq_true rfl, Nat.le_of_ble_eq_true rfl⟩) (g5_preV hPc hK hDc hN hT hS hFc (ci := 12) (q0 := 0) rfl rfl) rfl rfl hl.1 rfl (lv_room (Nat.le_of_ble_eq_true rfl)) dX12_could_63 ⟨Nat.le_of_ble_eq_true rfl, Nat.le_of_ble_eq_true rfl⟩) hS (fun q _ h => hFc q h) hFc (fun r u t H1 locs ht hvm hw hB hz1 hk1 hS => ?_)
              obtain ⟨hP1, hD1⟩ := hB
              rw [ht] at hP1
              obtain ⟨z41, y42, rfl⟩ := hw
              obtain ⟨hP, hD⟩ := va_join (wr := [(b_ro, (arI G 5740 v_ro)), (b_se, (arJ G 13 z31)), (b_re, (arJ G 400 z32)), (b_pt, (arI G 200 z33)), (b_me, (arI G 1536 z36))]) hP hD [0, 5, 6] [1, 2, 3, 4, 7] rfl rfl (by decide) (by decide) hk1 hFc hP1 hD1
              generalize H1 = H at hP hS ⊢
              refine g5_rs [(b_ro, (arI G 5740 v_ro)), (b_se, (arJ G 13 z31)), (b_re, (arJ G 400 z32)), (b_pt, (arI G 200 z33)), (b_me, (arI G 1536 z36)), (b_o, (oc12 0 u_sa b_rf b_ro b_im b_ke u_fd b_tp u_td u_fr u_to u_so u_wo u_fa u_bd u_nc b_nl u_co b_op b_ar u_le b_pi b_pa u_pd u_od b_ws b_hw z18 b_se b_re z19 z20 z21 z22 z23 z24 z25 z26 b_pt z27 z28 b_ip z29 b_ah b_be b_me z30 b_tr b_ld u_st b_wn u_id)), (b_ah, (arJ G 49152 z34)), (b_be, (arJ G 49152 z35))] hP hD (fun hP hD => ?_)
              refine g5_tl (v := z41) y42 ?_
              refine lv_lconst (v := 0) hx hb dX12_could_66 (by decide) ?_
              refine W.lcmp hx hb dX12_could_67 ?_
              refine lv_if_le (tgt := 75) hx hb dX12_could_68 (by decide) (fun c_43 => ?_) (fun c_43 => ?_)
              ·
                have i_43 : (lg_cmp z41 0).toInt ≤ 0 := by have z := g5_le (a := (lg_cmp z41 0).toInt) (b := 0) (by rfl) (by decide) c_43; omega
                refine lv_lconst (v := 0) hx hb dX12_could_75 (by decide) ?_
                refine lv_ladd hx hb dX12_could_76 ?_
                refine lv_lstore_n (lv' := [(3, .long (k51_3 + 0)), (5, .int k51_5), (0, .ref b_o), (1, .int p_1), (2, .int p_2)]) hx hb dX12_could_77 rfl hl (by decide) rfl (fun ls hl => ?_)
                refine lv_iinc (v := (k51_5 + 1)) (lv' := [(5, .int (k51_5 + 1)), (3, .long (k51_3 + 0)), (0, .ref b_o), (1, .int p_1), (2, .int p_2)]) hx hb dX12_could_78 hl (k := 1) rfl rfl (by decide) rfl (fun ls hl => ?_)
                have t_44 : (k51_5 + 1).toInt = k51_5.toInt + 1 := g5_iadd (a := k51_5.toInt) (b := 1) rfl (by decide) (by omega) (by omega)
                refine lv_goto (tgt := 51) hx hb dX12_could_81 (by decide) ?_
                exact ih_51_39 ((k51_5 + 1), (k51_3 + 0)) ls H locs (show Int.toNat (64 - (k51_5 + 1).toInt) < Int.toNat (64 - k51_5.toInt) from g_up (show k51_5.toInt < (k51_5 + 1).toInt by omega) (show k51_5.toInt < 64 by omega)) ⟨lv_sub hl [1, 0, 2, 3, 4] rfl, hP.sub [5, 0, 1, 2, 3, 6, 7, 4] rfl, hD.sub [5, 0, 1, 2, 3, 6, 7, 4] (by decide) rfl, hS, ⟨by omega, by omega⟩⟩
              ·
                have i_43 : (lg_cmp z41 0).toInt > 0 := by have z := g5_leN (a := (lg_cmp z41 0).toInt) (b := 0) (by rfl) (by decide) c_43; omega
                refine lv_lconst (v := 1) hx hb dX12_could_71 (by decide) ?_
                refine lv_goto (tgt := 76) hx hb dX12_could_72 (by decide) ?_
                refine lv_ladd hx hb dX12_could_76 ?_
                refine lv_lstore_n (lv' := [(3, .long (k51_3 + 1)), (5, .int k51_5), (0, .ref b_o), (1, .int p_1), (2, .int p_2)]) hx hb dX12_could_77 rfl hl (by decide) rfl (fun ls hl => ?_)
                refine lv_iinc (v := (k51_5 + 1)) (lv' := [(5, .int (k51_5 + 1)), (3, .long (k51_3 + 1)), (0, .ref b_o), (1, .int p_1), (2, .int p_2)]) hx hb dX12_could_78 hl (k := 1) rfl rfl (by decide) rfl (fun ls hl => ?_)
                have t_45 : (k51_5 + 1).toInt = k51_5.toInt + 1 := g5_iadd (a := k51_5.toInt) (b := 1) rfl (by decide) (by omega) (by omega)
                refine lv_goto (tgt := 51) hx hb dX12_could_81 (by decide) ?_
                exact ih_51_39 ((k51_5 + 1), (k51_3 + 1)) ls H locs (show Int.toNat (64 - (k51_5 + 1).toInt) < Int.toNat (64 - k51_5.toInt) from g_up (show k51_5.toInt < (k51_5 + 1).toInt by omega) (show k51_5.toInt < 64 by omega)) ⟨lv_sub hl [1, 0, 2, 3, 4] rfl, hP.sub [5, 0, 1, 2, 3, 6, 7, 4] rfl, hD.sub [5, 0, 1, 2, 3, 6, 7, 4] (by decide) rfl, hS, ⟨by omega, by omega⟩⟩
          ·
            have n_37 : gNe (p_2.toInt) ((-1)) := by have z := g5_eqN (a := p_2.toInt) (b := (-1)) (by rfl) (by decide) c_37; unfold gNe; omega
            have i_37 : p_2.toInt ≥ 0 := by have z := g5_eqN (a := p_2.toInt) (b := (-1)) (by rfl) (by decide) c_37; omega
            refine lv_aload_n hx hb dX12_could_39 rfl (lv_at hl 0 rfl) ?_
            refine lv_iload_n hx hb dX12_could_40 rfl (lv_at hl 1 rfl) ?_
            refine lv_iload_n hx hb dX12_could_41 rfl (lv_at hl 2 rfl) ?_
            obtain ⟨hPc, hDc, hFc⟩ := g5_sub3 (wc := [(b_o, (oc12 0 u_sa b_rf b_ro b_im b_ke u_fd b_tp u_td u_fr u_to u_so u_wo u_fa u_bd u_nc b_nl u_co b_op b_ar u_le b_pi b_pa u_pd u_od b_ws b_hw z18 b_se b_re z19 z20 z21 z22 z23 z24 z25 z26 b_pt z27 z28 b_ip z29 b_ah b_be b_me z30 b_tr b_ld u_st b_wn u_id)), (b_ah, (arJ G 49152 z34)), (b_be, (arJ G 49152 z35))]) hP hD hS hA [0, 5, 6] (by decide) rfl
            refine va_calll (va_runV (As := [.int p_1, .int p_2]) (rest := []) ⟨hx, hb, hml, hown, hts⟩ (n_rowsAt l G b_o b_ah b_be b_rf b_ro b_im b_ke b_tp b_nl b_op b_ar b_pi b_pa b_ws b_hw b_se b_re b_pt b_ip b_me b_tr b_ld b_wn H.size 0 u_sa u_fd u_td u_fr u_to u_so u_fa u_bd u_nc u_co u_le u_pd u_od z18 z19 z22 z23 z24 z25 z26 z27 z28 z29 z30 u_id p_1 p_2 u_wo z20 z21 u_st z34 z35 h_u_td h_u_fr h_u_to h_u_bd h_u_nc h_u_co h_u_pd i_7 i_8 i_9 i_10 i_11 i_12 i_13 i_15 h_u_id i_1 ⟨by omega, by omega⟩) (cwV 2 hts gV_X12_440 rfl rfl rfl hv_X12_rowsAt ⟨Nat.le_of_ble_eq_true rfl, Nat.le_of_ble_eq_true rfl⟩) (g5_preV hPc hK hDc hN hT hS hFc (ci := 12) (q0 := 0) rfl rfl) rfl rfl hl.1 rfl (lv_room (Nat.le_of_ble_eq_true rfl)) dX12_could_42 ⟨Nat.le_of_ble_eq_true rfl, Nat.le_of_ble_eq_true rfl⟩) hS (fun q _ h => hFc q h) hFc (fun r u t H1 locs ht hvm hw hB hz1 hk1 hS => ?_)
            obtain ⟨hP1, hD1⟩ := hB
            rw [ht] at hP1
            obtain ⟨z46, y47, rfl⟩ := hw
            obtain ⟨hP, hD⟩ := va_join (wr := [(b_ro, (arI G 5740 v_ro)), (b_se, (arJ G 13 z31)), (b_re, (arJ G 400 z32)), (b_pt, (arI G 200 z33)), (b_me, (arI G 1536 z36))]) hP hD [0, 5, 6] [1, 2, 3, 4, 7] rfl rfl (by decide) (by decide) hk1 hFc hP1 hD1
            generalize H1 = H at hP hS ⊢
            refine g5_rs [(b_ro, (arI G 5740 v_ro)), (b_se, (arJ G 13 z31)), (b_re, (arJ G 400 z32)), (b_pt, (arI G 200 z33)), (b_me, (arI G 1536 z36)), (b_o, (oc12 0 u_sa b_rf b_ro b_im b_ke u_fd b_tp u_td u_fr u_to u_so u_wo u_fa u_bd u_nc b_nl u_co b_op b_ar u_le b_pi b_pa u_pd u_od b_ws b_hw z18 b_se b_re z19 z20 z21 z22 z23 z24 z25 z26 b_pt z27 z28 b_ip z29 b_ah b_be b_me z30 b_tr b_ld u_st b_wn u_id)), (b_ah, (arJ G 49152 z34)), (b_be, (arJ G 49152 z35))] hP hD (fun hP hD => ?_)
            refine g5_tl (v := z46) y47 ?_
            exact W.lret (v := z46) hx hb hr (fun t ht hW => ⟨⟨z46, [(b_o, (oc12 0 u_sa b_rf b_ro b_im b_ke u_fd b_tp u_td u_fr u_to u_so u_wo u_fa u_bd u_nc b_nl u_co b_op b_ar u_le b_pi b_pa u_pd u_od b_ws b_hw z18 b_se b_re z19 z20 z21 z22 z23 z24 z25 z26 b_pt z27 z28 b_ip z29 b_ah b_be b_me z30 b_tr b_ld u_st b_wn u_id)), (b_ro, (arI G 5740 v_ro)), (b_se, (arJ G 13 z31)), (b_re, (arJ G 400 z32)), (b_pt, (arI G 200 z33)), (b_ah, (arJ G 49152 z34)), (b_be, (arJ G 49152 z35)), (b_me, (arI G 1536 z36))], rfl, ⟨z46, 0, z18, z19, z20, z21, z22, z23, z24, z25, z26, z27, z28, z29, z30, z31, z32, z33, z34, z35, z36, i_7, i_8, i_9, i_10, i_11, i_12, i_13, i_14, i_15, i_16, i_17, rfl, rfl⟩, by rw [ht]; exact hP.sub [5, 0, 1, 2, 3, 6, 7, 4] rfl, hD.sub [5, 0, 1, 2, 3, 6, 7, 4] (by decide) rfl⟩, hS.F ht⟩) hS.2.2 dX12_could_45
        ·
          exact absurd c_6 (by decide)
  ·
    have hP := g5_same hP hk1
    generalize H1 = H at hP hS ⊢
    refine lv_if_eq (tgt := 26) hx hb dX12_could_9 (by decide) (fun c_48 => ?_) (fun c_48 => ?_)
    ·
      refine lv_ldc2 (v := (-1)) hx hb hown (hts _ kl_X12_178) dX12_could_26 ?_
      exact W.lret (v := (-1)) hx hb hr (fun t ht hW => ⟨⟨(-1), [(b_o, (oc12 0 u_sa b_rf b_ro b_im b_ke u_fd b_tp u_td u_fr u_to u_so u_wo u_fa u_bd u_nc b_nl u_co b_op b_ar u_le b_pi b_pa u_pd u_od b_ws b_hw u_la b_se b_re u_bk u_va u_su u_ce u_ho u_wy u_bt u_ps b_pt u_tg u_sn b_ip u_ic b_ah b_be b_me u_wd b_tr b_ld u_st b_wn u_id)), (b_ro, (arI G 5740 v_ro)), (b_se, (arJ G 13 v_se)), (b_re, (arJ G 400 v_re)), (b_pt, (arI G 200 v_pt)), (b_ah, (arJ G 49152 v_ah)), (b_be, (arJ G 49152 v_be)), (b_me, (arI G 1536 v_me))], rfl, ⟨(-1), 0, u_la, u_bk, u_va, u_su, u_ce, u_ho, u_wy, u_bt, u_ps, u_tg, u_sn, u_ic, u_wd, v_se, v_re, v_pt, v_ah, v_be, v_me, h_u_la, h_u_bk, h_u_ce, h_u_ho, h_u_wy, h_u_bt, h_u_ps, r_pt, h_u_ic, r_me, e_ah, rfl, rfl⟩, by rw [ht]; exact hP.sub [0, 1, 2, 3, 4, 5, 6, 7] rfl, hD.sub [0, 1, 2, 3, 4, 5, 6, 7] (by decide) rfl⟩, hS.F ht⟩) hS.2.2 dX12_could_29
    ·
      exact absurd c_48 (by decide)
set_option maxHeartbeats 4000000 in
set_option maxRecDepth 100000 in
theorem n_rowsAt0 (l : Launch) (G : g5_G) (b_o b_ah b_be b_me b_rf b_ro b_im b_ke b_tp b_nl b_op b_ar b_pi b_pa b_ws b_hw b_se b_re b_pt b_ip b_tr b_ld b_wn : Nat) (sz : Nat) (u_th : Int32) (u_sa : Int32) (u_fd : Int32) (u_td : Int32) (u_fr : Int32) (u_to : Int32) (u_so : Int32) (u_fa : Int32) (u_bd : Int32) (u_nc : Int32) (u_co : Int32) (u_le : Int32) (u_pd : Int32) (u_od : Int32) (u_la : Int32) (u_bk : Int32) (u_ce : Int32) (u_ho : Int32) (u_wy : Int32) (u_bt : Int32) (u_ps : Int32) (u_tg : Int32) (u_sn : Int32) (u_ic : Int32) (u_wd : Int32) (u_id : Int32) (p_2 : Int32) (u_wo : Int64) (u_va : Int64) (u_su : Int64) (u_st : Int64) (v_ah : Nat → Int64) (v_be : Nat → Int64) (v_me : Nat → Int32) (h_u_td : 0 ≤ u_td.toInt ∧ u_td.toInt ≤ 400) (h_u_fr : 0 ≤ u_fr.toInt ∧ u_fr.toInt ≤ 400) (h_u_to : 0 ≤ u_to.toInt ∧ u_to.toInt ≤ 400) (h_u_bd : 0 ≤ u_bd.toInt ∧ u_bd.toInt ≤ 1) (h_u_nc : 0 ≤ u_nc.toInt ∧ u_nc.toInt ≤ 12) (h_u_co : 0 ≤ u_co.toInt ∧ u_co.toInt ≤ 400) (h_u_pd : 0 ≤ u_pd.toInt ∧ u_pd.toInt ≤ 400) (h_u_la : 0 ≤ u_la.toInt ∧ u_la.toInt ≤ 4840) (h_u_bk : 0 ≤ u_bk.toInt ∧ u_bk.toInt ≤ 1) (h_u_ce : 0 ≤ u_ce.toInt ∧ u_ce.toInt ≤ 63) (h_u_ho : 0 ≤ u_ho.toInt ∧ u_ho.toInt ≤ 23) (h_u_wy : 0 ≤ u_wy.toInt ∧ u_wy.toInt ≤ 3) (h_u_bt : 0 ≤ u_bt.toInt ∧ u_bt.toInt ≤ 1000000) (h_u_ps : 0 ≤ u_ps.toInt ∧ u_ps.toInt ≤ 200) (h_u_ic : 0 ≤ u_ic.toInt ∧ u_ic.toInt ≤ 1) (h_u_id : 0 ≤ u_id.toInt ∧ u_id.toInt ≤ 1) (h_p_2 : 0 ≤ p_2.toInt ∧ p_2.toInt ≤ 63) (e_ah : AH0 v_ah v_me) : Met l yX12_rowsAt (wsG yX12_rowsAt cX12_rowsAt 7 (some .long)) ({ frames := 0, cells := 0, slots := 0, locals := 0 }) (va_Pc [.ref b_o, .int 0, .int p_2] (g5_P G [(b_o, (oc12 u_th u_sa b_rf b_ro b_im b_ke u_fd b_tp u_td u_fr u_to u_so u_wo u_fa u_bd u_nc b_nl u_co b_op b_ar u_le b_pi b_pa u_pd u_od b_ws b_hw u_la b_se b_re u_bk u_va u_su u_ce u_ho u_wy u_bt u_ps b_pt u_tg u_sn b_ip u_ic b_ah b_be b_me u_wd b_tr b_ld u_st b_wn u_id)), (b_ah, (arJ G 49152 v_ah)), (b_be, (arJ G 49152 v_be)), (b_me, (arI G 1536 v_me))] sz)) (va_Ql (fun (r : Int64) (u : va_W) => (∃ (o_r : Int64), (64 ≤ (v_me p_2.toNatClampNeg).toInt → o_r = 0) ∧ (r = o_r) ∧ (u = [(b_o, (oc12 u_th u_sa b_rf b_ro b_im b_ke u_fd b_tp u_td u_fr u_to u_so u_wo u_fa u_bd u_nc b_nl u_co b_op b_ar u_le b_pi b_pa u_pd u_od b_ws b_hw u_la b_se b_re u_bk u_va u_su u_ce u_ho u_wy u_bt u_ps b_pt u_tg u_sn b_ip u_ic b_ah b_be b_me u_wd b_tr b_ld u_st b_wn u_id)), (b_ah, (arJ G 49152 v_ah)), (b_be, (arJ G 49152 v_be)), (b_me, (arI G 1536 v_me))]))) (g5_B G (va_A [(b_o, (oc12 u_th u_sa b_rf b_ro b_im b_ke u_fd b_tp u_td u_fr u_to u_so u_wo u_fa u_bd u_nc b_nl u_co b_op b_ar u_le b_pi b_pa u_pd u_od b_ws b_hw u_la b_se b_re u_bk u_va u_su u_ce u_ho u_wy u_bt u_ps b_pt u_tg u_sn b_ip u_ic b_ah b_be b_me u_wd b_tr b_ld u_st b_wn u_id)), (b_ah, (arJ G 49152 v_ah)), (b_be, (arJ G 49152 v_be)), (b_me, (arI G 1536 v_me))] sz)) (va_A [(b_o, (oc12 u_th u_sa b_rf b_ro b_im b_ke u_fd b_tp u_td u_fr u_to u_so u_wo u_fa u_bd u_nc b_nl u_co b_op b_ar u_le b_pi b_pa u_pd u_od b_ws b_hw u_la b_se b_re u_bk u_va u_su u_ce u_ho u_wy u_bt u_ps b_pt u_tg u_sn b_ip u_ic b_ah b_be b_me u_wd b_tr b_ld u_st b_wn u_id)), (b_ah, (arJ G 49152 v_ah)), (b_be, (arJ G 49152 v_be)), (b_me, (arI G 1536 v_me))] sz)) 0 0 (va_A [(b_o, (oc12 u_th u_sa b_rf b_ro b_im b_ke u_fd b_tp u_td u_fr u_to u_so u_wo u_fa u_bd u_nc b_nl u_co b_op b_ar u_le b_pi b_pa u_pd u_od b_ws b_hw u_la b_se b_re u_bk u_va u_su u_ce u_ho u_wy u_bt u_ps b_pt u_tg u_sn b_ip u_ic b_ah b_be b_me u_wd b_tr b_ld u_st b_wn u_id)), (b_ah, (arJ G 49152 v_ah)), (b_be, (arJ G 49152 v_be)), (b_me, (arI G 1536 v_me))] sz) := by
  refine Met.ofW (cc := cX12_rowsAt) (maxL := 7) (ret := (some .long)) (by decide) rfl ?_
  intro p e s m args below meth c s₁ B hml hv
  obtain ⟨rfl, hsz, hP, hK, hD0, hN, hT⟩ := hv
  have hx := B.exec
  have hb := B.bytes
  have hr := B.returns
  have hts : ∀ w ∈ tblG, w.before _ s = true := fun w h => atoms_spec (ws := (wsG yX12_rowsAt cX12_rowsAt 7 (some .long))) B.pre w (List.mem_cons_of_mem _ h)
  have hown : s.vm.findClass RX12 = some m.cls := findClass_of_methodNamed B.named
  have hlocks := B.notSynchronized
  subst hsz
  have hD := hD0.self (sz := s.heap.size)
  generalize hAe : va_A [(b_o, (oc12 u_th u_sa b_rf b_ro b_im b_ke u_fd b_tp u_td u_fr u_to u_so u_wo u_fa u_bd u_nc b_nl u_co b_op b_ar u_le b_pi b_pa u_pd u_od b_ws b_hw u_la b_se b_re u_bk u_va u_su u_ce u_ho u_wy u_bt u_ps b_pt u_tg u_sn b_ip u_ic b_ah b_be b_me u_wd b_tr b_ld u_st b_wn u_id)), (b_ah, (arJ G 49152 v_ah)), (b_be, (arJ G 49152 v_be)), (b_me, (arI G 1536 v_me))] s.heap.size = A at hD hT ⊢
  have hA : ∀ q : Nat, s.heap.size ≤ q → A q := fun q h => by rw [← hAe]; exact Or.inr h
  have hS : va_S A s.heap s.heap [] := va_S.rf
  have hP : va_P G.1 vwCl [(b_o, (oc12 u_th u_sa b_rf b_ro b_im b_ke u_fd b_tp u_td u_fr u_to u_so u_wo u_fa u_bd u_nc b_nl u_co b_op b_ar u_le b_pi b_pa u_pd u_od b_ws b_hw u_la b_se b_re u_bk u_va u_su u_ce u_ho u_wy u_bt u_ps b_pt u_tg u_sn b_ip u_ic b_ah b_be b_me u_wd b_tr b_ld u_st b_wn u_id)), (b_ah, (arJ G 49152 v_ah)), (b_be, (arJ G 49152 v_be)), (b_me, (arI G 1536 v_me))] s.heap := hP
  have hl := lv_entry ([.ref b_o, .int 0, .int p_2]) (n := 7) (Nat.le_of_ble_eq_true rfl)
  rw [lg_entry_eq]
  generalize (lg_sl ([.ref b_o, .int 0, .int p_2]) ++ List.replicate (7 - (lg_sl ([.ref b_o, .int 0, .int p_2])).length) Slot.unset).toArray = ls at hl ⊢
  have hl : lv_has ls 7 [(0, .ref b_o), (1, .int 0), (2, .int p_2)] := hl
  refine lv_lconst (v := 0) hx hb dX12_rowsAt_0 (by decide) ?_
  refine lv_lstore_n (lv' := [(3, .long 0), (0, .ref b_o), (1, .int 0), (2, .int p_2)]) hx hb dX12_rowsAt_1 rfl hl (by decide) rfl (fun ls hl => ?_)
  refine lv_iconst (v := 0) hx hb dX12_rowsAt_2 (by decide) ?_
  refine lv_istore (lv' := [(5, .int 0), (3, .long 0), (0, .ref b_o), (1, .int 0), (2, .int p_2)]) hx hb dX12_rowsAt_3 hl (by decide) rfl (fun ls hl => ?_)
  refine g5_loop (α := (Int64) × (Int32)) (fun (q : (Int64) × (Int32)) (ls : Array Slot) (H : Heap) (locs : List Loc) => match q with | (k5_3, k5_5) => lv_has ls 7 [(3, .long k5_3), (5, .int k5_5), (0, .ref b_o), (1, .int 0), (2, .int p_2)] ∧ va_P G.1 vwCl [(b_o, (oc12 u_th u_sa b_rf b_ro b_im b_ke u_fd b_tp u_td u_fr u_to u_so u_wo u_fa u_bd u_nc b_nl u_co b_op b_ar u_le b_pi b_pa u_pd u_od b_ws b_hw u_la b_se b_re u_bk u_va u_su u_ce u_ho u_wy u_bt u_ps b_pt u_tg u_sn b_ip u_ic b_ah b_be b_me u_wd b_tr b_ld u_st b_wn u_id)), (b_ah, (arJ G 49152 v_ah)), (b_be, (arJ G 49152 v_be)), (b_me, (arI G 1536 v_me))] H ∧ va_D A [(b_o, (oc12 u_th u_sa b_rf b_ro b_im b_ke u_fd b_tp u_td u_fr u_to u_so u_wo u_fa u_bd u_nc b_nl u_co b_op b_ar u_le b_pi b_pa u_pd u_od b_ws b_hw u_la b_se b_re u_bk u_va u_su u_ce u_ho u_wy u_bt u_ps b_pt u_tg u_sn b_ip u_ic b_ah b_be b_me u_wd b_tr b_ld u_st b_wn u_id)), (b_ah, (arJ G 49152 v_ah)), (b_be, (arJ G 49152 v_be)), (b_me, (arI G 1536 v_me))] ∧ va_S A s.heap H locs ∧ (0 ≤ k5_5.toInt ∧ k5_5.toInt ≤ 32) ∧ (64 ≤ (v_me p_2.toNatClampNeg).toInt → k5_3 = 0)) (fun (q : (Int64) × (Int32)) => match q with | (k5_3, k5_5) => Int.toNat (32 - k5_5.toInt)) (0, 0) ⟨lv_sub hl [1, 0, 2, 3, 4] rfl, hP, hD, hS, ⟨by decide, by decide⟩, fun _ => rfl⟩ ?_
  rintro ⟨k5_3, k5_5⟩ ls H locs ⟨hl, hP, hD, hS, i_1, i_2⟩ ih_5_3
  have hl : lv_has ls 7 [(3, .long k5_3), (5, .int k5_5), (0, .ref b_o), (1, .int 0), (2, .int p_2)] := hl
  have i_1 : 0 ≤ k5_5.toInt ∧ k5_5.toInt ≤ 32 := i_1
  have i_2 : 64 ≤ (v_me p_2.toNatClampNeg).toInt → k5_3 = 0 := i_2
  refine g5_rs [(b_o, (oc12 u_th u_sa b_rf b_ro b_im b_ke u_fd b_tp u_td u_fr u_to u_so u_wo u_fa u_bd u_nc b_nl u_co b_op b_ar u_le b_pi b_pa u_pd u_od b_ws b_hw u_la b_se b_re u_bk u_va u_su u_ce u_ho u_wy u_bt u_ps b_pt u_tg u_sn b_ip u_ic b_ah b_be b_me u_wd b_tr b_ld u_st b_wn u_id)), (b_ah, (arJ G 49152 v_ah)), (b_be, (arJ G 49152 v_be)), (b_me, (arI G 1536 v_me))] hP hD (fun hP hD => ?_)
  refine lv_iload hx hb dX12_rowsAt_5 (lv_at hl 1 rfl) ?_
  refine lv_bipush (v := 32) hx hb dX12_rowsAt_7 (by decide) ?_
  refine lv_icmp_ge (tgt := 50) hx hb dX12_rowsAt_9 (by decide) (fun c_4 => ?_) (fun c_4 => ?_)
  ·
    have i_4 : k5_5.toInt ≥ 32 := by have z := g5_ge (a := k5_5.toInt) (b := 32) (by rfl) (by decide) c_4; omega
    refine lv_lload_n hx hb dX12_rowsAt_50 rfl (lv_at hl 0 rfl) ?_
    exact W.lret (v := k5_3) hx hb hr (fun t ht hW => ⟨⟨k5_3, [(b_o, (oc12 u_th u_sa b_rf b_ro b_im b_ke u_fd b_tp u_td u_fr u_to u_so u_wo u_fa u_bd u_nc b_nl u_co b_op b_ar u_le b_pi b_pa u_pd u_od b_ws b_hw u_la b_se b_re u_bk u_va u_su u_ce u_ho u_wy u_bt u_ps b_pt u_tg u_sn b_ip u_ic b_ah b_be b_me u_wd b_tr b_ld u_st b_wn u_id)), (b_ah, (arJ G 49152 v_ah)), (b_be, (arJ G 49152 v_be)), (b_me, (arI G 1536 v_me))], rfl, ⟨k5_3, i_2, rfl, rfl⟩, by rw [ht]; exact hP.sub [0, 1, 2, 3] rfl, hD.sub [0, 1, 2, 3] (by decide) rfl⟩, hS.F ht⟩) hS.2.2 dX12_rowsAt_51
  ·
    have i_4 : k5_5.toInt < 32 := by have z := g5_geN (a := k5_5.toInt) (b := 32) (by rfl) (by decide) c_4; omega
    refine lv_bipush (v := 32) hx hb dX12_rowsAt_12 (by decide) ?_
    refine lv_bipush (v := 64) hx hb dX12_rowsAt_14 (by decide) ?_
    refine lv_iload_n hx hb dX12_rowsAt_16 rfl (lv_at hl 3 rfl) ?_
    refine lv_imul hx hb dX12_rowsAt_17 ?_
    refine g5_ti (v := 0) (by decide) ?_
    refine lv_iload_n hx hb dX12_rowsAt_18 rfl (lv_at hl 4 rfl) ?_
    refine lv_iadd hx hb dX12_rowsAt_19 ?_
    refine g5_ti (v := p_2) (by simp) ?_
    refine lv_imul hx hb dX12_rowsAt_20 ?_
    have t_5 : (32 * p_2).toInt = 32 * p_2.toInt := g5_imul (a := 32) (b := p_2.toInt) (by decide) (by rfl) (by omega) (by omega)
    refine lv_iload hx hb dX12_rowsAt_21 (lv_at hl 1 rfl) ?_
    refine lv_iadd hx hb dX12_rowsAt_23 ?_
    have t_6 : ((32 * p_2) + k5_5).toInt = (32 * p_2).toInt + k5_5.toInt := g5_iadd (a := (32 * p_2).toInt) (b := k5_5.toInt) (by rfl) (by rfl) (by omega) (by omega)
    refine lv_istore (lv' := [(6, .int ((32 * p_2) + k5_5)), (3, .long k5_3), (5, .int k5_5), (0, .ref b_o), (1, .int 0), (2, .int p_2)]) hx hb dX12_rowsAt_24 hl (by decide) rfl (fun ls hl => ?_)
    refine lv_lload_n hx hb dX12_rowsAt_26 rfl (lv_at hl 1 rfl) ?_
    refine lv_aload_n hx hb dX12_rowsAt_27 rfl (lv_at hl 3 rfl) ?_
    refine va_get (D := G.1) (ci := 12) (v := .ref b_ah) (C := RX12) (T := TX12) (N := 52) hx hb hts inG_X12 hown hK hP 0 rfl rfl 43 (by decide) (hts _ fl_X12_89) (fun _ h9 => h9) rfl dX12_rowsAt_28 ?_
    refine lv_iload hx hb dX12_rowsAt_31 (lv_at hl 0 rfl) ?_
    refine va_lald hx hb hK hP 1 1 rfl rfl (i := ((32 * p_2) + k5_5)) (vp_in_iff.mpr ⟨by omega, by omega⟩) dX12_rowsAt_33 ?_
    refine lv_aload_n hx hb dX12_rowsAt_34 rfl (lv_at hl 3 rfl) ?_
    refine va_get (D := G.1) (ci := 12) (v := .ref b_be) (C := RX12) (T := TX12) (N := 52) hx hb hts inG_X12 hown hK hP 0 rfl rfl 44 (by decide) (hts _ fl_X12_92) (fun _ h9 => h9) rfl dX12_rowsAt_35 ?_
    refine lv_iload hx hb dX12_rowsAt_38 (lv_at hl 0 rfl) ?_
    refine va_lald hx hb hK hP 2 1 rfl rfl (i := ((32 * p_2) + k5_5)) (vp_in_iff.mpr ⟨by omega, by omega⟩) dX12_rowsAt_40 ?_
    refine lv_lmul hx hb dX12_rowsAt_41 ?_
    refine lv_ladd hx hb dX12_rowsAt_42 ?_
    refine lv_lstore_n (lv' := [(3, .long (k5_3 + ((v_ah ((32 * p_2) + k5_5).toNatClampNeg) * (v_be ((32 * p_2) + k5_5).toNatClampNeg)))), (6, .int ((32 * p_2) + k5_5)), (5, .int k5_5), (0, .ref b_o), (1, .int 0), (2, .int p_2)]) hx hb dX12_rowsAt_43 rfl hl (by decide) rfl (fun ls hl => ?_)
    refine lv_iinc (v := (k5_5 + 1)) (lv' := [(5, .int (k5_5 + 1)), (3, .long (k5_3 + ((v_ah ((32 * p_2) + k5_5).toNatClampNeg) * (v_be ((32 * p_2) + k5_5).toNatClampNeg)))), (6, .int ((32 * p_2) + k5_5)), (0, .ref b_o), (1, .int 0), (2, .int p_2)]) hx hb dX12_rowsAt_44 hl (k := 2) rfl rfl (by decide) rfl (fun ls hl => ?_)
    have t_7 : (k5_5 + 1).toInt = k5_5.toInt + 1 := g5_iadd (a := k5_5.toInt) (b := 1) rfl (by decide) (by omega) (by omega)
    refine lv_goto (tgt := 5) hx hb dX12_rowsAt_47 (by decide) ?_
    exact ih_5_3 ((k5_3 + ((v_ah ((32 * p_2) + k5_5).toNatClampNeg) * (v_be ((32 * p_2) + k5_5).toNatClampNeg))), (k5_5 + 1)) ls H locs (show Int.toNat (32 - (k5_5 + 1).toInt) < Int.toNat (32 - k5_5.toInt) from g_up (show k5_5.toInt < (k5_5 + 1).toInt by omega) (show k5_5.toInt < 32 by omega)) ⟨lv_sub hl [1, 0, 3, 4, 5] rfl, hP, hD, hS, ⟨by omega, by omega⟩, ra_step (k := k5_5) e_ah i_2 ⟨by omega, by omega⟩ ⟨by omega, by omega⟩ (by omega)⟩
theorem dgX12_path_0 : ∀ r ∈ ([(0, (.aload_n 0, 1)), (1, (.iconst 0, 1)), (2, (.putfield 107, 3)), (5, (.iload_n 1, 1)), (6, (.invokestatic 175, 3)), (9, (.ifCond .ne 5, 3)), (12, (.iconst (-1), 1)), (13, (.ireturn, 1)), (14, (.aload_n 0, 1)), (15, (.invokevirtual 444, 3)), (18, (.iconst (-1), 1)), (19, (.istore_n 2, 1)), (20, (.iconst 0, 1)), (21, (.istore_n 3, 1)), (22, (.iconst 0, 1)), (23, (.istore 4, 2)), (25, (.iload 4, 2)), (27, (.iload_n 1, 1)), (28, (.if_icmp .gt 166, 3)), (31, (.iconst (-1), 1)), (32, (.istore 5, 2)), (34, (.bipush 63, 2)), (36, (.istore 6, 2)), (38, (.iload 6, 2)), (40, (.ifCond .lt 122, 3)), (43, (.iload 4, 2)), (45, (.ifCond .ne 23, 3)), (48, (.aload_n 0, 1)), (49, (.iconst 0, 1)), (50, (.iload 6, 2)), (52, (.invokevirtual 440, 3)), (55, (.lconst 0, 1)), (56, (.lcmp, 1)), (57, (.ifCond .le 7, 3)), (60, (.iconst 1, 1)), (61, (.goto 79, 3)), (64, (.iconst 0, 1)), (65, (.goto 75, 3)), (68, (.iload_n 2, 1)), (69, (.iload 6, 2))] : List (Nat × (Instr × Nat))), decode cX12_path r.1 = .ok r.2 := by decide +kernel
theorem dX12_path_0 : decode cX12_path 0 = .ok (.aload_n 0, 1) := dgX12_path_0 (0, (.aload_n 0, 1)) (List.mem_of_getElem? (i := 0) rfl)
theorem dX12_path_1 : decode cX12_path 1 = .ok (.iconst 0, 1) := dgX12_path_0 (1, (.iconst 0, 1)) (List.mem_of_getElem? (i := 1) rfl)
theorem dX12_path_2 : decode cX12_path 2 = .ok (.putfield 107, 3) := dgX12_path_0 (2, (.putfield 107, 3)) (List.mem_of_getElem? (i := 2) rfl)
theorem dX12_path_5 : decode cX12_path 5 = .ok (.iload_n 1, 1) := dgX12_path_0 (5, (.iload_n 1, 1)) (List.mem_of_getElem? (i := 3) rfl)
theorem dX12_path_6 : decode cX12_path 6 = .ok (.invokestatic 175, 3) := dgX12_path_0 (6, (.invokestatic 175, 3)) (List.mem_of_getElem? (i := 4) rfl)
theorem dX12_path_9 : decode cX12_path 9 = .ok (.ifCond .ne 5, 3) := dgX12_path_0 (9, (.ifCond .ne 5, 3)) (List.mem_of_getElem? (i := 5) rfl)
theorem dX12_path_12 : decode cX12_path 12 = .ok (.iconst (-1), 1) := dgX12_path_0 (12, (.iconst (-1), 1)) (List.mem_of_getElem? (i := 6) rfl)
theorem dX12_path_13 : decode cX12_path 13 = .ok (.ireturn, 1) := dgX12_path_0 (13, (.ireturn, 1)) (List.mem_of_getElem? (i := 7) rfl)
theorem dX12_path_14 : decode cX12_path 14 = .ok (.aload_n 0, 1) := dgX12_path_0 (14, (.aload_n 0, 1)) (List.mem_of_getElem? (i := 8) rfl)
theorem dX12_path_15 : decode cX12_path 15 = .ok (.invokevirtual 444, 3) := dgX12_path_0 (15, (.invokevirtual 444, 3)) (List.mem_of_getElem? (i := 9) rfl)
theorem dX12_path_18 : decode cX12_path 18 = .ok (.iconst (-1), 1) := dgX12_path_0 (18, (.iconst (-1), 1)) (List.mem_of_getElem? (i := 10) rfl)
theorem dX12_path_19 : decode cX12_path 19 = .ok (.istore_n 2, 1) := dgX12_path_0 (19, (.istore_n 2, 1)) (List.mem_of_getElem? (i := 11) rfl)
theorem dX12_path_20 : decode cX12_path 20 = .ok (.iconst 0, 1) := dgX12_path_0 (20, (.iconst 0, 1)) (List.mem_of_getElem? (i := 12) rfl)
theorem dX12_path_21 : decode cX12_path 21 = .ok (.istore_n 3, 1) := dgX12_path_0 (21, (.istore_n 3, 1)) (List.mem_of_getElem? (i := 13) rfl)
theorem dX12_path_22 : decode cX12_path 22 = .ok (.iconst 0, 1) := dgX12_path_0 (22, (.iconst 0, 1)) (List.mem_of_getElem? (i := 14) rfl)
theorem dX12_path_23 : decode cX12_path 23 = .ok (.istore 4, 2) := dgX12_path_0 (23, (.istore 4, 2)) (List.mem_of_getElem? (i := 15) rfl)
theorem dX12_path_25 : decode cX12_path 25 = .ok (.iload 4, 2) := dgX12_path_0 (25, (.iload 4, 2)) (List.mem_of_getElem? (i := 16) rfl)
theorem dX12_path_27 : decode cX12_path 27 = .ok (.iload_n 1, 1) := dgX12_path_0 (27, (.iload_n 1, 1)) (List.mem_of_getElem? (i := 17) rfl)
theorem dX12_path_28 : decode cX12_path 28 = .ok (.if_icmp .gt 166, 3) := dgX12_path_0 (28, (.if_icmp .gt 166, 3)) (List.mem_of_getElem? (i := 18) rfl)
theorem dX12_path_31 : decode cX12_path 31 = .ok (.iconst (-1), 1) := dgX12_path_0 (31, (.iconst (-1), 1)) (List.mem_of_getElem? (i := 19) rfl)
theorem dX12_path_32 : decode cX12_path 32 = .ok (.istore 5, 2) := dgX12_path_0 (32, (.istore 5, 2)) (List.mem_of_getElem? (i := 20) rfl)
theorem dX12_path_34 : decode cX12_path 34 = .ok (.bipush 63, 2) := dgX12_path_0 (34, (.bipush 63, 2)) (List.mem_of_getElem? (i := 21) rfl)
theorem dX12_path_36 : decode cX12_path 36 = .ok (.istore 6, 2) := dgX12_path_0 (36, (.istore 6, 2)) (List.mem_of_getElem? (i := 22) rfl)
theorem dX12_path_38 : decode cX12_path 38 = .ok (.iload 6, 2) := dgX12_path_0 (38, (.iload 6, 2)) (List.mem_of_getElem? (i := 23) rfl)
theorem dX12_path_40 : decode cX12_path 40 = .ok (.ifCond .lt 122, 3) := dgX12_path_0 (40, (.ifCond .lt 122, 3)) (List.mem_of_getElem? (i := 24) rfl)
theorem dX12_path_43 : decode cX12_path 43 = .ok (.iload 4, 2) := dgX12_path_0 (43, (.iload 4, 2)) (List.mem_of_getElem? (i := 25) rfl)
theorem dX12_path_45 : decode cX12_path 45 = .ok (.ifCond .ne 23, 3) := dgX12_path_0 (45, (.ifCond .ne 23, 3)) (List.mem_of_getElem? (i := 26) rfl)
theorem dX12_path_48 : decode cX12_path 48 = .ok (.aload_n 0, 1) := dgX12_path_0 (48, (.aload_n 0, 1)) (List.mem_of_getElem? (i := 27) rfl)
theorem dX12_path_49 : decode cX12_path 49 = .ok (.iconst 0, 1) := dgX12_path_0 (49, (.iconst 0, 1)) (List.mem_of_getElem? (i := 28) rfl)
theorem dX12_path_50 : decode cX12_path 50 = .ok (.iload 6, 2) := dgX12_path_0 (50, (.iload 6, 2)) (List.mem_of_getElem? (i := 29) rfl)
theorem dX12_path_52 : decode cX12_path 52 = .ok (.invokevirtual 440, 3) := dgX12_path_0 (52, (.invokevirtual 440, 3)) (List.mem_of_getElem? (i := 30) rfl)
theorem dX12_path_55 : decode cX12_path 55 = .ok (.lconst 0, 1) := dgX12_path_0 (55, (.lconst 0, 1)) (List.mem_of_getElem? (i := 31) rfl)
theorem dX12_path_56 : decode cX12_path 56 = .ok (.lcmp, 1) := dgX12_path_0 (56, (.lcmp, 1)) (List.mem_of_getElem? (i := 32) rfl)
theorem dX12_path_57 : decode cX12_path 57 = .ok (.ifCond .le 7, 3) := dgX12_path_0 (57, (.ifCond .le 7, 3)) (List.mem_of_getElem? (i := 33) rfl)
theorem dX12_path_60 : decode cX12_path 60 = .ok (.iconst 1, 1) := dgX12_path_0 (60, (.iconst 1, 1)) (List.mem_of_getElem? (i := 34) rfl)
theorem dX12_path_61 : decode cX12_path 61 = .ok (.goto 79, 3) := dgX12_path_0 (61, (.goto 79, 3)) (List.mem_of_getElem? (i := 35) rfl)
theorem dX12_path_64 : decode cX12_path 64 = .ok (.iconst 0, 1) := dgX12_path_0 (64, (.iconst 0, 1)) (List.mem_of_getElem? (i := 36) rfl)
theorem dX12_path_65 : decode cX12_path 65 = .ok (.goto 75, 3) := dgX12_path_0 (65, (.goto 75, 3)) (List.mem_of_getElem? (i := 37) rfl)
theorem dX12_path_68 : decode cX12_path 68 = .ok (.iload_n 2, 1) := dgX12_path_0 (68, (.iload_n 2, 1)) (List.mem_of_getElem? (i := 38) rfl)
theorem dX12_path_69 : decode cX12_path 69 = .ok (.iload 6, 2) := dgX12_path_0 (69, (.iload 6, 2)) (List.mem_of_getElem? (i := 39) rfl)
theorem dgX12_path_1 : ∀ r ∈ ([(71, (.invokestatic 454, 3)), (74, (.ifCond .eq 65, 3)), (77, (.aload_n 0, 1)), (78, (.getfield 95, 3)), (81, (.bipush 64, 2)), (83, (.iload 4, 2)), (85, (.imul, 1)), (86, (.iload 6, 2)), (88, (.iadd, 1)), (89, (.iaload, 1)), (90, (.bipush 64, 2)), (92, (.if_icmp .ge 47, 3)), (95, (.aload_n 0, 1)), (96, (.getfield 92, 3)), (99, (.bipush 32, 2)), (101, (.bipush 64, 2)), (103, (.iload 4, 2)), (105, (.imul, 1)), (106, (.iload 6, 2)), (108, (.iadd, 1)), (109, (.imul, 1)), (110, (.iload_n 3, 1)), (111, (.aload_n 0, 1)), (112, (.getfield 95, 3)), (115, (.bipush 64, 2)), (117, (.iload 4, 2)), (119, (.imul, 1)), (120, (.iload 6, 2)), (122, (.iadd, 1)), (123, (.iaload, 1)), (124, (.bipush 31, 2)), (126, (.iand, 1)), (127, (.ior, 1)), (128, (.iadd, 1)), (129, (.laload, 1)), (130, (.lconst 0, 1)), (131, (.lcmp, 1)), (132, (.ifCond .le 7, 3)), (135, (.iconst 1, 1)), (136, (.goto 4, 3))] : List (Nat × (Instr × Nat))), decode cX12_path r.1 = .ok r.2 := by decide +kernel
theorem dX12_path_71 : decode cX12_path 71 = .ok (.invokestatic 454, 3) := dgX12_path_1 (71, (.invokestatic 454, 3)) (List.mem_of_getElem? (i := 0) rfl)
theorem dX12_path_74 : decode cX12_path 74 = .ok (.ifCond .eq 65, 3) := dgX12_path_1 (74, (.ifCond .eq 65, 3)) (List.mem_of_getElem? (i := 1) rfl)
theorem dX12_path_77 : decode cX12_path 77 = .ok (.aload_n 0, 1) := dgX12_path_1 (77, (.aload_n 0, 1)) (List.mem_of_getElem? (i := 2) rfl)
theorem dX12_path_78 : decode cX12_path 78 = .ok (.getfield 95, 3) := dgX12_path_1 (78, (.getfield 95, 3)) (List.mem_of_getElem? (i := 3) rfl)
theorem dX12_path_81 : decode cX12_path 81 = .ok (.bipush 64, 2) := dgX12_path_1 (81, (.bipush 64, 2)) (List.mem_of_getElem? (i := 4) rfl)
theorem dX12_path_83 : decode cX12_path 83 = .ok (.iload 4, 2) := dgX12_path_1 (83, (.iload 4, 2)) (List.mem_of_getElem? (i := 5) rfl)
theorem dX12_path_85 : decode cX12_path 85 = .ok (.imul, 1) := dgX12_path_1 (85, (.imul, 1)) (List.mem_of_getElem? (i := 6) rfl)
theorem dX12_path_86 : decode cX12_path 86 = .ok (.iload 6, 2) := dgX12_path_1 (86, (.iload 6, 2)) (List.mem_of_getElem? (i := 7) rfl)
theorem dX12_path_88 : decode cX12_path 88 = .ok (.iadd, 1) := dgX12_path_1 (88, (.iadd, 1)) (List.mem_of_getElem? (i := 8) rfl)
theorem dX12_path_89 : decode cX12_path 89 = .ok (.iaload, 1) := dgX12_path_1 (89, (.iaload, 1)) (List.mem_of_getElem? (i := 9) rfl)
theorem dX12_path_90 : decode cX12_path 90 = .ok (.bipush 64, 2) := dgX12_path_1 (90, (.bipush 64, 2)) (List.mem_of_getElem? (i := 10) rfl)
theorem dX12_path_92 : decode cX12_path 92 = .ok (.if_icmp .ge 47, 3) := dgX12_path_1 (92, (.if_icmp .ge 47, 3)) (List.mem_of_getElem? (i := 11) rfl)
theorem dX12_path_95 : decode cX12_path 95 = .ok (.aload_n 0, 1) := dgX12_path_1 (95, (.aload_n 0, 1)) (List.mem_of_getElem? (i := 12) rfl)
theorem dX12_path_96 : decode cX12_path 96 = .ok (.getfield 92, 3) := dgX12_path_1 (96, (.getfield 92, 3)) (List.mem_of_getElem? (i := 13) rfl)
theorem dX12_path_99 : decode cX12_path 99 = .ok (.bipush 32, 2) := dgX12_path_1 (99, (.bipush 32, 2)) (List.mem_of_getElem? (i := 14) rfl)
theorem dX12_path_101 : decode cX12_path 101 = .ok (.bipush 64, 2) := dgX12_path_1 (101, (.bipush 64, 2)) (List.mem_of_getElem? (i := 15) rfl)
theorem dX12_path_103 : decode cX12_path 103 = .ok (.iload 4, 2) := dgX12_path_1 (103, (.iload 4, 2)) (List.mem_of_getElem? (i := 16) rfl)
theorem dX12_path_105 : decode cX12_path 105 = .ok (.imul, 1) := dgX12_path_1 (105, (.imul, 1)) (List.mem_of_getElem? (i := 17) rfl)
theorem dX12_path_106 : decode cX12_path 106 = .ok (.iload 6, 2) := dgX12_path_1 (106, (.iload 6, 2)) (List.mem_of_getElem? (i := 18) rfl)
theorem dX12_path_108 : decode cX12_path 108 = .ok (.iadd, 1) := dgX12_path_1 (108, (.iadd, 1)) (List.mem_of_getElem? (i := 19) rfl)
theorem dX12_path_109 : decode cX12_path 109 = .ok (.imul, 1) := dgX12_path_1 (109, (.imul, 1)) (List.mem_of_getElem? (i := 20) rfl)
theorem dX12_path_110 : decode cX12_path 110 = .ok (.iload_n 3, 1) := dgX12_path_1 (110, (.iload_n 3, 1)) (List.mem_of_getElem? (i := 21) rfl)
theorem dX12_path_111 : decode cX12_path 111 = .ok (.aload_n 0, 1) := dgX12_path_1 (111, (.aload_n 0, 1)) (List.mem_of_getElem? (i := 22) rfl)
theorem dX12_path_112 : decode cX12_path 112 = .ok (.getfield 95, 3) := dgX12_path_1 (112, (.getfield 95, 3)) (List.mem_of_getElem? (i := 23) rfl)
theorem dX12_path_115 : decode cX12_path 115 = .ok (.bipush 64, 2) := dgX12_path_1 (115, (.bipush 64, 2)) (List.mem_of_getElem? (i := 24) rfl)
theorem dX12_path_117 : decode cX12_path 117 = .ok (.iload 4, 2) := dgX12_path_1 (117, (.iload 4, 2)) (List.mem_of_getElem? (i := 25) rfl)
theorem dX12_path_119 : decode cX12_path 119 = .ok (.imul, 1) := dgX12_path_1 (119, (.imul, 1)) (List.mem_of_getElem? (i := 26) rfl)
theorem dX12_path_120 : decode cX12_path 120 = .ok (.iload 6, 2) := dgX12_path_1 (120, (.iload 6, 2)) (List.mem_of_getElem? (i := 27) rfl)
theorem dX12_path_122 : decode cX12_path 122 = .ok (.iadd, 1) := dgX12_path_1 (122, (.iadd, 1)) (List.mem_of_getElem? (i := 28) rfl)
theorem dX12_path_123 : decode cX12_path 123 = .ok (.iaload, 1) := dgX12_path_1 (123, (.iaload, 1)) (List.mem_of_getElem? (i := 29) rfl)
theorem dX12_path_124 : decode cX12_path 124 = .ok (.bipush 31, 2) := dgX12_path_1 (124, (.bipush 31, 2)) (List.mem_of_getElem? (i := 30) rfl)
theorem dX12_path_126 : decode cX12_path 126 = .ok (.iand, 1) := dgX12_path_1 (126, (.iand, 1)) (List.mem_of_getElem? (i := 31) rfl)
theorem dX12_path_127 : decode cX12_path 127 = .ok (.ior, 1) := dgX12_path_1 (127, (.ior, 1)) (List.mem_of_getElem? (i := 32) rfl)
theorem dX12_path_128 : decode cX12_path 128 = .ok (.iadd, 1) := dgX12_path_1 (128, (.iadd, 1)) (List.mem_of_getElem? (i := 33) rfl)
theorem dX12_path_129 : decode cX12_path 129 = .ok (.laload, 1) := dgX12_path_1 (129, (.laload, 1)) (List.mem_of_getElem? (i := 34) rfl)
theorem dX12_path_130 : decode cX12_path 130 = .ok (.lconst 0, 1) := dgX12_path_1 (130, (.lconst 0, 1)) (List.mem_of_getElem? (i := 35) rfl)
theorem dX12_path_131 : decode cX12_path 131 = .ok (.lcmp, 1) := dgX12_path_1 (131, (.lcmp, 1)) (List.mem_of_getElem? (i := 36) rfl)
theorem dX12_path_132 : decode cX12_path 132 = .ok (.ifCond .le 7, 3) := dgX12_path_1 (132, (.ifCond .le 7, 3)) (List.mem_of_getElem? (i := 37) rfl)
theorem dX12_path_135 : decode cX12_path 135 = .ok (.iconst 1, 1) := dgX12_path_1 (135, (.iconst 1, 1)) (List.mem_of_getElem? (i := 38) rfl)
theorem dX12_path_136 : decode cX12_path 136 = .ok (.goto 4, 3) := dgX12_path_1 (136, (.goto 4, 3)) (List.mem_of_getElem? (i := 39) rfl)
theorem dgX12_path_2 : ∀ r ∈ ([(139, (.iconst 0, 1)), (140, (.istore 7, 2)), (142, (.iload 7, 2)), (144, (.ifCond .eq 8, 3)), (147, (.iload 6, 2)), (149, (.goto 5, 3)), (152, (.iload 5, 2)), (154, (.istore 5, 2)), (156, (.iinc 6 (-1), 3)), (159, (.goto (-121), 3)), (162, (.iload 5, 2)), (164, (.iconst (-1), 1)), (165, (.if_icmp .ne 5, 3)), (168, (.iconst (-1), 1)), (169, (.ireturn, 1)), (170, (.iload 5, 2)), (172, (.istore_n 2, 1)), (173, (.iload_n 3, 1)), (174, (.aload_n 0, 1)), (175, (.getfield 95, 3)), (178, (.bipush 64, 2)), (180, (.iload 4, 2)), (182, (.imul, 1)), (183, (.iload_n 2, 1)), (184, (.iadd, 1)), (185, (.iaload, 1)), (186, (.ior, 1)), (187, (.istore_n 3, 1)), (188, (.iinc 4 1, 3)), (191, (.goto (-166), 3)), (194, (.iload_n 2, 1)), (195, (.ireturn, 1))] : List (Nat × (Instr × Nat))), decode cX12_path r.1 = .ok r.2 := by decide +kernel
theorem dX12_path_139 : decode cX12_path 139 = .ok (.iconst 0, 1) := dgX12_path_2 (139, (.iconst 0, 1)) (List.mem_of_getElem? (i := 0) rfl)
theorem dX12_path_140 : decode cX12_path 140 = .ok (.istore 7, 2) := dgX12_path_2 (140, (.istore 7, 2)) (List.mem_of_getElem? (i := 1) rfl)
theorem dX12_path_142 : decode cX12_path 142 = .ok (.iload 7, 2) := dgX12_path_2 (142, (.iload 7, 2)) (List.mem_of_getElem? (i := 2) rfl)
theorem dX12_path_144 : decode cX12_path 144 = .ok (.ifCond .eq 8, 3) := dgX12_path_2 (144, (.ifCond .eq 8, 3)) (List.mem_of_getElem? (i := 3) rfl)
theorem dX12_path_147 : decode cX12_path 147 = .ok (.iload 6, 2) := dgX12_path_2 (147, (.iload 6, 2)) (List.mem_of_getElem? (i := 4) rfl)
theorem dX12_path_149 : decode cX12_path 149 = .ok (.goto 5, 3) := dgX12_path_2 (149, (.goto 5, 3)) (List.mem_of_getElem? (i := 5) rfl)
theorem dX12_path_152 : decode cX12_path 152 = .ok (.iload 5, 2) := dgX12_path_2 (152, (.iload 5, 2)) (List.mem_of_getElem? (i := 6) rfl)
theorem dX12_path_154 : decode cX12_path 154 = .ok (.istore 5, 2) := dgX12_path_2 (154, (.istore 5, 2)) (List.mem_of_getElem? (i := 7) rfl)
theorem dX12_path_156 : decode cX12_path 156 = .ok (.iinc 6 (-1), 3) := dgX12_path_2 (156, (.iinc 6 (-1), 3)) (List.mem_of_getElem? (i := 8) rfl)
theorem dX12_path_159 : decode cX12_path 159 = .ok (.goto (-121), 3) := dgX12_path_2 (159, (.goto (-121), 3)) (List.mem_of_getElem? (i := 9) rfl)
theorem dX12_path_162 : decode cX12_path 162 = .ok (.iload 5, 2) := dgX12_path_2 (162, (.iload 5, 2)) (List.mem_of_getElem? (i := 10) rfl)
theorem dX12_path_164 : decode cX12_path 164 = .ok (.iconst (-1), 1) := dgX12_path_2 (164, (.iconst (-1), 1)) (List.mem_of_getElem? (i := 11) rfl)
theorem dX12_path_165 : decode cX12_path 165 = .ok (.if_icmp .ne 5, 3) := dgX12_path_2 (165, (.if_icmp .ne 5, 3)) (List.mem_of_getElem? (i := 12) rfl)
theorem dX12_path_168 : decode cX12_path 168 = .ok (.iconst (-1), 1) := dgX12_path_2 (168, (.iconst (-1), 1)) (List.mem_of_getElem? (i := 13) rfl)
theorem dX12_path_169 : decode cX12_path 169 = .ok (.ireturn, 1) := dgX12_path_2 (169, (.ireturn, 1)) (List.mem_of_getElem? (i := 14) rfl)
theorem dX12_path_170 : decode cX12_path 170 = .ok (.iload 5, 2) := dgX12_path_2 (170, (.iload 5, 2)) (List.mem_of_getElem? (i := 15) rfl)
theorem dX12_path_172 : decode cX12_path 172 = .ok (.istore_n 2, 1) := dgX12_path_2 (172, (.istore_n 2, 1)) (List.mem_of_getElem? (i := 16) rfl)
theorem dX12_path_173 : decode cX12_path 173 = .ok (.iload_n 3, 1) := dgX12_path_2 (173, (.iload_n 3, 1)) (List.mem_of_getElem? (i := 17) rfl)
theorem dX12_path_174 : decode cX12_path 174 = .ok (.aload_n 0, 1) := dgX12_path_2 (174, (.aload_n 0, 1)) (List.mem_of_getElem? (i := 18) rfl)
theorem dX12_path_175 : decode cX12_path 175 = .ok (.getfield 95, 3) := dgX12_path_2 (175, (.getfield 95, 3)) (List.mem_of_getElem? (i := 19) rfl)
theorem dX12_path_178 : decode cX12_path 178 = .ok (.bipush 64, 2) := dgX12_path_2 (178, (.bipush 64, 2)) (List.mem_of_getElem? (i := 20) rfl)
theorem dX12_path_180 : decode cX12_path 180 = .ok (.iload 4, 2) := dgX12_path_2 (180, (.iload 4, 2)) (List.mem_of_getElem? (i := 21) rfl)
theorem dX12_path_182 : decode cX12_path 182 = .ok (.imul, 1) := dgX12_path_2 (182, (.imul, 1)) (List.mem_of_getElem? (i := 22) rfl)
theorem dX12_path_183 : decode cX12_path 183 = .ok (.iload_n 2, 1) := dgX12_path_2 (183, (.iload_n 2, 1)) (List.mem_of_getElem? (i := 23) rfl)
theorem dX12_path_184 : decode cX12_path 184 = .ok (.iadd, 1) := dgX12_path_2 (184, (.iadd, 1)) (List.mem_of_getElem? (i := 24) rfl)
theorem dX12_path_185 : decode cX12_path 185 = .ok (.iaload, 1) := dgX12_path_2 (185, (.iaload, 1)) (List.mem_of_getElem? (i := 25) rfl)
theorem dX12_path_186 : decode cX12_path 186 = .ok (.ior, 1) := dgX12_path_2 (186, (.ior, 1)) (List.mem_of_getElem? (i := 26) rfl)
theorem dX12_path_187 : decode cX12_path 187 = .ok (.istore_n 3, 1) := dgX12_path_2 (187, (.istore_n 3, 1)) (List.mem_of_getElem? (i := 27) rfl)
theorem dX12_path_188 : decode cX12_path 188 = .ok (.iinc 4 1, 3) := dgX12_path_2 (188, (.iinc 4 1, 3)) (List.mem_of_getElem? (i := 28) rfl)
theorem dX12_path_191 : decode cX12_path 191 = .ok (.goto (-166), 3) := dgX12_path_2 (191, (.goto (-166), 3)) (List.mem_of_getElem? (i := 29) rfl)
theorem dX12_path_194 : decode cX12_path 194 = .ok (.iload_n 2, 1) := dgX12_path_2 (194, (.iload_n 2, 1)) (List.mem_of_getElem? (i := 30) rfl)
theorem dX12_path_195 : decode cX12_path 195 = .ok (.ireturn, 1) := dgX12_path_2 (195, (.ireturn, 1)) (List.mem_of_getElem? (i := 31) rfl)
