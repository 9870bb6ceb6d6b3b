set_option maxHeartbeats 4000000 in
set_option maxRecDepth 100000 in
theorem n_sightingE (l : Launch) (G : g5_G) (b_o b_rf b_ro b_im b_ke b_tp b_nl b_op b_ar b_pi b_pa b_ws b_hw b_se b_re b_pt b_ip b_ah b_be b_me b_tr b_ld b_wn : Nat) (sz : Nat) (u_th : Int32) (u_sa : Int32) (u_fd : Int32) (u_td : Int32) (u_fr : Int32) (u_to : Int32) (u_so : Int32) (u_fa : Int32) (u_bd : Int32) (u_nc : Int32) (u_co : Int32) (u_le : Int32) (u_pd : Int32) (u_od : Int32) (u_la : Int32) (u_bk : Int32) (u_ce : Int32) (u_ho : Int32) (u_wy : Int32) (u_bt : Int32) (u_ps : Int32) (u_tg : Int32) (u_sn : Int32) (u_ic : Int32) (u_wd : Int32) (u_id : Int32) (p_1 : Int32) (p_2 : Int32) (p_3 : Int32) (p_4 : Int32) (u_wo : Int64) (u_va : Int64) (u_su : Int64) (u_st : Int64) (v_rf : Nat → Int32) (v_ro : Nat → Int32) (h_u_td : 0 ≤ u_td.toInt ∧ u_td.toInt ≤ 400) (h_u_fr : 0 ≤ u_fr.toInt ∧ u_fr.toInt ≤ 400) (h_u_to : 0 ≤ u_to.toInt ∧ u_to.toInt ≤ 400) (h_u_bd : 0 ≤ u_bd.toInt ∧ u_bd.toInt ≤ 1) (h_u_nc : 0 ≤ u_nc.toInt ∧ u_nc.toInt ≤ 12) (h_u_co : 0 ≤ u_co.toInt ∧ u_co.toInt ≤ 400) (h_u_pd : 0 ≤ u_pd.toInt ∧ u_pd.toInt ≤ 400) (h_u_la : 0 ≤ u_la.toInt ∧ u_la.toInt ≤ 4840) (h_u_bk : 0 ≤ u_bk.toInt ∧ u_bk.toInt ≤ 1) (h_u_ce : 0 ≤ u_ce.toInt ∧ u_ce.toInt ≤ 63) (h_u_ho : 0 ≤ u_ho.toInt ∧ u_ho.toInt ≤ 23) (h_u_wy : 0 ≤ u_wy.toInt ∧ u_wy.toInt ≤ 3) (h_u_bt : 0 ≤ u_bt.toInt ∧ u_bt.toInt ≤ 1000000) (h_u_ps : 0 ≤ u_ps.toInt ∧ u_ps.toInt ≤ 200) (h_u_ic : 0 ≤ u_ic.toInt ∧ u_ic.toInt ≤ 1) (h_u_id : 0 ≤ u_id.toInt ∧ u_id.toInt ≤ 1) (r_ro : MI v_ro) : Met l yX12_sighting (wsG yX12_sighting cX12_sighting 8 (some .int)) ({ frames := 3, cells := 0, slots := 0, locals := 67 }) (va_Pc [.ref b_o, .int p_1, .int p_2, .int p_3, .int p_4] (g5_P G [(b_o, (oc12 u_th u_sa b_rf b_ro b_im b_ke u_fd b_tp u_td u_fr u_to u_so u_wo u_fa u_bd u_nc b_nl u_co b_op b_ar u_le b_pi b_pa u_pd u_od b_ws b_hw u_la b_se b_re u_bk u_va u_su u_ce u_ho u_wy u_bt u_ps b_pt u_tg u_sn b_ip u_ic b_ah b_be b_me u_wd b_tr b_ld u_st b_wn u_id)), (b_rf, (arI G 7 v_rf)), (b_ro, (arI G 5740 v_ro))] sz)) (va_Qi (fun (r : Int32) (u : va_W) => (∃ (o_r : Int32) (o_th : Int32) (o_sa : Int32) (o_ic : Int32) (o_rf : Nat → Int32) (o_ro : Nat → Int32), (MI o_ro) ∧ (0 ≤ o_ic.toInt ∧ o_ic.toInt ≤ 1) ∧ (o_r = asight v_ro p_1 p_2 p_3 p_4) ∧ (o_ro = ssight v_ro p_1 p_2 p_3 p_4) ∧ (r = o_r) ∧ (u = [(b_o, (oc12 o_th o_sa b_rf b_ro b_im b_ke u_fd b_tp u_td u_fr u_to u_so u_wo u_fa u_bd u_nc b_nl u_co b_op b_ar u_le b_pi b_pa u_pd u_od b_ws b_hw u_la b_se b_re u_bk u_va u_su u_ce u_ho u_wy u_bt u_ps b_pt u_tg u_sn b_ip o_ic b_ah b_be b_me u_wd b_tr b_ld u_st b_wn u_id)), (b_rf, (arI G 7 o_rf)), (b_ro, (arI G 5740 o_ro))]))) (g5_B G (va_A [(b_o, (oc12 u_th u_sa b_rf b_ro b_im b_ke u_fd b_tp u_td u_fr u_to u_so u_wo u_fa u_bd u_nc b_nl u_co b_op b_ar u_le b_pi b_pa u_pd u_od b_ws b_hw u_la b_se b_re u_bk u_va u_su u_ce u_ho u_wy u_bt u_ps b_pt u_tg u_sn b_ip u_ic b_ah b_be b_me u_wd b_tr b_ld u_st b_wn u_id)), (b_rf, (arI G 7 v_rf)), (b_ro, (arI G 5740 v_ro))] sz)) (va_A [(b_o, (oc12 u_th u_sa b_rf b_ro b_im b_ke u_fd b_tp u_td u_fr u_to u_so u_wo u_fa u_bd u_nc b_nl u_co b_op b_ar u_le b_pi b_pa u_pd u_od b_ws b_hw u_la b_se b_re u_bk u_va u_su u_ce u_ho u_wy u_bt u_ps b_pt u_tg u_sn b_ip u_ic b_ah b_be b_me u_wd b_tr b_ld u_st b_wn u_id)), (b_rf, (arI G 7 v_rf)), (b_ro, (arI G 5740 v_ro))] sz)) 0 0 (va_A [(b_o, (oc12 u_th u_sa b_rf b_ro b_im b_ke u_fd b_tp u_td u_fr u_to u_so u_wo u_fa u_bd u_nc b_nl u_co b_op b_ar u_le b_pi b_pa u_pd u_od b_ws b_hw u_la b_se b_re u_bk u_va u_su u_ce u_ho u_wy u_bt u_ps b_pt u_tg u_sn b_ip u_ic b_ah b_be b_me u_wd b_tr b_ld u_st b_wn u_id)), (b_rf, (arI G 7 v_rf)), (b_ro, (arI G 5740 v_ro))] sz) := by
  refine Met.ofW (cc := cX12_sighting) (maxL := 8) (ret := (some .int)) (by decide) rfl ?_
  intro p e s m args below meth c s₁ B hml hv
  obtain ⟨rfl, hsz, hP, hK, hD0, hN, hT⟩ := hv
  have hx := B.exec
  have hb := B.bytes
  have hr := B.returns
  have hts : ∀ w ∈ tblG, w.before _ s = true := fun w h => atoms_spec (ws := (wsG yX12_sighting cX12_sighting 8 (some .int))) B.pre w (List.mem_cons_of_mem _ h)
  have hown : s.vm.findClass RX12 = some m.cls := findClass_of_methodNamed B.named
  have hlocks := B.notSynchronized
  subst hsz
  have hD := hD0.self (sz := s.heap.size)
  generalize hAe : va_A [(b_o, (oc12 u_th u_sa b_rf b_ro b_im b_ke u_fd b_tp u_td u_fr u_to u_so u_wo u_fa u_bd u_nc b_nl u_co b_op b_ar u_le b_pi b_pa u_pd u_od b_ws b_hw u_la b_se b_re u_bk u_va u_su u_ce u_ho u_wy u_bt u_ps b_pt u_tg u_sn b_ip u_ic b_ah b_be b_me u_wd b_tr b_ld u_st b_wn u_id)), (b_rf, (arI G 7 v_rf)), (b_ro, (arI G 5740 v_ro))] s.heap.size = A at hD hT ⊢
  have hA : ∀ q : Nat, s.heap.size ≤ q → A q := fun q h => by rw [← hAe]; exact Or.inr h
  have hS : va_S A s.heap s.heap [] := va_S.rf
  have hP : va_P G.1 vwCl [(b_o, (oc12 u_th u_sa b_rf b_ro b_im b_ke u_fd b_tp u_td u_fr u_to u_so u_wo u_fa u_bd u_nc b_nl u_co b_op b_ar u_le b_pi b_pa u_pd u_od b_ws b_hw u_la b_se b_re u_bk u_va u_su u_ce u_ho u_wy u_bt u_ps b_pt u_tg u_sn b_ip u_ic b_ah b_be b_me u_wd b_tr b_ld u_st b_wn u_id)), (b_rf, (arI G 7 v_rf)), (b_ro, (arI G 5740 v_ro))] s.heap := hP
  have hl := lv_entry ([.ref b_o, .int p_1, .int p_2, .int p_3, .int p_4]) (n := 8) (Nat.le_of_ble_eq_true rfl)
  rw [lg_entry_eq]
  generalize (lg_sl ([.ref b_o, .int p_1, .int p_2, .int p_3, .int p_4]) ++ List.replicate (8 - (lg_sl ([.ref b_o, .int p_1, .int p_2, .int p_3, .int p_4])).length) Slot.unset).toArray = ls at hl ⊢
  have hl : lv_has ls 8 [(0, .ref b_o), (1, .int p_1), (2, .int p_2), (3, .int p_3), (4, .int p_4)] := hl
  refine lv_aload_n hx hb dX12_sighting_0 rfl (lv_at hl 0 rfl) ?_
  refine lv_iconst (v := 0) hx hb dX12_sighting_1 (by decide) ?_
  refine va_put (D := G.1) (ci := 12) (v := .int 0) (ty := .int) (C := RX12) (T := TX12) (N := 52) hx hb hts inG_X12 tyX12 tyX12_ok nmX12 hown hK hP hD hS 0 rfl rfl 0 (by decide) (hts _ fl_X12_107) (fun _ h9 => h9) rfl (by decide +kernel) rfl rfl (Nat.le_of_ble_eq_true rfl) dX12_sighting_2 (fun H locs hP hD hS => ?_)
  refine g5_rs [(b_o, (oc12 0 u_sa b_rf b_ro b_im b_ke u_fd b_tp u_td u_fr u_to u_so u_wo u_fa u_bd u_nc b_nl u_co b_op b_ar u_le b_pi b_pa u_pd u_od b_ws b_hw u_la b_se b_re u_bk u_va u_su u_ce u_ho u_wy u_bt u_ps b_pt u_tg u_sn b_ip u_ic b_ah b_be b_me u_wd b_tr b_ld u_st b_wn u_id)), (b_rf, (arI G 7 v_rf)), (b_ro, (arI G 5740 v_ro))] hP hD (fun hP hD => ?_)
  refine lv_iload_n hx hb dX12_sighting_5 rfl (lv_at hl 1 rfl) ?_
  refine lv_iload_n hx hb dX12_sighting_6 rfl (lv_at hl 2 rfl) ?_
  refine lv_iload_n hx hb dX12_sighting_7 rfl (lv_at hl 3 rfl) ?_
  obtain ⟨hPc, hDc, hFc⟩ := g5_sub3 (wc := []) hP hD hS hA [] (by decide) rfl
  refine va_calli (va_runS (As := [.int p_1, .int p_2, .int p_3]) (rest := []) ⟨hx, hb, hml, hown, hts⟩ (n_isLookE l G H.size p_1 p_2 p_3) (va_cwS 3 hts gS_X12_397 rfl rfl rfl hs_X12_isLook ⟨Nat.le_of_ble_eq_true rfl, Nat.le_of_ble_eq_true rfl⟩) (g5_preS hPc hK hDc hN hT hS hFc) rfl rfl hl.1 rfl (lv_room (Nat.le_of_ble_eq_true rfl)) dX12_sighting_8 ⟨Nat.le_of_ble_eq_true rfl, Nat.le_of_ble_eq_true rfl⟩) hS (fun q _ h => hFc q h) hFc (fun r u t H1 locs ht hvm hw hB hz1 hk1 hS => ?_)
  obtain ⟨hP1, hD1⟩ := hB
  rw [ht] at hP1
  rcases hw with ⟨i_1, i_2, i_3, i_4, rfl, rfl⟩ | ⟨i_5, rfl, rfl⟩
  ·
    have i_1 : okL p_1 p_2 p_3 := i_1
    have i_2 : 0 ≤ p_1.toInt ∧ p_1.toInt ≤ 63 := i_2
    have i_3 : 0 ≤ p_2.toInt ∧ p_2.toInt ≤ 3 := i_3
    have i_4 : 0 ≤ p_3.toInt ∧ p_3.toInt ≤ 23 := i_4
    have hP := g5_same hP hk1
    generalize H1 = H at hP hS ⊢
    refine lv_if_eq (tgt := 25) hx hb dX12_sighting_11 (by decide) (fun c_6 => ?_) (fun c_6 => ?_)
    ·
      exact absurd c_6 (by decide)
    ·
      refine lv_iload hx hb dX12_sighting_14 (lv_at hl 4 rfl) ?_
      refine lv_i2l (v := p_4.toInt64) hx hb dX12_sighting_16 rfl ?_
      refine lv_lconst (v := 0) hx hb dX12_sighting_17 (by decide) ?_
      refine lv_lconst (v := 1) hx hb dX12_sighting_18 (by decide) ?_
      obtain ⟨hPc, hDc, hFc⟩ := g5_sub3 (wc := []) hP hD hS hA [] (by decide) rfl
      refine va_calli (va_runS (As := [.long p_4.toInt64, .long 0, .long 1]) (rest := []) ⟨hx, hb, hml, hown, hts⟩ (n_in_0_1 l G H.size p_4) (va_cwS 3 hts gS_X12_121 rfl rfl rfl hs_X12_in ⟨Nat.le_of_ble_eq_true rfl, Nat.le_of_ble_eq_true rfl⟩) (g5_preS hPc hK hDc hN hT hS hFc) rfl rfl hl.1 rfl (lv_room (Nat.le_of_ble_eq_true rfl)) dX12_sighting_19 ⟨Nat.le_of_ble_eq_true rfl, Nat.le_of_ble_eq_true rfl⟩) hS (fun q _ h => hFc q h) hFc (fun r u t H1 locs ht hvm hw hB hz1 hk1 hS => ?_)
      obtain ⟨hP1, hD1⟩ := hB
      rw [ht] at hP1
      rcases hw with ⟨i_7, rfl, rfl⟩ | ⟨i_8, rfl, rfl⟩
      ·
        have i_7 : p_4.toInt < 0 ∨ 1 < p_4.toInt := i_7
        have hP := g5_same hP hk1
        generalize H1 = H at hP hS ⊢
        refine lv_if_ne (tgt := 31) hx hb dX12_sighting_22 (by decide) (fun c_9 => ?_) (fun c_9 => ?_)
        ·
          exact absurd c_9 (by decide)
        ·
          refine lv_aload_n hx hb dX12_sighting_25 rfl (lv_at hl 0 rfl) ?_
          refine lv_iconst (v := (-1)) hx hb dX12_sighting_26 (by decide) ?_
          obtain ⟨hPc, hDc, hFc⟩ := g5_sub3 (wc := [(b_o, (oc12 0 u_sa b_rf b_ro b_im b_ke u_fd b_tp u_td u_fr u_to u_so u_wo u_fa u_bd u_nc b_nl u_co b_op b_ar u_le b_pi b_pa u_pd u_od b_ws b_hw u_la b_se b_re u_bk u_va u_su u_ce u_ho u_wy u_bt u_ps b_pt u_tg u_sn b_ip u_ic b_ah b_be b_me u_wd b_tr b_ld u_st b_wn u_id)), (b_rf, (arI G 7 v_rf))]) hP hD hS hA [0, 1] (by decide) rfl
          refine va_calli (va_runV (As := [.int (-1)]) (rest := []) ⟨hx, hb, hml, hown, hts⟩ (n_tell1 l G b_o b_rf b_ro b_im b_ke b_tp b_nl b_op b_ar b_pi b_pa b_ws b_hw b_se b_re b_pt b_ip b_ah b_be b_me b_tr b_ld b_wn H.size 0 u_sa u_fd u_td u_fr u_to u_so u_fa u_bd u_nc u_co u_le u_pd u_od u_la u_bk u_ce u_ho u_wy u_bt u_ps u_tg u_sn u_ic u_wd u_id u_wo u_va u_su u_st v_rf h_u_td h_u_fr h_u_to h_u_bd h_u_nc h_u_co h_u_pd h_u_la h_u_bk h_u_ce h_u_ho h_u_wy h_u_bt h_u_ps h_u_ic h_u_id) (cwV 1 hts gV_X12_125 rfl rfl rfl hv_X12_tell ⟨Nat.le_of_ble_eq_true rfl, Nat.le_of_ble_eq_true rfl⟩) (g5_preV hPc hK hDc hN hT hS hFc (ci := 12) (q0 := 0) rfl rfl) rfl rfl hl.1 rfl (lv_room (Nat.le_of_ble_eq_true rfl)) dX12_sighting_27 ⟨Nat.le_of_ble_eq_true rfl, Nat.le_of_ble_eq_true rfl⟩) hS (fun q _ h => hFc q h) hFc (fun r u t H1 locs ht hvm hw hB hz1 hk1 hS => ?_)
          obtain ⟨hP1, hD1⟩ := hB
          rw [ht] at hP1
          obtain ⟨z11, z12, z13, i_10, rfl, rfl⟩ := hw
          have i_10 : 0 ≤ z12.toInt ∧ z12.toInt ≤ 1 := i_10
          obtain ⟨hP, hD⟩ := va_join (wr := [(b_ro, (arI G 5740 v_ro))]) hP hD [0, 1] [2] rfl rfl (by decide) (by decide) hk1 hFc hP1 hD1
          generalize H1 = H at hP hS ⊢
          refine g5_rs [(b_ro, (arI G 5740 v_ro)), (b_o, (oc12 0 z11 b_rf b_ro b_im b_ke u_fd b_tp u_td u_fr u_to u_so u_wo u_fa u_bd u_nc b_nl u_co b_op b_ar u_le b_pi b_pa u_pd u_od b_ws b_hw u_la b_se b_re u_bk u_va u_su u_ce u_ho u_wy u_bt u_ps b_pt u_tg u_sn b_ip z12 b_ah b_be b_me u_wd b_tr b_ld u_st b_wn u_id)), (b_rf, (arI G 7 z13))] hP hD (fun hP hD => ?_)
          exact W.iret (v := (-1)) hx hb hr (fun t ht hW => ⟨⟨(-1), [(b_o, (oc12 0 z11 b_rf b_ro b_im b_ke u_fd b_tp u_td u_fr u_to u_so u_wo u_fa u_bd u_nc b_nl u_co b_op b_ar u_le b_pi b_pa u_pd u_od b_ws b_hw u_la b_se b_re u_bk u_va u_su u_ce u_ho u_wy u_bt u_ps b_pt u_tg u_sn b_ip z12 b_ah b_be b_me u_wd b_tr b_ld u_st b_wn u_id)), (b_rf, (arI G 7 z13)), (b_ro, (arI G 5740 v_ro))], rfl, ⟨(-1), 0, z11, z12, z13, v_ro, r_ro, i_10, (sight_1 (f := v_ro) (c := p_1) (w := p_2) (h := p_3) (s := p_4) (fun q => by have q2 := q.2; omega)).1.symm, (sight_1 (f := v_ro) (c := p_1) (w := p_2) (h := p_3) (s := p_4) (fun q => by have q2 := q.2; omega)).2.symm, rfl, rfl⟩, by rw [ht]; exact hP.sub [1, 2, 0] rfl, hD.sub [1, 2, 0] (by decide) rfl⟩, hS.F ht⟩) hS.2.2 dX12_sighting_30
      ·
        have i_8 : 0 ≤ p_4.toInt ∧ p_4.toInt ≤ 1 := i_8
        have hP := g5_same hP hk1
        generalize H1 = H at hP hS ⊢
        refine lv_if_ne (tgt := 31) hx hb dX12_sighting_22 (by decide) (fun c_14 => ?_) (fun c_14 => ?_)
        ·
          refine lv_aload_n hx hb dX12_sighting_31 rfl (lv_at hl 0 rfl) ?_
          refine va_get (D := G.1) (ci := 12) (v := .ref b_ro) (C := RX12) (T := TX12) (N := 52) hx hb hts inG_X12 hown hK hP 0 rfl rfl 3 (by decide) (hts _ fl_X12_13) (fun _ h9 => h9) rfl dX12_sighting_32 ?_
          refine lv_iconst (v := 5) hx hb dX12_sighting_35 (by decide) ?_
          refine va_iald hx hb hK hP 2 0 rfl rfl (i := 5) (by unfold vp_in; decide) dX12_sighting_36 ?_
          refine g5_ti (v := (v_ro 5)) rfl ?_
          have hr_15 : 0 ≤ (v_ro 5).toInt ∧ (v_ro 5).toInt ≤ 10 := mi_5 r_ro
          refine lv_istore (lv' := [(5, .int (v_ro 5)), (0, .ref b_o), (1, .int p_1), (2, .int p_2), (3, .int p_3), (4, .int p_4)]) hx hb dX12_sighting_37 hl (by decide) rfl (fun ls hl => ?_)
          refine lv_iconst (v := 0) hx hb dX12_sighting_39 (by decide) ?_
          refine lv_istore (lv' := [(6, .int 0), (5, .int (v_ro 5)), (0, .ref b_o), (1, .int p_1), (2, .int p_2), (3, .int p_3), (4, .int p_4)]) hx hb dX12_sighting_40 hl (by decide) rfl (fun ls hl => ?_)
          refine lv_iconst (v := 0) hx hb dX12_sighting_42 (by decide) ?_
          refine lv_istore (lv' := [(7, .int 0), (6, .int 0), (5, .int (v_ro 5)), (0, .ref b_o), (1, .int p_1), (2, .int p_2), (3, .int p_3), (4, .int p_4)]) hx hb dX12_sighting_43 hl (by decide) rfl (fun ls hl => ?_)
          refine g5_loop (α := (Int32) × (Int32)) (fun (q : (Int32) × (Int32)) (ls : Array Slot) (H : Heap) (locs : List Loc) => match q with | (k45_7, k45_6) => lv_has ls 8 [(6, .int k45_6), (7, .int k45_7), (5, .int (v_ro 5)), (0, .ref b_o), (1, .int p_1), (2, .int p_2), (3, .int p_3), (4, .int p_4)] ∧ va_P G.1 vwCl [(b_o, (oc12 0 u_sa b_rf b_ro b_im b_ke u_fd b_tp u_td u_fr u_to u_so u_wo u_fa u_bd u_nc b_nl u_co b_op b_ar u_le b_pi b_pa u_pd u_od b_ws b_hw u_la b_se b_re u_bk u_va u_su u_ce u_ho u_wy u_bt u_ps b_pt u_tg u_sn b_ip u_ic b_ah b_be b_me u_wd b_tr b_ld u_st b_wn u_id)), (b_rf, (arI G 7 v_rf)), (b_ro, (arI G 5740 v_ro))] H ∧ va_D A [(b_o, (oc12 0 u_sa b_rf b_ro b_im b_ke u_fd b_tp u_td u_fr u_to u_so u_wo u_fa u_bd u_nc b_nl u_co b_op b_ar u_le b_pi b_pa u_pd u_od b_ws b_hw u_la b_se b_re u_bk u_va u_su u_ce u_ho u_wy u_bt u_ps b_pt u_tg u_sn b_ip u_ic b_ah b_be b_me u_wd b_tr b_ld u_st b_wn u_id)), (b_rf, (arI G 7 v_rf)), (b_ro, (arI G 5740 v_ro))] ∧ va_S A s.heap H locs ∧ (0 ≤ k45_7.toInt ∧ k45_7.toInt ≤ 10) ∧ (0 ≤ k45_6.toInt ∧ k45_6.toInt ≤ 10) ∧ (k45_6.toInt ≤ k45_7.toInt) ∧ (k45_7.toInt ≤ (v_ro 5).toInt) ∧ (k45_6.toInt = snS (fun j => v_ro (230 + j)) (v_ro 5).toInt k45_7.toInt.toNat)) (fun (q : (Int32) × (Int32)) => match q with | (k45_7, k45_6) => Int.toNat (10 - k45_7.toInt)) (0, 0) ⟨lv_sub hl [1, 0, 2, 3, 4, 5, 6, 7] rfl, hP, hD, hS, ⟨by decide, by decide⟩, ⟨by decide, by decide⟩, Int.le_refl _, by have z0 : (0 : Int32).toInt = 0 := (by decide); have z5 := mi_5 r_ro; omega, h_snS0⟩ ?_
          rintro ⟨k45_7, k45_6⟩ ls H locs ⟨hl, hP, hD, hS, i_16, i_17, i_18, i_19, i_20⟩ ih_45_21
          have hl : lv_has ls 8 [(6, .int k45_6), (7, .int k45_7), (5, .int (v_ro 5)), (0, .ref b_o), (1, .int p_1), (2, .int p_2), (3, .int p_3), (4, .int p_4)] := hl
          have i_16 : 0 ≤ k45_7.toInt ∧ k45_7.toInt ≤ 10 := i_16
          have i_17 : 0 ≤ k45_6.toInt ∧ k45_6.toInt ≤ 10 := i_17
          have i_18 : k45_6.toInt ≤ k45_7.toInt := i_18
          have i_19 : k45_7.toInt ≤ (v_ro 5).toInt := i_19
          have i_20 : k45_6.toInt = snS (fun j => v_ro (230 + j)) (v_ro 5).toInt k45_7.toInt.toNat := i_20
          refine g5_rs [(b_o, (oc12 0 u_sa b_rf b_ro b_im b_ke u_fd b_tp u_td u_fr u_to u_so u_wo u_fa u_bd u_nc b_nl u_co b_op b_ar u_le b_pi b_pa u_pd u_od b_ws b_hw u_la b_se b_re u_bk u_va u_su u_ce u_ho u_wy u_bt u_ps b_pt u_tg u_sn b_ip u_ic b_ah b_be b_me u_wd b_tr b_ld u_st b_wn u_id)), (b_rf, (arI G 7 v_rf)), (b_ro, (arI G 5740 v_ro))] hP hD (fun hP hD => ?_)
          refine lv_iload hx hb dX12_sighting_45 (lv_at hl 1 rfl) ?_
          refine lv_iload hx hb dX12_sighting_47 (lv_at hl 2 rfl) ?_
          refine lv_icmp_ge (tgt := 78) hx hb dX12_sighting_49 (by decide) (fun c_22 => ?_) (fun c_22 => ?_)
          ·
            have i_22 : k45_7.toInt ≥ (v_ro 5).toInt := by have z := g5_ge (a := k45_7.toInt) (b := (v_ro 5).toInt) (by rfl) (by rfl) c_22; omega
            refine lv_iload hx hb dX12_sighting_78 (lv_at hl 2 rfl) ?_
            refine lv_bipush (v := 10) hx hb dX12_sighting_80 (by decide) ?_
            refine lv_icmp_eq (tgt := 97) hx hb dX12_sighting_82 (by decide) (fun c_23 => ?_) (fun c_23 => ?_)
            ·
              have i_23 : (v_ro 5).toInt = 10 := by have z := g5_eq (a := (v_ro 5).toInt) (b := 10) (by rfl) (by decide) c_23; omega
              refine lv_aload_n hx hb dX12_sighting_97 rfl (lv_at hl 3 rfl) ?_
              refine lv_bipush (v := (-5)) hx hb dX12_sighting_98 (by decide) ?_
              obtain ⟨hPc, hDc, hFc⟩ := g5_sub3 (wc := [(b_o, (oc12 0 u_sa b_rf b_ro b_im b_ke u_fd b_tp u_td u_fr u_to u_so u_wo u_fa u_bd u_nc b_nl u_co b_op b_ar u_le b_pi b_pa u_pd u_od b_ws b_hw u_la b_se b_re u_bk u_va u_su u_ce u_ho u_wy u_bt u_ps b_pt u_tg u_sn b_ip u_ic b_ah b_be b_me u_wd b_tr b_ld u_st b_wn u_id)), (b_rf, (arI G 7 v_rf))]) hP hD hS hA [0, 1] (by decide) rfl
              refine va_calli (va_runV (As := [.int (-5)]) (rest := []) ⟨hx, hb, hml, hown, hts⟩ (n_tell5 l G b_o b_rf b_ro b_im b_ke b_tp b_nl b_op b_ar b_pi b_pa b_ws b_hw b_se b_re b_pt b_ip b_ah b_be b_me b_tr b_ld b_wn H.size 0 u_sa u_fd u_td u_fr u_to u_so u_fa u_bd u_nc u_co u_le u_pd u_od u_la u_bk u_ce u_ho u_wy u_bt u_ps u_tg u_sn u_ic u_wd u_id u_wo u_va u_su u_st v_rf h_u_td h_u_fr h_u_to h_u_bd h_u_nc h_u_co h_u_pd h_u_la h_u_bk h_u_ce h_u_ho h_u_wy h_u_bt h_u_ps h_u_ic h_u_id) (cwV 1 hts gV_X12_125 rfl rfl rfl hv_X12_tell ⟨Nat.le_of_ble_eq_true rfl, Nat.le_of_ble_eq_true rfl⟩) (g5_preV hPc hK hDc hN hT hS hFc (ci := 12) (q0 := 0) rfl rfl) rfl rfl hl.1 rfl (lv_room (Nat.le_of_ble_eq_true rfl)) dX12_sighting_100 ⟨Nat.le_of_ble_eq_true rfl, Nat.le_of_ble_eq_true rfl⟩) hS (fun q _ h => hFc q h) hFc (fun r u t H1 locs ht hvm hw hB hz1 hk1 hS => ?_)
              obtain ⟨hP1, hD1⟩ := hB
              rw [ht] at hP1
              obtain ⟨z25, z26, z27, i_24, rfl, rfl⟩ := hw
              have i_24 : 0 ≤ z26.toInt ∧ z26.toInt ≤ 1 := i_24
              obtain ⟨hP, hD⟩ := va_join (wr := [(b_ro, (arI G 5740 v_ro))]) hP hD [0, 1] [2] rfl rfl (by decide) (by decide) hk1 hFc hP1 hD1
              generalize H1 = H at hP hS ⊢
              refine g5_rs [(b_ro, (arI G 5740 v_ro)), (b_o, (oc12 0 z25 b_rf b_ro b_im b_ke u_fd b_tp u_td u_fr u_to u_so u_wo u_fa u_bd u_nc b_nl u_co b_op b_ar u_le b_pi b_pa u_pd u_od b_ws b_hw u_la b_se b_re u_bk u_va u_su u_ce u_ho u_wy u_bt u_ps b_pt u_tg u_sn b_ip z26 b_ah b_be b_me u_wd b_tr b_ld u_st b_wn u_id)), (b_rf, (arI G 7 z27))] hP hD (fun hP hD => ?_)
              exact W.iret (v := (-5)) hx hb hr (fun t ht hW => ⟨⟨(-5), [(b_o, (oc12 0 z25 b_rf b_ro b_im b_ke u_fd b_tp u_td u_fr u_to u_so u_wo u_fa u_bd u_nc b_nl u_co b_op b_ar u_le b_pi b_pa u_pd u_od b_ws b_hw u_la b_se b_re u_bk u_va u_su u_ce u_ho u_wy u_bt u_ps b_pt u_tg u_sn b_ip z26 b_ah b_be b_me u_wd b_tr b_ld u_st b_wn u_id)), (b_rf, (arI G 7 z27)), (b_ro, (arI G 5740 v_ro))], rfl, ⟨(-5), 0, z25, z26, z27, v_ro, r_ro, i_24, (sight_5 (f := v_ro) (c := p_1) (w := p_2) (h := p_3) (s := p_4) ⟨i_1, by omega, by omega⟩ (fun q => q.1 (by omega))).1.symm, (sight_5 (f := v_ro) (c := p_1) (w := p_2) (h := p_3) (s := p_4) ⟨i_1, by omega, by omega⟩ (fun q => q.1 (by omega))).2.symm, rfl, rfl⟩, by rw [ht]; exact hP.sub [1, 2, 0] rfl, hD.sub [1, 2, 0] (by decide) rfl⟩, hS.F ht⟩) hS.2.2 dX12_sighting_103
            ·
              have n_23 : gNe ((v_ro 5).toInt) (10) := by have z := g5_eqN (a := (v_ro 5).toInt) (b := 10) (by rfl) (by decide) c_23; unfold gNe; omega
              have i_23 : (v_ro 5).toInt ≤ 9 := by have z := g5_eqN (a := (v_ro 5).toInt) (b := 10) (by rfl) (by decide) c_23; omega
              refine lv_iload hx hb dX12_sighting_85 (lv_at hl 7 rfl) ?_
              refine lv_iconst (v := 1) hx hb dX12_sighting_87 (by decide) ?_
              refine lv_icmp_ne (tgt := 104) hx hb dX12_sighting_88 (by decide) (fun c_28 => ?_) (fun c_28 => ?_)
              ·
                have n_28 : gNe (p_4.toInt) (1) := by have z := g5_ne (a := p_4.toInt) (b := 1) (by rfl) (by decide) c_28; unfold gNe; omega
                have i_28 : p_4.toInt ≤ 0 := by have z := g5_ne (a := p_4.toInt) (b := 1) (by rfl) (by decide) c_28; omega
                refine lv_sipush (v := 230) hx hb dX12_sighting_104 (by decide) ?_
                refine lv_iconst (v := 4) hx hb dX12_sighting_107 (by decide) ?_
                refine lv_iload hx hb dX12_sighting_108 (lv_at hl 2 rfl) ?_
                refine lv_imul hx hb dX12_sighting_110 ?_
                have t_29 : (4 * (v_ro 5)).toInt = 4 * (v_ro 5).toInt := g5_imul (a := 4) (b := (v_ro 5).toInt) (by decide) (by rfl) (by omega) (by omega)
                refine lv_iadd hx hb dX12_sighting_111 ?_
                have t_30 : (230 + (4 * (v_ro 5))).toInt = 230 + (4 * (v_ro 5)).toInt := g5_iadd (a := 230) (b := (4 * (v_ro 5)).toInt) (by decide) (by rfl) (by omega) (by omega)
                refine lv_istore (lv' := [(7, .int (230 + (4 * (v_ro 5)))), (6, .int k45_6), (5, .int (v_ro 5)), (0, .ref b_o), (1, .int p_1), (2, .int p_2), (3, .int p_3), (4, .int p_4)]) hx hb dX12_sighting_112 hl (by decide) rfl (fun ls hl => ?_)
                refine lv_aload_n hx hb dX12_sighting_114 rfl (lv_at hl 3 rfl) ?_
                refine va_get (D := G.1) (ci := 12) (v := .ref b_ro) (C := RX12) (T := TX12) (N := 52) hx hb hts inG_X12 hown hK hP 0 rfl rfl 3 (by decide) (hts _ fl_X12_13) (fun _ h9 => h9) rfl dX12_sighting_115 ?_
                refine lv_iload hx hb dX12_sighting_118 (lv_at hl 0 rfl) ?_
                refine lv_iload_n hx hb dX12_sighting_120 rfl (lv_at hl 4 rfl) ?_
                refine va_iast hx hb hK hP hD hS 2 0 rfl rfl (i := (230 + (4 * (v_ro 5)))) (x := p_1) (vp_in_iff.mpr ⟨by omega, by omega⟩) dX12_sighting_121 (fun H locs hP hD hS => ?_)
                refine g5_rs [(b_o, (oc12 0 u_sa b_rf b_ro b_im b_ke u_fd b_tp u_td u_fr u_to u_so u_wo u_fa u_bd u_nc b_nl u_co b_op b_ar u_le b_pi b_pa u_pd u_od b_ws b_hw u_la b_se b_re u_bk u_va u_su u_ce u_ho u_wy u_bt u_ps b_pt u_tg u_sn b_ip u_ic b_ah b_be b_me u_wd b_tr b_ld u_st b_wn u_id)), (b_rf, (arI G 7 v_rf)), (b_ro, (arI G 5740 (upd v_ro (230 + (4 * (v_ro 5))).toNatClampNeg p_1)))] hP hD (fun hP hD => ?_)
                refine lv_aload_n hx hb dX12_sighting_122 rfl (lv_at hl 3 rfl) ?_
                refine va_get (D := G.1) (ci := 12) (v := .ref b_ro) (C := RX12) (T := TX12) (N := 52) hx hb hts inG_X12 hown hK hP 0 rfl rfl 3 (by decide) (hts _ fl_X12_13) (fun _ h9 => h9) rfl dX12_sighting_123 ?_
                refine lv_iload hx hb dX12_sighting_126 (lv_at hl 0 rfl) ?_
                refine lv_iconst (v := 1) hx hb dX12_sighting_128 (by decide) ?_
                refine lv_iadd hx hb dX12_sighting_129 ?_
                have t_31 : ((230 + (4 * (v_ro 5))) + 1).toInt = (230 + (4 * (v_ro 5))).toInt + 1 := g5_iadd (a := (230 + (4 * (v_ro 5))).toInt) (b := 1) (by rfl) (by decide) (by omega) (by omega)
                refine lv_iload_n hx hb dX12_sighting_130 rfl (lv_at hl 5 rfl) ?_
                refine va_iast hx hb hK hP hD hS 2 0 rfl rfl (i := ((230 + (4 * (v_ro 5))) + 1)) (x := p_2) (vp_in_iff.mpr ⟨by omega, by omega⟩) dX12_sighting_131 (fun H locs hP hD hS => ?_)
                refine g5_rs [(b_o, (oc12 0 u_sa b_rf b_ro b_im b_ke u_fd b_tp u_td u_fr u_to u_so u_wo u_fa u_bd u_nc b_nl u_co b_op b_ar u_le b_pi b_pa u_pd u_od b_ws b_hw u_la b_se b_re u_bk u_va u_su u_ce u_ho u_wy u_bt u_ps b_pt u_tg u_sn b_ip u_ic b_ah b_be b_me u_wd b_tr b_ld u_st b_wn u_id)), (b_rf, (arI G 7 v_rf)), (b_ro, (arI G 5740 (upd (upd v_ro (230 + (4 * (v_ro 5))).toNatClampNeg p_1) ((230 + (4 * (v_ro 5))) + 1).toNatClampNeg p_2)))] hP hD (fun hP hD => ?_)
                refine lv_aload_n hx hb dX12_sighting_132 rfl (lv_at hl 3 rfl) ?_
                refine va_get (D := G.1) (ci := 12) (v := .ref b_ro) (C := RX12) (T := TX12) (N := 52) hx hb hts inG_X12 hown hK hP 0 rfl rfl 3 (by decide) (hts _ fl_X12_13) (fun _ h9 => h9) rfl dX12_sighting_133 ?_
                refine lv_iload hx hb dX12_sighting_136 (lv_at hl 0 rfl) ?_
                refine lv_iconst (v := 2) hx hb dX12_sighting_138 (by decide) ?_
                refine lv_iadd hx hb dX12_sighting_139 ?_
                have t_32 : ((230 + (4 * (v_ro 5))) + 2).toInt = (230 + (4 * (v_ro 5))).toInt + 2 := g5_iadd (a := (230 + (4 * (v_ro 5))).toInt) (b := 2) (by rfl) (by decide) (by omega) (by omega)
                refine lv_iload_n hx hb dX12_sighting_140 rfl (lv_at hl 6 rfl) ?_
                refine va_iast hx hb hK hP hD hS 2 0 rfl rfl (i := ((230 + (4 * (v_ro 5))) + 2)) (x := p_3) (vp_in_iff.mpr ⟨by omega, by omega⟩) dX12_sighting_141 (fun H locs hP hD hS => ?_)
                refine g5_rs [(b_o, (oc12 0 u_sa b_rf b_ro b_im b_ke u_fd b_tp u_td u_fr u_to u_so u_wo u_fa u_bd u_nc b_nl u_co b_op b_ar u_le b_pi b_pa u_pd u_od b_ws b_hw u_la b_se b_re u_bk u_va u_su u_ce u_ho u_wy u_bt u_ps b_pt u_tg u_sn b_ip u_ic b_ah b_be b_me u_wd b_tr b_ld u_st b_wn u_id)), (b_rf, (arI G 7 v_rf)), (b_ro, (arI G 5740 (upd (upd (upd v_ro (230 + (4 * (v_ro 5))).toNatClampNeg p_1) ((230 + (4 * (v_ro 5))) + 1).toNatClampNeg p_2) ((230 + (4 * (v_ro 5))) + 2).toNatClampNeg p_3)))] hP hD (fun hP hD => ?_)
                refine lv_aload_n hx hb dX12_sighting_142 rfl (lv_at hl 3 rfl) ?_
                refine va_get (D := G.1) (ci := 12) (v := .ref b_ro) (C := RX12) (T := TX12) (N := 52) hx hb hts inG_X12 hown hK hP 0 rfl rfl 3 (by decide) (hts _ fl_X12_13) (fun _ h9 => h9) rfl dX12_sighting_143 ?_
                refine lv_iload hx hb dX12_sighting_146 (lv_at hl 0 rfl) ?_
                refine lv_iconst (v := 3) hx hb dX12_sighting_148 (by decide) ?_
                refine lv_iadd hx hb dX12_sighting_149 ?_
                have t_33 : ((230 + (4 * (v_ro 5))) + 3).toInt = (230 + (4 * (v_ro 5))).toInt + 3 := g5_iadd (a := (230 + (4 * (v_ro 5))).toInt) (b := 3) (by rfl) (by decide) (by omega) (by omega)
                refine lv_iload hx hb dX12_sighting_150 (lv_at hl 7 rfl) ?_
                refine va_iast hx hb hK hP hD hS 2 0 rfl rfl (i := ((230 + (4 * (v_ro 5))) + 3)) (x := p_4) (vp_in_iff.mpr ⟨by omega, by omega⟩) dX12_sighting_152 (fun H locs hP hD hS => ?_)
                refine g5_rs [(b_o, (oc12 0 u_sa b_rf b_ro b_im b_ke u_fd b_tp u_td u_fr u_to u_so u_wo u_fa u_bd u_nc b_nl u_co b_op b_ar u_le b_pi b_pa u_pd u_od b_ws b_hw u_la b_se b_re u_bk u_va u_su u_ce u_ho u_wy u_bt u_ps b_pt u_tg u_sn b_ip u_ic b_ah b_be b_me u_wd b_tr b_ld u_st b_wn u_id)), (b_rf, (arI G 7 v_rf)), (b_ro, (arI G 5740 (upd (upd (upd (upd v_ro (230 + (4 * (v_ro 5))).toNatClampNeg p_1) ((230 + (4 * (v_ro 5))) + 1).toNatClampNeg p_2) ((230 + (4 * (v_ro 5))) + 2).toNatClampNeg p_3) ((230 + (4 * (v_ro 5))) + 3).toNatClampNeg p_4)))] hP hD (fun hP hD => ?_)
                refine lv_aload_n hx hb dX12_sighting_153 rfl (lv_at hl 3 rfl) ?_
                refine va_get (D := G.1) (ci := 12) (v := .ref b_ro) (C := RX12) (T := TX12) (N := 52) hx hb hts inG_X12 hown hK hP 0 rfl rfl 3 (by decide) (hts _ fl_X12_13) (fun _ h9 => h9) rfl dX12_sighting_154 ?_
                refine lv_iconst (v := 5) hx hb dX12_sighting_157 (by decide) ?_
                refine lv_dup2_11 hx hb dX12_sighting_158 rfl rfl ?_
                refine va_iald hx hb hK hP 2 0 rfl rfl (i := 5) (by unfold vp_in; decide) dX12_sighting_159 ?_
                refine g5_ti (v := ((upd (upd (upd (upd v_ro (230 + (4 * (v_ro 5))).toNatClampNeg p_1) ((230 + (4 * (v_ro 5))) + 1).toNatClampNeg p_2) ((230 + (4 * (v_ro 5))) + 2).toNatClampNeg p_3) ((230 + (4 * (v_ro 5))) + 3).toNatClampNeg p_4) 5)) rfl ?_
                have hu_34 : ((upd (upd (upd (upd v_ro (230 + (4 * (v_ro 5))).toNatClampNeg p_1) ((230 + (4 * (v_ro 5))) + 1).toNatClampNeg p_2) ((230 + (4 * (v_ro 5))) + 2).toNatClampNeg p_3) ((230 + (4 * (v_ro 5))) + 3).toNatClampNeg p_4) 5) = (v_ro 5) := by unfold upd; rw [if_neg (by have zz := g5_clamp ((230 + (4 * (v_ro 5))) + 3); omega), if_neg (by have zz := g5_clamp ((230 + (4 * (v_ro 5))) + 2); omega), if_neg (by have zz := g5_clamp ((230 + (4 * (v_ro 5))) + 1); omega), if_neg (by have zz := g5_clamp (230 + (4 * (v_ro 5))); omega)]
                refine g5_ti (v := (v_ro 5)) hu_34 ?_
                have hr_35 : 0 ≤ (v_ro 5).toInt ∧ (v_ro 5).toInt ≤ 10 := mi_5 r_ro
                refine lv_iconst (v := 1) hx hb dX12_sighting_160 (by decide) ?_
                refine lv_iadd hx hb dX12_sighting_161 ?_
                have t_36 : ((v_ro 5) + 1).toInt = (v_ro 5).toInt + 1 := g5_iadd (a := (v_ro 5).toInt) (b := 1) (by rfl) (by decide) (by omega) (by omega)
                refine va_iast hx hb hK hP hD hS 2 0 rfl rfl (i := 5) (x := ((v_ro 5) + 1)) (by unfold vp_in; decide) dX12_sighting_162 (fun H locs hP hD hS => ?_)
                refine g5_rs [(b_o, (oc12 0 u_sa b_rf b_ro b_im b_ke u_fd b_tp u_td u_fr u_to u_so u_wo u_fa u_bd u_nc b_nl u_co b_op b_ar u_le b_pi b_pa u_pd u_od b_ws b_hw u_la b_se b_re u_bk u_va u_su u_ce u_ho u_wy u_bt u_ps b_pt u_tg u_sn b_ip u_ic b_ah b_be b_me u_wd b_tr b_ld u_st b_wn u_id)), (b_rf, (arI G 7 v_rf)), (b_ro, (arI G 5740 (upd (upd (upd (upd (upd v_ro (230 + (4 * (v_ro 5))).toNatClampNeg p_1) ((230 + (4 * (v_ro 5))) + 1).toNatClampNeg p_2) ((230 + (4 * (v_ro 5))) + 2).toNatClampNeg p_3) ((230 + (4 * (v_ro 5))) + 3).toNatClampNeg p_4) 5 ((v_ro 5) + 1))))] hP hD (fun hP hD => ?_)
                refine lv_aload_n hx hb dX12_sighting_163 rfl (lv_at hl 3 rfl) ?_
                refine lv_iload hx hb dX12_sighting_164 (lv_at hl 2 rfl) ?_
                refine lv_iconst (v := 1) hx hb dX12_sighting_166 (by decide) ?_
                refine lv_iadd hx hb dX12_sighting_167 ?_
                have t_37 : ((v_ro 5) + 1).toInt = (v_ro 5).toInt + 1 := g5_iadd (a := (v_ro 5).toInt) (b := 1) (by rfl) (by decide) (by omega) (by omega)
                obtain ⟨hPc, hDc, hFc⟩ := g5_sub3 (wc := [(b_o, (oc12 0 u_sa b_rf b_ro b_im b_ke u_fd b_tp u_td u_fr u_to u_so u_wo u_fa u_bd u_nc b_nl u_co b_op b_ar u_le b_pi b_pa u_pd u_od b_ws b_hw u_la b_se b_re u_bk u_va u_su u_ce u_ho u_wy u_bt u_ps b_pt u_tg u_sn b_ip u_ic b_ah b_be b_me u_wd b_tr b_ld u_st b_wn u_id)), (b_rf, (arI G 7 v_rf))]) hP hD hS hA [0, 1] (by decide) rfl
                refine va_calli (va_runV (As := [.int ((v_ro 5) + 1)]) (rest := []) ⟨hx, hb, hml, hown, hts⟩ (n_tell l G b_o b_rf b_ro b_im b_ke b_tp b_nl b_op b_ar b_pi b_pa b_ws b_hw b_se b_re b_pt b_ip b_ah b_be b_me b_tr b_ld b_wn H.size 0 u_sa u_fd u_td u_fr u_to u_so u_fa u_bd u_nc u_co u_le u_pd u_od u_la u_bk u_ce u_ho u_wy u_bt u_ps u_tg u_sn u_ic u_wd u_id ((v_ro 5) + 1) u_wo u_va u_su u_st v_rf h_u_td h_u_fr h_u_to h_u_bd h_u_nc h_u_co h_u_pd h_u_la h_u_bk h_u_ce h_u_ho h_u_wy h_u_bt h_u_ps h_u_ic h_u_id ⟨by omega, by omega⟩) (cwV 1 hts gV_X12_125 rfl rfl rfl hv_X12_tell ⟨Nat.le_of_ble_eq_true rfl, Nat.le_of_ble_eq_true rfl⟩) (g5_preV hPc hK hDc hN hT hS hFc (ci := 12) (q0 := 0) rfl rfl) rfl rfl hl.1 rfl (lv_room (Nat.le_of_ble_eq_true rfl)) dX12_sighting_168 ⟨Nat.le_of_ble_eq_true rfl, Nat.le_of_ble_eq_true rfl⟩) hS (fun q _ h => hFc q h) hFc (fun r u t H1 locs ht hvm hw hB hz1 hk1 hS => ?_)
                obtain ⟨hP1, hD1⟩ := hB
                rw [ht] at hP1
                obtain ⟨z39, z40, z41, i_38, rfl, rfl⟩ := hw
                have i_38 : 0 ≤ z40.toInt ∧ z40.toInt ≤ 1 := i_38
                obtain ⟨hP, hD⟩ := va_join (wr := [(b_ro, (arI G 5740 (upd (upd (upd (upd (upd v_ro (230 + (4 * (v_ro 5))).toNatClampNeg p_1) ((230 + (4 * (v_ro 5))) + 1).toNatClampNeg p_2) ((230 + (4 * (v_ro 5))) + 2).toNatClampNeg p_3) ((230 + (4 * (v_ro 5))) + 3).toNatClampNeg p_4) 5 ((v_ro 5) + 1))))]) hP hD [0, 1] [2] rfl rfl (by decide) (by decide) hk1 hFc hP1 hD1
                generalize H1 = H at hP hS ⊢
                refine g5_rs [(b_ro, (arI G 5740 (upd (upd (upd (upd (upd v_ro (230 + (4 * (v_ro 5))).toNatClampNeg p_1) ((230 + (4 * (v_ro 5))) + 1).toNatClampNeg p_2) ((230 + (4 * (v_ro 5))) + 2).toNatClampNeg p_3) ((230 + (4 * (v_ro 5))) + 3).toNatClampNeg p_4) 5 ((v_ro 5) + 1)))), (b_o, (oc12 0 z39 b_rf b_ro b_im b_ke u_fd b_tp u_td u_fr u_to u_so u_wo u_fa u_bd u_nc b_nl u_co b_op b_ar u_le b_pi b_pa u_pd u_od b_ws b_hw u_la b_se b_re u_bk u_va u_su u_ce u_ho u_wy u_bt u_ps b_pt u_tg u_sn b_ip z40 b_ah b_be b_me u_wd b_tr b_ld u_st b_wn u_id)), (b_rf, (arI G 7 z41))] hP hD (fun hP hD => ?_)
                exact W.iret (v := ((v_ro 5) + 1)) hx hb hr (fun t ht hW => ⟨⟨((v_ro 5) + 1), [(b_o, (oc12 0 z39 b_rf b_ro b_im b_ke u_fd b_tp u_td u_fr u_to u_so u_wo u_fa u_bd u_nc b_nl u_co b_op b_ar u_le b_pi b_pa u_pd u_od b_ws b_hw u_la b_se b_re u_bk u_va u_su u_ce u_ho u_wy u_bt u_ps b_pt u_tg u_sn b_ip z40 b_ah b_be b_me u_wd b_tr b_ld u_st b_wn u_id)), (b_rf, (arI G 7 z41)), (b_ro, (arI G 5740 (upd (upd (upd (upd (upd v_ro (230 + (4 * (v_ro 5))).toNatClampNeg p_1) ((230 + (4 * (v_ro 5))) + 1).toNatClampNeg p_2) ((230 + (4 * (v_ro 5))) + 2).toNatClampNeg p_3) ((230 + (4 * (v_ro 5))) + 3).toNatClampNeg p_4) 5 ((v_ro 5) + 1))))], rfl, ⟨((v_ro 5) + 1), 0, z39, z40, z41, (upd (upd (upd (upd (upd v_ro (230 + (4 * (v_ro 5))).toNatClampNeg p_1) ((230 + (4 * (v_ro 5))) + 1).toNatClampNeg p_2) ((230 + (4 * (v_ro 5))) + 2).toNatClampNeg p_3) ((230 + (4 * (v_ro 5))) + 3).toNatClampNeg p_4) 5 ((v_ro 5) + 1)), mi_sight r_ro (by omega) (by omega) (by omega) (by omega) (by omega) (by omega) (by omega) (by omega) (by omega) (by omega) (by have y9 := i_20; rw [show k45_7.toInt = (v_ro 5).toInt by omega] at y9; have m9 : snS (fun j => v_ro (230 + j)) (v_ro 5).toInt (v_ro 5).toInt.toNat ≤ 5 := r_ro.2.1; show snS (fun j => v_ro (230 + j)) (v_ro 5).toInt (v_ro 5).toInt.toNat + p_4.toInt ≤ 5; omega), i_38, (sight_0 (f := v_ro) (c := p_1) (w := p_2) (h := p_3) (s := p_4) ⟨i_1, by omega, by omega⟩ ⟨by omega, fun q => by have q1 := q.1; omega⟩).1.symm, (mr4 (f := v_ro) (ci := 5) (B := 230) (n := (v_ro 5).toInt.toNat) (by omega) (by have zz := g5_clamp (230 + (4 * (v_ro 5))); omega) (by have zz := g5_clamp ((230 + (4 * (v_ro 5))) + 1); omega) (by have zz := g5_clamp ((230 + (4 * (v_ro 5))) + 2); omega) (by have zz := g5_clamp ((230 + (4 * (v_ro 5))) + 3); omega)).trans (sight_0 (f := v_ro) (c := p_1) (w := p_2) (h := p_3) (s := p_4) ⟨i_1, by omega, by omega⟩ ⟨by omega, fun q => by have q1 := q.1; omega⟩).2.symm, rfl, rfl⟩, by rw [ht]; exact hP.sub [1, 2, 0] rfl, hD.sub [1, 2, 0] (by decide) rfl⟩, hS.F ht⟩) hS.2.2 dX12_sighting_171
              ·
                have i_28 : p_4.toInt = 1 := by have z := g5_neN (a := p_4.toInt) (b := 1) (by rfl) (by decide) c_28; omega
                refine lv_iload hx hb dX12_sighting_91 (lv_at hl 0 rfl) ?_
                refine lv_iconst (v := 5) hx hb dX12_sighting_93 (by decide) ?_
                refine lv_icmp_ne (tgt := 104) hx hb dX12_sighting_94 (by decide) (fun c_42 => ?_) (fun c_42 => ?_)
                ·
                  have n_42 : gNe (k45_6.toInt) (5) := by have z := g5_ne (a := k45_6.toInt) (b := 5) (by rfl) (by decide) c_42; unfold gNe; omega
                  refine lv_sipush (v := 230) hx hb dX12_sighting_104 (by decide) ?_
                  refine lv_iconst (v := 4) hx hb dX12_sighting_107 (by decide) ?_
                  refine lv_iload hx hb dX12_sighting_108 (lv_at hl 2 rfl) ?_
                  refine lv_imul hx hb dX12_sighting_110 ?_
                  have t_43 : (4 * (v_ro 5)).toInt = 4 * (v_ro 5).toInt := g5_imul (a := 4) (b := (v_ro 5).toInt) (by decide) (by rfl) (by omega) (by omega)
                  refine lv_iadd hx hb dX12_sighting_111 ?_
                  have t_44 : (230 + (4 * (v_ro 5))).toInt = 230 + (4 * (v_ro 5)).toInt := g5_iadd (a := 230) (b := (4 * (v_ro 5)).toInt) (by decide) (by rfl) (by omega) (by omega)
                  refine lv_istore (lv' := [(7, .int (230 + (4 * (v_ro 5)))), (6, .int k45_6), (5, .int (v_ro 5)), (0, .ref b_o), (1, .int p_1), (2, .int p_2), (3, .int p_3), (4, .int p_4)]) hx hb dX12_sighting_112 hl (by decide) rfl (fun ls hl => ?_)
                  refine lv_aload_n hx hb dX12_sighting_114 rfl (lv_at hl 3 rfl) ?_
                  refine va_get (D := G.1) (ci := 12) (v := .ref b_ro) (C := RX12) (T := TX12) (N := 52) hx hb hts inG_X12 hown hK hP 0 rfl rfl 3 (by decide) (hts _ fl_X12_13) (fun _ h9 => h9) rfl dX12_sighting_115 ?_
                  refine lv_iload hx hb dX12_sighting_118 (lv_at hl 0 rfl) ?_
                  refine lv_iload_n hx hb dX12_sighting_120 rfl (lv_at hl 4 rfl) ?_
                  refine va_iast hx hb hK hP hD hS 2 0 rfl rfl (i := (230 + (4 * (v_ro 5)))) (x := p_1) (vp_in_iff.mpr ⟨by omega, by omega⟩) dX12_sighting_121 (fun H locs hP hD hS => ?_)
                  refine g5_rs [(b_o, (oc12 0 u_sa b_rf b_ro b_im b_ke u_fd b_tp u_td u_fr u_to u_so u_wo u_fa u_bd u_nc b_nl u_co b_op b_ar u_le b_pi b_pa u_pd u_od b_ws b_hw u_la b_se b_re u_bk u_va u_su u_ce u_ho u_wy u_bt u_ps b_pt u_tg u_sn b_ip u_ic b_ah b_be b_me u_wd b_tr b_ld u_st b_wn u_id)), (b_rf, (arI G 7 v_rf)), (b_ro, (arI G 5740 (upd v_ro (230 + (4 * (v_ro 5))).toNatClampNeg p_1)))] hP hD (fun hP hD => ?_)
                  refine lv_aload_n hx hb dX12_sighting_122 rfl (lv_at hl 3 rfl) ?_
                  refine va_get (D := G.1) (ci := 12) (v := .ref b_ro) (C := RX12) (T := TX12) (N := 52) hx hb hts inG_X12 hown hK hP 0 rfl rfl 3 (by decide) (hts _ fl_X12_13) (fun _ h9 => h9) rfl dX12_sighting_123 ?_
                  refine lv_iload hx hb dX12_sighting_126 (lv_at hl 0 rfl) ?_
                  refine lv_iconst (v := 1) hx hb dX12_sighting_128 (by decide) ?_
                  refine lv_iadd hx hb dX12_sighting_129 ?_
                  have t_45 : ((230 + (4 * (v_ro 5))) + 1).toInt = (230 + (4 * (v_ro 5))).toInt + 1 := g5_iadd (a := (230 + (4 * (v_ro 5))).toInt) (b := 1) (by rfl) (by decide) (by omega) (by omega)
                  refine lv_iload_n hx hb dX12_sighting_130 rfl (lv_at hl 5 rfl) ?_
                  refine va_iast hx hb hK hP hD hS 2 0 rfl rfl (i := ((230 + (4 * (v_ro 5))) + 1)) (x := p_2) (vp_in_iff.mpr ⟨by omega, by omega⟩) dX12_sighting_131 (fun H locs hP hD hS => ?_)
                  refine g5_rs [(b_o, (oc12 0 u_sa b_rf b_ro b_im b_ke u_fd b_tp u_td u_fr u_to u_so u_wo u_fa u_bd u_nc b_nl u_co b_op b_ar u_le b_pi b_pa u_pd u_od b_ws b_hw u_la b_se b_re u_bk u_va u_su u_ce u_ho u_wy u_bt u_ps b_pt u_tg u_sn b_ip u_ic b_ah b_be b_me u_wd b_tr b_ld u_st b_wn u_id)), (b_rf, (arI G 7 v_rf)), (b_ro, (arI G 5740 (upd (upd v_ro (230 + (4 * (v_ro 5))).toNatClampNeg p_1) ((230 + (4 * (v_ro 5))) + 1).toNatClampNeg p_2)))] hP hD (fun hP hD => ?_)
                  refine lv_aload_n hx hb dX12_sighting_132 rfl (lv_at hl 3 rfl) ?_
                  refine va_get (D := G.1) (ci := 12) (v := .ref b_ro) (C := RX12) (T := TX12) (N := 52) hx hb hts inG_X12 hown hK hP 0 rfl rfl 3 (by decide) (hts _ fl_X12_13) (fun _ h9 => h9) rfl dX12_sighting_133 ?_
                  refine lv_iload hx hb dX12_sighting_136 (lv_at hl 0 rfl) ?_
                  refine lv_iconst (v := 2) hx hb dX12_sighting_138 (by decide) ?_
                  refine lv_iadd hx hb dX12_sighting_139 ?_
                  have t_46 : ((230 + (4 * (v_ro 5))) + 2).toInt = (230 + (4 * (v_ro 5))).toInt + 2 := g5_iadd (a := (230 + (4 * (v_ro 5))).toInt) (b := 2) (by rfl) (by decide) (by omega) (by omega)
                  refine lv_iload_n hx hb dX12_sighting_140 rfl (lv_at hl 6 rfl) ?_
                  refine va_iast hx hb hK hP hD hS 2 0 rfl rfl (i := ((230 + (4 * (v_ro 5))) + 2)) (x := p_3) (vp_in_iff.mpr ⟨by omega, by omega⟩) dX12_sighting_141 (fun H locs hP hD hS => ?_)
                  refine g5_rs [(b_o, (oc12 0 u_sa b_rf b_ro b_im b_ke u_fd b_tp u_td u_fr u_to u_so u_wo u_fa u_bd u_nc b_nl u_co b_op b_ar u_le b_pi b_pa u_pd u_od b_ws b_hw u_la b_se b_re u_bk u_va u_su u_ce u_ho u_wy u_bt u_ps b_pt u_tg u_sn b_ip u_ic b_ah b_be b_me u_wd b_tr b_ld u_st b_wn u_id)), (b_rf, (arI G 7 v_rf)), (b_ro, (arI G 5740 (upd (upd (upd v_ro (230 + (4 * (v_ro 5))).toNatClampNeg p_1) ((230 + (4 * (v_ro 5))) + 1).toNatClampNeg p_2) ((230 + (4 * (v_ro 5))) + 2).toNatClampNeg p_3)))] hP hD (fun hP hD => ?_)
                  refine lv_aload_n hx hb dX12_sighting_142 rfl (lv_at hl 3 rfl) ?_
                  refine va_get (D := G.1) (ci := 12) (v := .ref b_ro) (C := RX12) (T := TX12) (N := 52) hx hb hts inG_X12 hown hK hP 0 rfl rfl 3 (by decide) (hts _ fl_X12_13) (fun _ h9 => h9) rfl dX12_sighting_143 ?_
                  refine lv_iload hx hb dX12_sighting_146 (lv_at hl 0 rfl) ?_
                  refine lv_iconst (v := 3) hx hb dX12_sighting_148 (by decide) ?_
                  refine lv_iadd hx hb dX12_sighting_149 ?_
                  have t_47 : ((230 + (4 * (v_ro 5))) + 3).toInt = (230 + (4 * (v_ro 5))).toInt + 3 := g5_iadd (a := (230 + (4 * (v_ro 5))).toInt) (b := 3) (by rfl) (by decide) (by omega) (by omega)
                  refine lv_iload hx hb dX12_sighting_150 (lv_at hl 7 rfl) ?_
                  refine va_iast hx hb hK hP hD hS 2 0 rfl rfl (i := ((230 + (4 * (v_ro 5))) + 3)) (x := p_4) (vp_in_iff.mpr ⟨by omega, by omega⟩) dX12_sighting_152 (fun H locs hP hD hS => ?_)
                  refine g5_rs [(b_o, (oc12 0 u_sa b_rf b_ro b_im b_ke u_fd b_tp u_td u_fr u_to u_so u_wo u_fa u_bd u_nc b_nl u_co b_op b_ar u_le b_pi b_pa u_pd u_od b_ws b_hw u_la b_se b_re u_bk u_va u_su u_ce u_ho u_wy u_bt u_ps b_pt u_tg u_sn b_ip u_ic b_ah b_be b_me u_wd b_tr b_ld u_st b_wn u_id)), (b_rf, (arI G 7 v_rf)), (b_ro, (arI G 5740 (upd (upd (upd (upd v_ro (230 + (4 * (v_ro 5))).toNatClampNeg p_1) ((230 + (4 * (v_ro 5))) + 1).toNatClampNeg p_2) ((230 + (4 * (v_ro 5))) + 2).toNatClampNeg p_3) ((230 + (4 * (v_ro 5))) + 3).toNatClampNeg p_4)))] hP hD (fun hP hD => ?_)
                  refine lv_aload_n hx hb dX12_sighting_153 rfl (lv_at hl 3 rfl) ?_
                  refine va_get (D := G.1) (ci := 12) (v := .ref b_ro) (C := RX12) (T := TX12) (N := 52) hx hb hts inG_X12 hown hK hP 0 rfl rfl 3 (by decide) (hts _ fl_X12_13) (fun _ h9 => h9) rfl dX12_sighting_154 ?_
                  refine lv_iconst (v := 5) hx hb dX12_sighting_157 (by decide) ?_
                  refine lv_dup2_11 hx hb dX12_sighting_158 rfl rfl ?_
                  refine va_iald hx hb hK hP 2 0 rfl rfl (i := 5) (by unfold vp_in; decide) dX12_sighting_159 ?_
                  refine g5_ti (v := ((upd (upd (upd (upd v_ro (230 + (4 * (v_ro 5))).toNatClampNeg p_1) ((230 + (4 * (v_ro 5))) + 1).toNatClampNeg p_2) ((230 + (4 * (v_ro 5))) + 2).toNatClampNeg p_3) ((230 + (4 * (v_ro 5))) + 3).toNatClampNeg p_4) 5)) rfl ?_
                  have hu_48 : ((upd (upd (upd (upd v_ro (230 + (4 * (v_ro 5))).toNatClampNeg p_1) ((230 + (4 * (v_ro 5))) + 1).toNatClampNeg p_2) ((230 + (4 * (v_ro 5))) + 2).toNatClampNeg p_3) ((230 + (4 * (v_ro 5))) + 3).toNatClampNeg p_4) 5) = (v_ro 5) := by unfold upd; rw [if_neg (by have zz := g5_clamp ((230 + (4 * (v_ro 5))) + 3); omega), if_neg (by have zz := g5_clamp ((230 + (4 * (v_ro 5))) + 2); omega), if_neg (by have zz := g5_clamp ((230 + (4 * (v_ro 5))) + 1); omega), if_neg (by have zz := g5_clamp (230 + (4 * (v_ro 5))); omega)]
                  refine g5_ti (v := (v_ro 5)) hu_48 ?_
                  have hr_49 : 0 ≤ (v_ro 5).toInt ∧ (v_ro 5).toInt ≤ 10 := mi_5 r_ro
                  refine lv_iconst (v := 1) hx hb dX12_sighting_160 (by decide) ?_
                  refine lv_iadd hx hb dX12_sighting_161 ?_
                  have t_50 : ((v_ro 5) + 1).toInt = (v_ro 5).toInt + 1 := g5_iadd (a := (v_ro 5).toInt) (b := 1) (by rfl) (by decide) (by omega) (by omega)
                  refine va_iast hx hb hK hP hD hS 2 0 rfl rfl (i := 5) (x := ((v_ro 5) + 1)) (by unfold vp_in; decide) dX12_sighting_162 (fun H locs hP hD hS => ?_)
                  refine g5_rs [(b_o, (oc12 0 u_sa b_rf b_ro b_im b_ke u_fd b_tp u_td u_fr u_to u_so u_wo u_fa u_bd u_nc b_nl u_co b_op b_ar u_le b_pi b_pa u_pd u_od b_ws b_hw u_la b_se b_re u_bk u_va u_su u_ce u_ho u_wy u_bt u_ps b_pt u_tg u_sn b_ip u_ic b_ah b_be b_me u_wd b_tr b_ld u_st b_wn u_id)), (b_rf, (arI G 7 v_rf)), (b_ro, (arI G 5740 (upd (upd (upd (upd (upd v_ro (230 + (4 * (v_ro 5))).toNatClampNeg p_1) ((230 + (4 * (v_ro 5))) + 1).toNatClampNeg p_2) ((230 + (4 * (v_ro 5))) + 2).toNatClampNeg p_3) ((230 + (4 * (v_ro 5))) + 3).toNatClampNeg p_4) 5 ((v_ro 5) + 1))))] hP hD (fun hP hD => ?_)
                  refine lv_aload_n hx hb dX12_sighting_163 rfl (lv_at hl 3 rfl) ?_
                  refine lv_iload hx hb dX12_sighting_164 (lv_at hl 2 rfl) ?_
                  refine lv_iconst (v := 1) hx hb dX12_sighting_166 (by decide) ?_
                  refine lv_iadd hx hb dX12_sighting_167 ?_
                  have t_51 : ((v_ro 5) + 1).toInt = (v_ro 5).toInt + 1 := g5_iadd (a := (v_ro 5).toInt) (b := 1) (by rfl) (by decide) (by omega) (by omega)
                  obtain ⟨hPc, hDc, hFc⟩ := g5_sub3 (wc := [(b_o, (oc12 0 u_sa b_rf b_ro b_im b_ke u_fd b_tp u_td u_fr u_to u_so u_wo u_fa u_bd u_nc b_nl u_co b_op b_ar u_le b_pi b_pa u_pd u_od b_ws b_hw u_la b_se b_re u_bk u_va u_su u_ce u_ho u_wy u_bt u_ps b_pt u_tg u_sn b_ip u_ic b_ah b_be b_me u_wd b_tr b_ld u_st b_wn u_id)), (b_rf, (arI G 7 v_rf))]) hP hD hS hA [0, 1] (by decide) rfl
                  refine va_calli (va_runV (As := [.int ((v_ro 5) + 1)]) (rest := []) ⟨hx, hb, hml, hown, hts⟩ (n_tell l G b_o b_rf b_ro b_im b_ke b_tp b_nl b_op b_ar b_pi b_pa b_ws b_hw b_se b_re b_pt b_ip b_ah b_be b_me b_tr b_ld b_wn H.size 0 u_sa u_fd u_td u_fr u_to u_so u_fa u_bd u_nc u_co u_le u_pd u_od u_la u_bk u_ce u_ho u_wy u_bt u_ps u_tg u_sn u_ic u_wd u_id ((v_ro 5) + 1) u_wo u_va u_su u_st v_rf h_u_td h_u_fr h_u_to h_u_bd h_u_nc h_u_co h_u_pd h_u_la h_u_bk h_u_ce h_u_ho h_u_wy h_u_bt h_u_ps h_u_ic h_u_id ⟨by omega, by omega⟩) (cwV 1 hts gV_X12_125 rfl rfl rfl hv_X12_tell ⟨Nat.le_of_ble_eq_true rfl, Nat.le_of_ble_eq_true rfl⟩) (g5_preV hPc hK hDc hN hT hS hFc (ci := 12) (q0 := 0) rfl rfl) rfl rfl hl.1 rfl (lv_room (Nat.le_of_ble_eq_true rfl)) dX12_sighting_168 ⟨Nat.le_of_ble_eq_true rfl, Nat.le_of_ble_eq_true rfl⟩) hS (fun q _ h => hFc q h) hFc (fun r u t H1 locs ht hvm hw hB hz1 hk1 hS => ?_)
                  obtain ⟨hP1, hD1⟩ := hB
                  rw [ht] at hP1
                  obtain ⟨z53, z54, z55, i_52, rfl, rfl⟩ := hw
                  have i_52 : 0 ≤ z54.toInt ∧ z54.toInt ≤ 1 := i_52
                  obtain ⟨hP, hD⟩ := va_join (wr := [(b_ro, (arI G 5740 (upd (upd (upd (upd (upd v_ro (230 + (4 * (v_ro 5))).toNatClampNeg p_1) ((230 + (4 * (v_ro 5))) + 1).toNatClampNeg p_2) ((230 + (4 * (v_ro 5))) + 2).toNatClampNeg p_3) ((230 + (4 * (v_ro 5))) + 3).toNatClampNeg p_4) 5 ((v_ro 5) + 1))))]) hP hD [0, 1] [2] rfl rfl (by decide) (by decide) hk1 hFc hP1 hD1
                  generalize H1 = H at hP hS ⊢
                  refine g5_rs [(b_ro, (arI G 5740 (upd (upd (upd (upd (upd v_ro (230 + (4 * (v_ro 5))).toNatClampNeg p_1) ((230 + (4 * (v_ro 5))) + 1).toNatClampNeg p_2) ((230 + (4 * (v_ro 5))) + 2).toNatClampNeg p_3) ((230 + (4 * (v_ro 5))) + 3).toNatClampNeg p_4) 5 ((v_ro 5) + 1)))), (b_o, (oc12 0 z53 b_rf b_ro b_im b_ke u_fd b_tp u_td u_fr u_to u_so u_wo u_fa u_bd u_nc b_nl u_co b_op b_ar u_le b_pi b_pa u_pd u_od b_ws b_hw u_la b_se b_re u_bk u_va u_su u_ce u_ho u_wy u_bt u_ps b_pt u_tg u_sn b_ip z54 b_ah b_be b_me u_wd b_tr b_ld u_st b_wn u_id)), (b_rf, (arI G 7 z55))] hP hD (fun hP hD => ?_)
                  exact W.iret (v := ((v_ro 5) + 1)) hx hb hr (fun t ht hW => ⟨⟨((v_ro 5) + 1), [(b_o, (oc12 0 z53 b_rf b_ro b_im b_ke u_fd b_tp u_td u_fr u_to u_so u_wo u_fa u_bd u_nc b_nl u_co b_op b_ar u_le b_pi b_pa u_pd u_od b_ws b_hw u_la b_se b_re u_bk u_va u_su u_ce u_ho u_wy u_bt u_ps b_pt u_tg u_sn b_ip z54 b_ah b_be b_me u_wd b_tr b_ld u_st b_wn u_id)), (b_rf, (arI G 7 z55)), (b_ro, (arI G 5740 (upd (upd (upd (upd (upd v_ro (230 + (4 * (v_ro 5))).toNatClampNeg p_1) ((230 + (4 * (v_ro 5))) + 1).toNatClampNeg p_2) ((230 + (4 * (v_ro 5))) + 2).toNatClampNeg p_3) ((230 + (4 * (v_ro 5))) + 3).toNatClampNeg p_4) 5 ((v_ro 5) + 1))))], rfl, ⟨((v_ro 5) + 1), 0, z53, z54, z55, (upd (upd (upd (upd (upd v_ro (230 + (4 * (v_ro 5))).toNatClampNeg p_1) ((230 + (4 * (v_ro 5))) + 1).toNatClampNeg p_2) ((230 + (4 * (v_ro 5))) + 2).toNatClampNeg p_3) ((230 + (4 * (v_ro 5))) + 3).toNatClampNeg p_4) 5 ((v_ro 5) + 1)), mi_sight r_ro (by omega) (by omega) (by omega) (by omega) (by omega) (by omega) (by omega) (by omega) (by omega) (by omega) (by have y9 := i_20; rw [show k45_7.toInt = (v_ro 5).toInt by omega] at y9; have m9 : snS (fun j => v_ro (230 + j)) (v_ro 5).toInt (v_ro 5).toInt.toNat ≤ 5 := r_ro.2.1; show snS (fun j => v_ro (230 + j)) (v_ro 5).toInt (v_ro 5).toInt.toNat + p_4.toInt ≤ 5; have q9 : ¬ k45_6.toInt = 5 := n_42; omega), i_52, (sight_0 (f := v_ro) (c := p_1) (w := p_2) (h := p_3) (s := p_4) ⟨i_1, by omega, by omega⟩ ⟨by omega, fun q => n_42 (by have q2 := q.2; have y9 := i_20; rw [show k45_7.toInt = (v_ro 5).toInt by omega] at y9; have y8 : k45_6.toInt = mSN v_ro := y9; omega)⟩).1.symm, (mr4 (f := v_ro) (ci := 5) (B := 230) (n := (v_ro 5).toInt.toNat) (by omega) (by have zz := g5_clamp (230 + (4 * (v_ro 5))); omega) (by have zz := g5_clamp ((230 + (4 * (v_ro 5))) + 1); omega) (by have zz := g5_clamp ((230 + (4 * (v_ro 5))) + 2); omega) (by have zz := g5_clamp ((230 + (4 * (v_ro 5))) + 3); omega)).trans (sight_0 (f := v_ro) (c := p_1) (w := p_2) (h := p_3) (s := p_4) ⟨i_1, by omega, by omega⟩ ⟨by omega, fun q => n_42 (by have q2 := q.2; have y9 := i_20; rw [show k45_7.toInt = (v_ro 5).toInt by omega] at y9; have y8 : k45_6.toInt = mSN v_ro := y9; omega)⟩).2.symm, rfl, rfl⟩, by rw [ht]; exact hP.sub [1, 2, 0] rfl, hD.sub [1, 2, 0] (by decide) rfl⟩, hS.F ht⟩) hS.2.2 dX12_sighting_171
                ·
                  have i_42 : k45_6.toInt = 5 := by have z := g5_neN (a := k45_6.toInt) (b := 5) (by rfl) (by decide) c_42; omega
                  refine lv_aload_n hx hb dX12_sighting_97 rfl (lv_at hl 3 rfl) ?_
                  refine lv_bipush (v := (-5)) hx hb dX12_sighting_98 (by decide) ?_
                  obtain ⟨hPc, hDc, hFc⟩ := g5_sub3 (wc := [(b_o, (oc12 0 u_sa b_rf b_ro b_im b_ke u_fd b_tp u_td u_fr u_to u_so u_wo u_fa u_bd u_nc b_nl u_co b_op b_ar u_le b_pi b_pa u_pd u_od b_ws b_hw u_la b_se b_re u_bk u_va u_su u_ce u_ho u_wy u_bt u_ps b_pt u_tg u_sn b_ip u_ic b_ah b_be b_me u_wd b_tr b_ld u_st b_wn u_id)), (b_rf, (arI G 7 v_rf))]) hP hD hS hA [0, 1] (by decide) rfl
                  refine va_calli (va_runV (As := [.int (-5)]) (rest := []) ⟨hx, hb, hml, hown, hts⟩ (n_tell5 l G b_o b_rf b_ro b_im b_ke b_tp b_nl b_op b_ar b_pi b_pa b_ws b_hw b_se b_re b_pt b_ip b_ah b_be b_me b_tr b_ld b_wn H.size 0 u_sa u_fd u_td u_fr u_to u_so u_fa u_bd u_nc u_co u_le u_pd u_od u_la u_bk u_ce u_ho u_wy u_bt u_ps u_tg u_sn u_ic u_wd u_id u_wo u_va u_su u_st v_rf h_u_td h_u_fr h_u_to h_u_bd h_u_nc h_u_co h_u_pd h_u_la h_u_bk h_u_ce h_u_ho h_u_wy h_u_bt h_u_ps h_u_ic h_u_id) (cwV 1 hts gV_X12_125 rfl rfl rfl hv_X12_tell ⟨Nat.le_of_ble_eq_true rfl, Nat.le_of_ble_eq_true rfl⟩) (g5_preV hPc hK hDc hN hT hS hFc (ci := 12) (q0 := 0) rfl rfl) rfl rfl hl.1 rfl (lv_room (Nat.le_of_ble_eq_true rfl)) dX12_sighting_100 ⟨Nat.le_of_ble_eq_true rfl, Nat.le_of_ble_eq_true rfl⟩) hS (fun q _ h => hFc q h) hFc (fun r u t H1 locs ht hvm hw hB hz1 hk1 hS => ?_)
                  obtain ⟨hP1, hD1⟩ := hB
                  rw [ht] at hP1
                  obtain ⟨z57, z58, z59, i_56, rfl, rfl⟩ := hw
                  have i_56 : 0 ≤ z58.toInt ∧ z58.toInt ≤ 1 := i_56
                  obtain ⟨hP, hD⟩ := va_join (wr := [(b_ro, (arI G 5740 v_ro))]) hP hD [0, 1] [2] rfl rfl (by decide) (by decide) hk1 hFc hP1 hD1
                  generalize H1 = H at hP hS ⊢
                  refine g5_rs [(b_ro, (arI G 5740 v_ro)), (b_o, (oc12 0 z57 b_rf b_ro b_im b_ke u_fd b_tp u_td u_fr u_to u_so u_wo u_fa u_bd u_nc b_nl u_co b_op b_ar u_le b_pi b_pa u_pd u_od b_ws b_hw u_la b_se b_re u_bk u_va u_su u_ce u_ho u_wy u_bt u_ps b_pt u_tg u_sn b_ip z58 b_ah b_be b_me u_wd b_tr b_ld u_st b_wn u_id)), (b_rf, (arI G 7 z59))] hP hD (fun hP hD => ?_)
                  exact W.iret (v := (-5)) hx hb hr (fun t ht hW => ⟨⟨(-5), [(b_o, (oc12 0 z57 b_rf b_ro b_im b_ke u_fd b_tp u_td u_fr u_to u_so u_wo u_fa u_bd u_nc b_nl u_co b_op b_ar u_le b_pi b_pa u_pd u_od b_ws b_hw u_la b_se b_re u_bk u_va u_su u_ce u_ho u_wy u_bt u_ps b_pt u_tg u_sn b_ip z58 b_ah b_be b_me u_wd b_tr b_ld u_st b_wn u_id)), (b_rf, (arI G 7 z59)), (b_ro, (arI G 5740 v_ro))], rfl, ⟨(-5), 0, z57, z58, z59, v_ro, r_ro, i_56, (sight_5 (f := v_ro) (c := p_1) (w := p_2) (h := p_3) (s := p_4) ⟨i_1, by omega, by omega⟩ (fun q => q.2 ⟨by omega, by have y9 := i_20; rw [show k45_7.toInt = (v_ro 5).toInt by omega] at y9; have y8 : k45_6.toInt = mSN v_ro := y9; omega⟩)).1.symm, (sight_5 (f := v_ro) (c := p_1) (w := p_2) (h := p_3) (s := p_4) ⟨i_1, by omega, by omega⟩ (fun q => q.2 ⟨by omega, by have y9 := i_20; rw [show k45_7.toInt = (v_ro 5).toInt by omega] at y9; have y8 : k45_6.toInt = mSN v_ro := y9; omega⟩)).2.symm, rfl, rfl⟩, by rw [ht]; exact hP.sub [1, 2, 0] rfl, hD.sub [1, 2, 0] (by decide) rfl⟩, hS.F ht⟩) hS.2.2 dX12_sighting_103
          ·
            have i_22 : k45_7.toInt < (v_ro 5).toInt := by have z := g5_geN (a := k45_7.toInt) (b := (v_ro 5).toInt) (by rfl) (by rfl) c_22; omega
            refine lv_iload hx hb dX12_sighting_52 (lv_at hl 0 rfl) ?_
            refine lv_aload_n hx hb dX12_sighting_54 rfl (lv_at hl 3 rfl) ?_
            refine va_get (D := G.1) (ci := 12) (v := .ref b_ro) (C := RX12) (T := TX12) (N := 52) hx hb hts inG_X12 hown hK hP 0 rfl rfl 3 (by decide) (hts _ fl_X12_13) (fun _ h9 => h9) rfl dX12_sighting_55 ?_
            refine lv_sipush (v := 230) hx hb dX12_sighting_58 (by decide) ?_
            refine lv_iconst (v := 4) hx hb dX12_sighting_61 (by decide) ?_
            refine lv_iload hx hb dX12_sighting_62 (lv_at hl 1 rfl) ?_
            refine lv_imul hx hb dX12_sighting_64 ?_
            have t_60 : (4 * k45_7).toInt = 4 * k45_7.toInt := g5_imul (a := 4) (b := k45_7.toInt) (by decide) (by rfl) (by omega) (by omega)
            refine lv_iadd hx hb dX12_sighting_65 ?_
            have t_61 : (230 + (4 * k45_7)).toInt = 230 + (4 * k45_7).toInt := g5_iadd (a := 230) (b := (4 * k45_7).toInt) (by decide) (by rfl) (by omega) (by omega)
            refine lv_iconst (v := 3) hx hb dX12_sighting_66 (by decide) ?_
            refine lv_iadd hx hb dX12_sighting_67 ?_
            have t_62 : ((230 + (4 * k45_7)) + 3).toInt = (230 + (4 * k45_7)).toInt + 3 := g5_iadd (a := (230 + (4 * k45_7)).toInt) (b := 3) (by rfl) (by decide) (by omega) (by omega)
            refine va_iald hx hb hK hP 2 0 rfl rfl (i := ((230 + (4 * k45_7)) + 3)) (vp_in_iff.mpr ⟨by omega, by omega⟩) dX12_sighting_68 ?_
            have hv_63 : 0 ≤ (v_ro ((230 + (4 * k45_7)) + 3).toNatClampNeg).toInt ∧ (v_ro ((230 + (4 * k45_7)) + 3).toNatClampNeg).toInt ≤ 1 := mi_230_3 r_ro (by have zz := g5_clamp ((230 + (4 * k45_7)) + 3); omega) (by have zz := g5_clamp ((230 + (4 * k45_7)) + 3); omega) (by have zz := g5_clamp ((230 + (4 * k45_7)) + 3); omega)
            refine lv_iadd hx hb dX12_sighting_69 ?_
            have t_64 : (k45_6 + (v_ro ((230 + (4 * k45_7)) + 3).toNatClampNeg)).toInt = k45_6.toInt + (v_ro ((230 + (4 * k45_7)) + 3).toNatClampNeg).toInt := g5_iadd (a := k45_6.toInt) (b := (v_ro ((230 + (4 * k45_7)) + 3).toNatClampNeg).toInt) (by rfl) (by rfl) (by omega) (by omega)
            refine lv_istore (lv' := [(6, .int (k45_6 + (v_ro ((230 + (4 * k45_7)) + 3).toNatClampNeg))), (7, .int k45_7), (5, .int (v_ro 5)), (0, .ref b_o), (1, .int p_1), (2, .int p_2), (3, .int p_3), (4, .int p_4)]) hx hb dX12_sighting_70 hl (by decide) rfl (fun ls hl => ?_)
            refine lv_iinc (v := (k45_7 + 1)) (lv' := [(7, .int (k45_7 + 1)), (6, .int (k45_6 + (v_ro ((230 + (4 * k45_7)) + 3).toNatClampNeg))), (5, .int (v_ro 5)), (0, .ref b_o), (1, .int p_1), (2, .int p_2), (3, .int p_3), (4, .int p_4)]) hx hb dX12_sighting_72 hl (k := 1) rfl rfl (by decide) rfl (fun ls hl => ?_)
            have t_65 : (k45_7 + 1).toInt = k45_7.toInt + 1 := g5_iadd (a := k45_7.toInt) (b := 1) rfl (by decide) (by omega) (by omega)
            refine lv_goto (tgt := 45) hx hb dX12_sighting_75 (by decide) ?_
            exact ih_45_21 ((k45_7 + 1), (k45_6 + (v_ro ((230 + (4 * k45_7)) + 3).toNatClampNeg))) ls H locs (show Int.toNat (10 - (k45_7 + 1).toInt) < Int.toNat (10 - k45_7.toInt) from g_up (show k45_7.toInt < (k45_7 + 1).toInt by omega) (show k45_7.toInt < 10 by omega)) ⟨lv_sub hl [1, 0, 2, 3, 4, 5, 6, 7] rfl, hP, hD, hS, ⟨by omega, by omega⟩, ⟨by omega, by omega⟩, by omega, by omega, h_snS i_20 (m_tget (x := ((230 + (4 * k45_7)) + 3)) (by omega) (by omega)).symm (m_seen r_ro) (by omega) (by omega) (by omega)⟩
        ·
          exact absurd c_14 (by decide)
  ·
    have i_5 : ¬ okL p_1 p_2 p_3 := i_5
    have hP := g5_same hP hk1
    generalize H1 = H at hP hS ⊢
    refine lv_if_eq (tgt := 25) hx hb dX12_sighting_11 (by decide) (fun c_66 => ?_) (fun c_66 => ?_)
    ·
      refine lv_aload_n hx hb dX12_sighting_25 rfl (lv_at hl 0 rfl) ?_
      refine lv_iconst (v := (-1)) hx hb dX12_sighting_26 (by decide) ?_
      obtain ⟨hPc, hDc, hFc⟩ := g5_sub3 (wc := [(b_o, (oc12 0 u_sa b_rf b_ro b_im b_ke u_fd b_tp u_td u_fr u_to u_so u_wo u_fa u_bd u_nc b_nl u_co b_op b_ar u_le b_pi b_pa u_pd u_od b_ws b_hw u_la b_se b_re u_bk u_va u_su u_ce u_ho u_wy u_bt u_ps b_pt u_tg u_sn b_ip u_ic b_ah b_be b_me u_wd b_tr b_ld u_st b_wn u_id)), (b_rf, (arI G 7 v_rf))]) hP hD hS hA [0, 1] (by decide) rfl
      refine va_calli (va_runV (As := [.int (-1)]) (rest := []) ⟨hx, hb, hml, hown, hts⟩ (n_tell1 l G b_o b_rf b_ro b_im b_ke b_tp b_nl b_op b_ar b_pi b_pa b_ws b_hw b_se b_re b_pt b_ip b_ah b_be b_me b_tr b_ld b_wn H.size 0 u_sa u_fd u_td u_fr u_to u_so u_fa u_bd u_nc u_co u_le u_pd u_od u_la u_bk u_ce u_ho u_wy u_bt u_ps u_tg u_sn u_ic u_wd u_id u_wo u_va u_su u_st v_rf h_u_td h_u_fr h_u_to h_u_bd h_u_nc h_u_co h_u_pd h_u_la h_u_bk h_u_ce h_u_ho h_u_wy h_u_bt h_u_ps h_u_ic h_u_id) (cwV 1 hts gV_X12_125 rfl rfl rfl hv_X12_tell ⟨Nat.le_of_ble_eq_true rfl, Nat.le_of_ble_eq_true rfl⟩) (g5_preV hPc hK hDc hN hT hS hFc (ci := 12) (q0 := 0) rfl rfl) rfl rfl hl.1 rfl (lv_room (Nat.le_of_ble_eq_true rfl)) dX12_sighting_27 ⟨Nat.le_of_ble_eq_true rfl, Nat.le_of_ble_eq_true rfl⟩) hS (fun q _ h => hFc q h) hFc (fun r u t H1 locs ht hvm hw hB hz1 hk1 hS => ?_)
      obtain ⟨hP1, hD1⟩ := hB
      rw [ht] at hP1
      obtain ⟨z68, z69, z70, i_67, rfl, rfl⟩ := hw
      have i_67 : 0 ≤ z69.toInt ∧ z69.toInt ≤ 1 := i_67
      obtain ⟨hP, hD⟩ := va_join (wr := [(b_ro, (arI G 5740 v_ro))]) hP hD [0, 1] [2] rfl rfl (by decide) (by decide) hk1 hFc hP1 hD1
      generalize H1 = H at hP hS ⊢
      refine g5_rs [(b_ro, (arI G 5740 v_ro)), (b_o, (oc12 0 z68 b_rf b_ro b_im b_ke u_fd b_tp u_td u_fr u_to u_so u_wo u_fa u_bd u_nc b_nl u_co b_op b_ar u_le b_pi b_pa u_pd u_od b_ws b_hw u_la b_se b_re u_bk u_va u_su u_ce u_ho u_wy u_bt u_ps b_pt u_tg u_sn b_ip z69 b_ah b_be b_me u_wd b_tr b_ld u_st b_wn u_id)), (b_rf, (arI G 7 z70))] hP hD (fun hP hD => ?_)
      exact W.iret (v := (-1)) hx hb hr (fun t ht hW => ⟨⟨(-1), [(b_o, (oc12 0 z68 b_rf b_ro b_im b_ke u_fd b_tp u_td u_fr u_to u_so u_wo u_fa u_bd u_nc b_nl u_co b_op b_ar u_le b_pi b_pa u_pd u_od b_ws b_hw u_la b_se b_re u_bk u_va u_su u_ce u_ho u_wy u_bt u_ps b_pt u_tg u_sn b_ip z69 b_ah b_be b_me u_wd b_tr b_ld u_st b_wn u_id)), (b_rf, (arI G 7 z70)), (b_ro, (arI G 5740 v_ro))], rfl, ⟨(-1), 0, z68, z69, z70, v_ro, r_ro, i_67, (sight_1 (f := v_ro) (c := p_1) (w := p_2) (h := p_3) (s := p_4) (fun q => i_5 q.1)).1.symm, (sight_1 (f := v_ro) (c := p_1) (w := p_2) (h := p_3) (s := p_4) (fun q => i_5 q.1)).2.symm, rfl, rfl⟩, by rw [ht]; exact hP.sub [1, 2, 0] rfl, hD.sub [1, 2, 0] (by decide) rfl⟩, hS.F ht⟩) hS.2.2 dX12_sighting_30
    ·
      exact absurd c_66 (by decide)
set_option maxHeartbeats 4000000 in
set_option maxRecDepth 100000 in
theorem n_dropE (l : Launch) (G : g5_G) (b_o b_rf b_ro b_im b_ke b_tp b_nl b_op b_ar b_pi b_pa b_ws b_hw b_se b_re b_pt b_ip b_ah b_be b_me b_tr b_ld b_wn : Nat) (sz : Nat) (u_th : Int32) (u_sa : Int32) (u_fd : Int32) (u_td : Int32) (u_fr : Int32) (u_to : Int32) (u_so : Int32) (u_fa : Int32) (u_bd : Int32) (u_nc : Int32) (u_co : Int32) (u_le : Int32) (u_pd : Int32) (u_od : Int32) (u_la : Int32) (u_bk : Int32) (u_ce : Int32) (u_ho : Int32) (u_wy : Int32) (u_bt : Int32) (u_ps : Int32) (u_tg : Int32) (u_sn : Int32) (u_ic : Int32) (u_wd : Int32) (u_id : Int32) (p_1 : Int32) (u_wo : Int64) (u_va : Int64) (u_su : Int64) (u_st : Int64) (v_rf : Nat → Int32) (v_ro : Nat → Int32) (h_u_td : 0 ≤ u_td.toInt ∧ u_td.toInt ≤ 400) (h_u_fr : 0 ≤ u_fr.toInt ∧ u_fr.toInt ≤ 400) (h_u_to : 0 ≤ u_to.toInt ∧ u_to.toInt ≤ 400) (h_u_bd : 0 ≤ u_bd.toInt ∧ u_bd.toInt ≤ 1) (h_u_nc : 0 ≤ u_nc.toInt ∧ u_nc.toInt ≤ 12) (h_u_co : 0 ≤ u_co.toInt ∧ u_co.toInt ≤ 400) (h_u_pd : 0 ≤ u_pd.toInt ∧ u_pd.toInt ≤ 400) (h_u_la : 0 ≤ u_la.toInt ∧ u_la.toInt ≤ 4840) (h_u_bk : 0 ≤ u_bk.toInt ∧ u_bk.toInt ≤ 1) (h_u_ce : 0 ≤ u_ce.toInt ∧ u_ce.toInt ≤ 63) (h_u_ho : 0 ≤ u_ho.toInt ∧ u_ho.toInt ≤ 23) (h_u_wy : 0 ≤ u_wy.toInt ∧ u_wy.toInt ≤ 3) (h_u_bt : 0 ≤ u_bt.toInt ∧ u_bt.toInt ≤ 1000000) (h_u_ps : 0 ≤ u_ps.toInt ∧ u_ps.toInt ≤ 200) (h_u_ic : 0 ≤ u_ic.toInt ∧ u_ic.toInt ≤ 1) (h_u_id : 0 ≤ u_id.toInt ∧ u_id.toInt ≤ 1) (r_ro : MI v_ro) : Met l yX12_drop (wsG yX12_drop cX12_drop 3 (some .int)) ({ frames := 1, cells := 0, slots := 0, locals := 25 }) (va_Pc [.ref b_o, .int p_1] (g5_P G [(b_o, (oc12 u_th u_sa b_rf b_ro b_im b_ke u_fd b_tp u_td u_fr u_to u_so u_wo u_fa u_bd u_nc b_nl u_co b_op b_ar u_le b_pi b_pa u_pd u_od b_ws b_hw u_la b_se b_re u_bk u_va u_su u_ce u_ho u_wy u_bt u_ps b_pt u_tg u_sn b_ip u_ic b_ah b_be b_me u_wd b_tr b_ld u_st b_wn u_id)), (b_rf, (arI G 7 v_rf)), (b_ro, (arI G 5740 v_ro))] sz)) (va_Qi (fun (r : Int32) (u : va_W) => (∃ (o_r : Int32) (o_th : Int32) (o_sa : Int32) (o_ic : Int32) (o_rf : Nat → Int32) (o_ro : Nat → Int32), (0 ≤ o_ic.toInt ∧ o_ic.toInt ≤ 1) ∧ (MI o_ro) ∧ (o_r = adrop v_ro p_1) ∧ (o_ro = sdrop v_ro p_1) ∧ (r = o_r) ∧ (u = [(b_o, (oc12 o_th o_sa b_rf b_ro b_im b_ke u_fd b_tp u_td u_fr u_to u_so u_wo u_fa u_bd u_nc b_nl u_co b_op b_ar u_le b_pi b_pa u_pd u_od b_ws b_hw u_la b_se b_re u_bk u_va u_su u_ce u_ho u_wy u_bt u_ps b_pt u_tg u_sn b_ip o_ic b_ah b_be b_me u_wd b_tr b_ld u_st b_wn u_id)), (b_rf, (arI G 7 o_rf)), (b_ro, (arI G 5740 o_ro))]))) (g5_B G (va_A [(b_o, (oc12 u_th u_sa b_rf b_ro b_im b_ke u_fd b_tp u_td u_fr u_to u_so u_wo u_fa u_bd u_nc b_nl u_co b_op b_ar u_le b_pi b_pa u_pd u_od b_ws b_hw u_la b_se b_re u_bk u_va u_su u_ce u_ho u_wy u_bt u_ps b_pt u_tg u_sn b_ip u_ic b_ah b_be b_me u_wd b_tr b_ld u_st b_wn u_id)), (b_rf, (arI G 7 v_rf)), (b_ro, (arI G 5740 v_ro))] sz)) (va_A [(b_o, (oc12 u_th u_sa b_rf b_ro b_im b_ke u_fd b_tp u_td u_fr u_to u_so u_wo u_fa u_bd u_nc b_nl u_co b_op b_ar u_le b_pi b_pa u_pd u_od b_ws b_hw u_la b_se b_re u_bk u_va u_su u_ce u_ho u_wy u_bt u_ps b_pt u_tg u_sn b_ip u_ic b_ah b_be b_me u_wd b_tr b_ld u_st b_wn u_id)), (b_rf, (arI G 7 v_rf)), (b_ro, (arI G 5740 v_ro))] sz)) 0 0 (va_A [(b_o, (oc12 u_th u_sa b_rf b_ro b_im b_ke u_fd b_tp u_td u_fr u_to u_so u_wo u_fa u_bd u_nc b_nl u_co b_op b_ar u_le b_pi b_pa u_pd u_od b_ws b_hw u_la b_se b_re u_bk u_va u_su u_ce u_ho u_wy u_bt u_ps b_pt u_tg u_sn b_ip u_ic b_ah b_be b_me u_wd b_tr b_ld u_st b_wn u_id)), (b_rf, (arI G 7 v_rf)), (b_ro, (arI G 5740 v_ro))] sz) := by
  refine Met.ofW (cc := cX12_drop) (maxL := 3) (ret := (some .int)) (by decide) rfl ?_
  intro p e s m args below meth c s₁ B hml hv
  obtain ⟨rfl, hsz, hP, hK, hD0, hN, hT⟩ := hv
  have hx := B.exec
  have hb := B.bytes
  have hr := B.returns
  have hts : ∀ w ∈ tblG, w.before _ s = true := fun w h => atoms_spec (ws := (wsG yX12_drop cX12_drop 3 (some .int))) B.pre w (List.mem_cons_of_mem _ h)
  have hown : s.vm.findClass RX12 = some m.cls := findClass_of_methodNamed B.named
  have hlocks := B.notSynchronized
  subst hsz
  have hD := hD0.self (sz := s.heap.size)
  generalize hAe : va_A [(b_o, (oc12 u_th u_sa b_rf b_ro b_im b_ke u_fd b_tp u_td u_fr u_to u_so u_wo u_fa u_bd u_nc b_nl u_co b_op b_ar u_le b_pi b_pa u_pd u_od b_ws b_hw u_la b_se b_re u_bk u_va u_su u_ce u_ho u_wy u_bt u_ps b_pt u_tg u_sn b_ip u_ic b_ah b_be b_me u_wd b_tr b_ld u_st b_wn u_id)), (b_rf, (arI G 7 v_rf)), (b_ro, (arI G 5740 v_ro))] s.heap.size = A at hD hT ⊢
  have hA : ∀ q : Nat, s.heap.size ≤ q → A q := fun q h => by rw [← hAe]; exact Or.inr h
  have hS : va_S A s.heap s.heap [] := va_S.rf
  have hP : va_P G.1 vwCl [(b_o, (oc12 u_th u_sa b_rf b_ro b_im b_ke u_fd b_tp u_td u_fr u_to u_so u_wo u_fa u_bd u_nc b_nl u_co b_op b_ar u_le b_pi b_pa u_pd u_od b_ws b_hw u_la b_se b_re u_bk u_va u_su u_ce u_ho u_wy u_bt u_ps b_pt u_tg u_sn b_ip u_ic b_ah b_be b_me u_wd b_tr b_ld u_st b_wn u_id)), (b_rf, (arI G 7 v_rf)), (b_ro, (arI G 5740 v_ro))] s.heap := hP
  have hl := lv_entry ([.ref b_o, .int p_1]) (n := 3) (Nat.le_of_ble_eq_true rfl)
  rw [lg_entry_eq]
  generalize (lg_sl ([.ref b_o, .int p_1]) ++ List.replicate (3 - (lg_sl ([.ref b_o, .int p_1])).length) Slot.unset).toArray = ls at hl ⊢
  have hl : lv_has ls 3 [(0, .ref b_o), (1, .int p_1)] := hl
  refine lv_aload_n hx hb dX12_drop_0 rfl (lv_at hl 0 rfl) ?_
  refine lv_iconst (v := 0) hx hb dX12_drop_1 (by decide) ?_
  refine va_put (D := G.1) (ci := 12) (v := .int 0) (ty := .int) (C := RX12) (T := TX12) (N := 52) hx hb hts inG_X12 tyX12 tyX12_ok nmX12 hown hK hP hD hS 0 rfl rfl 0 (by decide) (hts _ fl_X12_107) (fun _ h9 => h9) rfl (by decide +kernel) rfl rfl (Nat.le_of_ble_eq_true rfl) dX12_drop_2 (fun H locs hP hD hS => ?_)
  refine g5_rs [(b_o, (oc12 0 u_sa b_rf b_ro b_im b_ke u_fd b_tp u_td u_fr u_to u_so u_wo u_fa u_bd u_nc b_nl u_co b_op b_ar u_le b_pi b_pa u_pd u_od b_ws b_hw u_la b_se b_re u_bk u_va u_su u_ce u_ho u_wy u_bt u_ps b_pt u_tg u_sn b_ip u_ic b_ah b_be b_me u_wd b_tr b_ld u_st b_wn u_id)), (b_rf, (arI G 7 v_rf)), (b_ro, (arI G 5740 v_ro))] hP hD (fun hP hD => ?_)
  refine lv_iload_n hx hb dX12_drop_5 rfl (lv_at hl 1 rfl) ?_
  refine lv_i2l (v := p_1.toInt64) hx hb dX12_drop_6 rfl ?_
  refine lv_lconst (v := 0) hx hb dX12_drop_7 (by decide) ?_
  refine lv_aload_n hx hb dX12_drop_8 rfl (lv_at hl 0 rfl) ?_
  refine va_get (D := G.1) (ci := 12) (v := .ref b_ro) (C := RX12) (T := TX12) (N := 52) hx hb hts inG_X12 hown hK hP 0 rfl rfl 3 (by decide) (hts _ fl_X12_13) (fun _ h9 => h9) rfl dX12_drop_9 ?_
  refine lv_iconst (v := 5) hx hb dX12_drop_12 (by decide) ?_
  refine va_iald hx hb hK hP 2 0 rfl rfl (i := 5) (by unfold vp_in; decide) dX12_drop_13 ?_
  refine g5_ti (v := (v_ro 5)) rfl ?_
  have hr_1 : 0 ≤ (v_ro 5).toInt ∧ (v_ro 5).toInt ≤ 10 := mi_5 r_ro
  refine lv_i2l (v := (v_ro 5).toInt64) hx hb dX12_drop_14 rfl ?_
  refine lv_lconst (v := 1) hx hb dX12_drop_15 (by decide) ?_
  refine lv_lsub hx hb dX12_drop_16 ?_
  obtain ⟨hPc, hDc, hFc⟩ := g5_sub3 (wc := []) hP hD hS hA [] (by decide) rfl
  refine va_calli (va_runS (As := [.long p_1.toInt64, .long 0, .long (((v_ro 5).toInt64) - 1)]) (rest := []) ⟨hx, hb, hml, hown, hts⟩ (n_in_n l G H.size p_1 (v_ro 5) ⟨by omega, by omega⟩) (va_cwS 3 hts gS_X12_121 rfl rfl rfl hs_X12_in ⟨Nat.le_of_ble_eq_true rfl, Nat.le_of_ble_eq_true rfl⟩) (g5_preS hPc hK hDc hN hT hS hFc) rfl rfl hl.1 rfl (lv_room (Nat.le_of_ble_eq_true rfl)) dX12_drop_17 ⟨Nat.le_of_ble_eq_true rfl, Nat.le_of_ble_eq_true rfl⟩) hS (fun q _ h => hFc q h) hFc (fun r u t H1 locs ht hvm hw hB hz1 hk1 hS => ?_)
  obtain ⟨hP1, hD1⟩ := hB
  rw [ht] at hP1
  rcases hw with ⟨i_2, rfl, rfl⟩ | ⟨i_3, rfl, rfl⟩
  ·
    have i_2 : p_1.toInt < 0 ∨ (v_ro 5).toInt ≤ p_1.toInt := i_2
    have hP := g5_same hP hk1
    generalize H1 = H at hP hS ⊢
    refine lv_if_ne (tgt := 30) hx hb dX12_drop_20 (by decide) (fun c_4 => ?_) (fun c_4 => ?_)
    ·
      exact absurd c_4 (by decide)
    ·
      refine lv_aload_n hx hb dX12_drop_23 rfl (lv_at hl 0 rfl) ?_
      refine lv_bipush (v := (-2)) hx hb dX12_drop_24 (by decide) ?_
      obtain ⟨hPc, hDc, hFc⟩ := g5_sub3 (wc := [(b_o, (oc12 0 u_sa b_rf b_ro b_im b_ke u_fd b_tp u_td u_fr u_to u_so u_wo u_fa u_bd u_nc b_nl u_co b_op b_ar u_le b_pi b_pa u_pd u_od b_ws b_hw u_la b_se b_re u_bk u_va u_su u_ce u_ho u_wy u_bt u_ps b_pt u_tg u_sn b_ip u_ic b_ah b_be b_me u_wd b_tr b_ld u_st b_wn u_id)), (b_rf, (arI G 7 v_rf))]) hP hD hS hA [0, 1] (by decide) rfl
      refine va_calli (va_runV (As := [.int (-2)]) (rest := []) ⟨hx, hb, hml, hown, hts⟩ (n_tell2 l G b_o b_rf b_ro b_im b_ke b_tp b_nl b_op b_ar b_pi b_pa b_ws b_hw b_se b_re b_pt b_ip b_ah b_be b_me b_tr b_ld b_wn H.size 0 u_sa u_fd u_td u_fr u_to u_so u_fa u_bd u_nc u_co u_le u_pd u_od u_la u_bk u_ce u_ho u_wy u_bt u_ps u_tg u_sn u_ic u_wd u_id u_wo u_va u_su u_st v_rf h_u_td h_u_fr h_u_to h_u_bd h_u_nc h_u_co h_u_pd h_u_la h_u_bk h_u_ce h_u_ho h_u_wy h_u_bt h_u_ps h_u_ic h_u_id) (cwV 1 hts gV_X12_125 rfl rfl rfl hv_X12_tell ⟨Nat.le_of_ble_eq_true rfl, Nat.le_of_ble_eq_true rfl⟩) (g5_preV hPc hK hDc hN hT hS hFc (ci := 12) (q0 := 0) rfl rfl) rfl rfl hl.1 rfl (lv_room (Nat.le_of_ble_eq_true rfl)) dX12_drop_26 ⟨Nat.le_of_ble_eq_true rfl, Nat.le_of_ble_eq_true rfl⟩) hS (fun q _ h => hFc q h) hFc (fun r u t H1 locs ht hvm hw hB hz1 hk1 hS => ?_)
      obtain ⟨hP1, hD1⟩ := hB
      rw [ht] at hP1
      obtain ⟨z6, z7, z8, i_5, rfl, rfl⟩ := hw
      have i_5 : 0 ≤ z7.toInt ∧ z7.toInt ≤ 1 := i_5
      obtain ⟨hP, hD⟩ := va_join (wr := [(b_ro, (arI G 5740 v_ro))]) hP hD [0, 1] [2] rfl rfl (by decide) (by decide) hk1 hFc hP1 hD1
      generalize H1 = H at hP hS ⊢
      refine g5_rs [(b_ro, (arI G 5740 v_ro)), (b_o, (oc12 0 z6 b_rf b_ro b_im b_ke u_fd b_tp u_td u_fr u_to u_so u_wo u_fa u_bd u_nc b_nl u_co b_op b_ar u_le b_pi b_pa u_pd u_od b_ws b_hw u_la b_se b_re u_bk u_va u_su u_ce u_ho u_wy u_bt u_ps b_pt u_tg u_sn b_ip z7 b_ah b_be b_me u_wd b_tr b_ld u_st b_wn u_id)), (b_rf, (arI G 7 z8))] hP hD (fun hP hD => ?_)
      exact W.iret (v := (-2)) hx hb hr (fun t ht hW => ⟨⟨(-2), [(b_o, (oc12 0 z6 b_rf b_ro b_im b_ke u_fd b_tp u_td u_fr u_to u_so u_wo u_fa u_bd u_nc b_nl u_co b_op b_ar u_le b_pi b_pa u_pd u_od b_ws b_hw u_la b_se b_re u_bk u_va u_su u_ce u_ho u_wy u_bt u_ps b_pt u_tg u_sn b_ip z7 b_ah b_be b_me u_wd b_tr b_ld u_st b_wn u_id)), (b_rf, (arI G 7 z8)), (b_ro, (arI G 5740 v_ro))], rfl, ⟨(-2), 0, z6, z7, z8, v_ro, i_5, r_ro, (drop_2 (f := v_ro) (i := p_1) (by unfold isI; omega)).1.symm, (drop_2 (f := v_ro) (i := p_1) (by unfold isI; omega)).2.symm, rfl, rfl⟩, by rw [ht]; exact hP.sub [1, 2, 0] rfl, hD.sub [1, 2, 0] (by decide) rfl⟩, hS.F ht⟩) hS.2.2 dX12_drop_29
  ·
    have i_3 : 0 ≤ p_1.toInt ∧ p_1.toInt < (v_ro 5).toInt := i_3
    have hP := g5_same hP hk1
    generalize H1 = H at hP hS ⊢
    refine lv_if_ne (tgt := 30) hx hb dX12_drop_20 (by decide) (fun c_9 => ?_) (fun c_9 => ?_)
    ·
      refine lv_sipush (v := 230) hx hb dX12_drop_30 (by decide) ?_
      refine lv_iconst (v := 4) hx hb dX12_drop_33 (by decide) ?_
      refine lv_iload_n hx hb dX12_drop_34 rfl (lv_at hl 1 rfl) ?_
      refine lv_imul hx hb dX12_drop_35 ?_
      have t_10 : (4 * p_1).toInt = 4 * p_1.toInt := g5_imul (a := 4) (b := p_1.toInt) (by decide) (by rfl) (by omega) (by omega)
      refine lv_iadd hx hb dX12_drop_36 ?_
      have t_11 : (230 + (4 * p_1)).toInt = 230 + (4 * p_1).toInt := g5_iadd (a := 230) (b := (4 * p_1).toInt) (by decide) (by rfl) (by omega) (by omega)
      refine lv_istore_n (lv' := [(2, .int (230 + (4 * p_1))), (0, .ref b_o), (1, .int p_1)]) hx hb dX12_drop_37 rfl hl (by decide) rfl (fun ls hl => ?_)
      refine g5_loop (α := (Int32) × (Nat → Int32)) (fun (q : (Int32) × (Nat → Int32)) (ls : Array Slot) (H : Heap) (locs : List Loc) => match q with | (k38_2, k38_ro) => lv_has ls 3 [(2, .int k38_2), (0, .ref b_o), (1, .int p_1)] ∧ va_P G.1 vwCl [(b_o, (oc12 0 u_sa b_rf b_ro b_im b_ke u_fd b_tp u_td u_fr u_to u_so u_wo u_fa u_bd u_nc b_nl u_co b_op b_ar u_le b_pi b_pa u_pd u_od b_ws b_hw u_la b_se b_re u_bk u_va u_su u_ce u_ho u_wy u_bt u_ps b_pt u_tg u_sn b_ip u_ic b_ah b_be b_me u_wd b_tr b_ld u_st b_wn u_id)), (b_rf, (arI G 7 v_rf)), (b_ro, (arI G 5740 k38_ro))] H ∧ va_D A [(b_o, (oc12 0 u_sa b_rf b_ro b_im b_ke u_fd b_tp u_td u_fr u_to u_so u_wo u_fa u_bd u_nc b_nl u_co b_op b_ar u_le b_pi b_pa u_pd u_od b_ws b_hw u_la b_se b_re u_bk u_va u_su u_ce u_ho u_wy u_bt u_ps b_pt u_tg u_sn b_ip u_ic b_ah b_be b_me u_wd b_tr b_ld u_st b_wn u_id)), (b_rf, (arI G 7 v_rf)), (b_ro, (arI G 5740 k38_ro))] ∧ va_S A s.heap H locs ∧ (230 ≤ k38_2.toInt ∧ k38_2.toInt ≤ 266) ∧ (230 + 4 * p_1.toInt ≤ k38_2.toInt) ∧ (k38_ro = mshf v_ro p_1.toInt k38_2.toInt)) (fun (q : (Int32) × (Nat → Int32)) => match q with | (k38_2, k38_ro) => Int.toNat (266 - k38_2.toInt)) ((230 + (4 * p_1)), v_ro) ⟨lv_sub hl [0, 1, 2] rfl, hP, hD, hS, ⟨by omega, by omega⟩, by omega, sh_0 (by omega)⟩ ?_
      rintro ⟨k38_2, k38_ro⟩ ls H locs ⟨hl, hP, hD, hS, i_12, i_13, i_14⟩ ih_38_15
      have hl : lv_has ls 3 [(2, .int k38_2), (0, .ref b_o), (1, .int p_1)] := hl
      have i_12 : 230 ≤ k38_2.toInt ∧ k38_2.toInt ≤ 266 := i_12
      have i_13 : 230 + 4 * p_1.toInt ≤ k38_2.toInt := i_13
      have i_14 : k38_ro = mshf v_ro p_1.toInt k38_2.toInt := i_14
      refine g5_rs [(b_o, (oc12 0 u_sa b_rf b_ro b_im b_ke u_fd b_tp u_td u_fr u_to u_so u_wo u_fa u_bd u_nc b_nl u_co b_op b_ar u_le b_pi b_pa u_pd u_od b_ws b_hw u_la b_se b_re u_bk u_va u_su u_ce u_ho u_wy u_bt u_ps b_pt u_tg u_sn b_ip u_ic b_ah b_be b_me u_wd b_tr b_ld u_st b_wn u_id)), (b_rf, (arI G 7 v_rf)), (b_ro, (arI G 5740 k38_ro))] hP hD (fun hP hD => ?_)
      refine lv_iload_n hx hb dX12_drop_38 rfl (lv_at hl 0 rfl) ?_
      refine lv_sipush (v := 266) hx hb dX12_drop_39 (by decide) ?_
      refine lv_icmp_ge (tgt := 65) hx hb dX12_drop_42 (by decide) (fun c_16 => ?_) (fun c_16 => ?_)
      ·
        have i_16 : k38_2.toInt ≥ 266 := by have z := g5_ge (a := k38_2.toInt) (b := 266) (by rfl) (by decide) c_16; omega
        refine lv_aload_n hx hb dX12_drop_65 rfl (lv_at hl 1 rfl) ?_
        refine va_get (D := G.1) (ci := 12) (v := .ref b_ro) (C := RX12) (T := TX12) (N := 52) hx hb hts inG_X12 hown hK hP 0 rfl rfl 3 (by decide) (hts _ fl_X12_13) (fun _ h9 => h9) rfl dX12_drop_66 ?_
        refine lv_iconst (v := 5) hx hb dX12_drop_69 (by decide) ?_
        refine lv_dup2_11 hx hb dX12_drop_70 rfl rfl ?_
        refine va_iald hx hb hK hP 2 0 rfl rfl (i := 5) (by unfold vp_in; decide) dX12_drop_71 ?_
        refine g5_ti (v := (k38_ro 5)) rfl ?_
        have h59_17 : (k38_ro 5) = (v_ro 5) := by rw [i_14]; unfold mshf; rw [if_neg (by omega)]
        refine g5_ti (v := (v_ro 5)) h59_17 ?_
        refine lv_iconst (v := 1) hx hb dX12_drop_72 (by decide) ?_
        refine lv_isub hx hb dX12_drop_73 ?_
        have t_18 : ((v_ro 5) - 1).toInt = (v_ro 5).toInt - 1 := g5_isub (a := (v_ro 5).toInt) (b := 1) (by rfl) (by decide) (by omega) (by omega)
        refine va_iast hx hb hK hP hD hS 2 0 rfl rfl (i := 5) (x := ((v_ro 5) - 1)) (by unfold vp_in; decide) dX12_drop_74 (fun H locs hP hD hS => ?_)
        refine g5_rs [(b_o, (oc12 0 u_sa b_rf b_ro b_im b_ke u_fd b_tp u_td u_fr u_to u_so u_wo u_fa u_bd u_nc b_nl u_co b_op b_ar u_le b_pi b_pa u_pd u_od b_ws b_hw u_la b_se b_re u_bk u_va u_su u_ce u_ho u_wy u_bt u_ps b_pt u_tg u_sn b_ip u_ic b_ah b_be b_me u_wd b_tr b_ld u_st b_wn u_id)), (b_rf, (arI G 7 v_rf)), (b_ro, (arI G 5740 (upd k38_ro 5 ((v_ro 5) - 1))))] hP hD (fun hP hD => ?_)
        refine lv_aload_n hx hb dX12_drop_75 rfl (lv_at hl 1 rfl) ?_
        refine lv_aload_n hx hb dX12_drop_76 rfl (lv_at hl 1 rfl) ?_
        refine va_get (D := G.1) (ci := 12) (v := .ref b_ro) (C := RX12) (T := TX12) (N := 52) hx hb hts inG_X12 hown hK hP 0 rfl rfl 3 (by decide) (hts _ fl_X12_13) (fun _ h9 => h9) rfl dX12_drop_77 ?_
        refine lv_iconst (v := 5) hx hb dX12_drop_80 (by decide) ?_
        refine va_iald hx hb hK hP 2 0 rfl rfl (i := 5) (by unfold vp_in; decide) dX12_drop_81 ?_
        refine g5_ti (v := ((v_ro 5) - 1)) rfl ?_
        obtain ⟨hPc, hDc, hFc⟩ := g5_sub3 (wc := [(b_o, (oc12 0 u_sa b_rf b_ro b_im b_ke u_fd b_tp u_td u_fr u_to u_so u_wo u_fa u_bd u_nc b_nl u_co b_op b_ar u_le b_pi b_pa u_pd u_od b_ws b_hw u_la b_se b_re u_bk u_va u_su u_ce u_ho u_wy u_bt u_ps b_pt u_tg u_sn b_ip u_ic b_ah b_be b_me u_wd b_tr b_ld u_st b_wn u_id)), (b_rf, (arI G 7 v_rf))]) hP hD hS hA [0, 1] (by decide) rfl
        refine va_calli (va_runV (As := [.int ((v_ro 5) - 1)]) (rest := []) ⟨hx, hb, hml, hown, hts⟩ (n_tell l G b_o b_rf b_ro b_im b_ke b_tp b_nl b_op b_ar b_pi b_pa b_ws b_hw b_se b_re b_pt b_ip b_ah b_be b_me b_tr b_ld b_wn H.size 0 u_sa u_fd u_td u_fr u_to u_so u_fa u_bd u_nc u_co u_le u_pd u_od u_la u_bk u_ce u_ho u_wy u_bt u_ps u_tg u_sn u_ic u_wd u_id ((v_ro 5) - 1) u_wo u_va u_su u_st v_rf h_u_td h_u_fr h_u_to h_u_bd h_u_nc h_u_co h_u_pd h_u_la h_u_bk h_u_ce h_u_ho h_u_wy h_u_bt h_u_ps h_u_ic h_u_id ⟨by omega, by omega⟩) (cwV 1 hts gV_X12_125 rfl rfl rfl hv_X12_tell ⟨Nat.le_of_ble_eq_true rfl, Nat.le_of_ble_eq_true rfl⟩) (g5_preV hPc hK hDc hN hT hS hFc (ci := 12) (q0 := 0) rfl rfl) rfl rfl hl.1 rfl (lv_room (Nat.le_of_ble_eq_true rfl)) dX12_drop_82 ⟨Nat.le_of_ble_eq_true rfl, Nat.le_of_ble_eq_true rfl⟩) hS (fun q _ h => hFc q h) hFc (fun r u t H1 locs ht hvm hw hB hz1 hk1 hS => ?_)
        obtain ⟨hP1, hD1⟩ := hB
        rw [ht] at hP1
        obtain ⟨z20, z21, z22, i_19, rfl, rfl⟩ := hw
        have i_19 : 0 ≤ z21.toInt ∧ z21.toInt ≤ 1 := i_19
        obtain ⟨hP, hD⟩ := va_join (wr := [(b_ro, (arI G 5740 (upd k38_ro 5 ((v_ro 5) - 1))))]) hP hD [0, 1] [2] rfl rfl (by decide) (by decide) hk1 hFc hP1 hD1
        generalize H1 = H at hP hS ⊢
        refine g5_rs [(b_ro, (arI G 5740 (upd k38_ro 5 ((v_ro 5) - 1)))), (b_o, (oc12 0 z20 b_rf b_ro b_im b_ke u_fd b_tp u_td u_fr u_to u_so u_wo u_fa u_bd u_nc b_nl u_co b_op b_ar u_le b_pi b_pa u_pd u_od b_ws b_hw u_la b_se b_re u_bk u_va u_su u_ce u_ho u_wy u_bt u_ps b_pt u_tg u_sn b_ip z21 b_ah b_be b_me u_wd b_tr b_ld u_st b_wn u_id)), (b_rf, (arI G 7 z22))] hP hD (fun hP hD => ?_)
        exact W.iret (v := ((v_ro 5) - 1)) hx hb hr (fun t ht hW => ⟨⟨((v_ro 5) - 1), [(b_o, (oc12 0 z20 b_rf b_ro b_im b_ke u_fd b_tp u_td u_fr u_to u_so u_wo u_fa u_bd u_nc b_nl u_co b_op b_ar u_le b_pi b_pa u_pd u_od b_ws b_hw u_la b_se b_re u_bk u_va u_su u_ce u_ho u_wy u_bt u_ps b_pt u_tg u_sn b_ip z21 b_ah b_be b_me u_wd b_tr b_ld u_st b_wn u_id)), (b_rf, (arI G 7 z22)), (b_ro, (arI G 5740 (upd k38_ro 5 ((v_ro 5) - 1))))], rfl, ⟨((v_ro 5) - 1), 0, z20, z21, z22, (upd k38_ro 5 ((v_ro 5) - 1)), i_19, mi_drop r_ro i_14 (by omega) (by omega) (by omega), (drop_0 (f := v_ro) (i := p_1) (by unfold isI; omega)).1.symm, by rw [(drop_0 (f := v_ro) (i := p_1) (by unfold isI; omega)).2, i_14, show k38_2.toInt = 266 by omega], rfl, rfl⟩, by rw [ht]; exact hP.sub [1, 2, 0] rfl, hD.sub [1, 2, 0] (by decide) rfl⟩, hS.F ht⟩) hS.2.2 dX12_drop_85
      ·
        have i_16 : k38_2.toInt < 266 := by have z := g5_geN (a := k38_2.toInt) (b := 266) (by rfl) (by decide) c_16; omega
        refine lv_aload_n hx hb dX12_drop_45 rfl (lv_at hl 1 rfl) ?_
        refine va_get (D := G.1) (ci := 12) (v := .ref b_ro) (C := RX12) (T := TX12) (N := 52) hx hb hts inG_X12 hown hK hP 0 rfl rfl 3 (by decide) (hts _ fl_X12_13) (fun _ h9 => h9) rfl dX12_drop_46 ?_
        refine lv_iload_n hx hb dX12_drop_49 rfl (lv_at hl 0 rfl) ?_
        refine lv_aload_n hx hb dX12_drop_50 rfl (lv_at hl 1 rfl) ?_
        refine va_get (D := G.1) (ci := 12) (v := .ref b_ro) (C := RX12) (T := TX12) (N := 52) hx hb hts inG_X12 hown hK hP 0 rfl rfl 3 (by decide) (hts _ fl_X12_13) (fun _ h9 => h9) rfl dX12_drop_51 ?_
        refine lv_iload_n hx hb dX12_drop_54 rfl (lv_at hl 0 rfl) ?_
        refine lv_iconst (v := 4) hx hb dX12_drop_55 (by decide) ?_
        refine lv_iadd hx hb dX12_drop_56 ?_
        have t_23 : (k38_2 + 4).toInt = k38_2.toInt + 4 := g5_iadd (a := k38_2.toInt) (b := 4) (by rfl) (by decide) (by omega) (by omega)
        refine va_iald hx hb hK hP 2 0 rfl rfl (i := (k38_2 + 4)) (vp_in_iff.mpr ⟨by omega, by omega⟩) dX12_drop_57 ?_
        refine va_iast hx hb hK hP hD hS 2 0 rfl rfl (i := k38_2) (x := (k38_ro (k38_2 + 4).toNatClampNeg)) (vp_in_iff.mpr ⟨by omega, by omega⟩) dX12_drop_58 (fun H locs hP hD hS => ?_)
        refine g5_rs [(b_o, (oc12 0 u_sa b_rf b_ro b_im b_ke u_fd b_tp u_td u_fr u_to u_so u_wo u_fa u_bd u_nc b_nl u_co b_op b_ar u_le b_pi b_pa u_pd u_od b_ws b_hw u_la b_se b_re u_bk u_va u_su u_ce u_ho u_wy u_bt u_ps b_pt u_tg u_sn b_ip u_ic b_ah b_be b_me u_wd b_tr b_ld u_st b_wn u_id)), (b_rf, (arI G 7 v_rf)), (b_ro, (arI G 5740 (upd k38_ro k38_2.toNatClampNeg (k38_ro (k38_2 + 4).toNatClampNeg))))] hP hD (fun hP hD => ?_)
        refine lv_iinc (v := (k38_2 + 1)) (lv' := [(2, .int (k38_2 + 1)), (0, .ref b_o), (1, .int p_1)]) hx hb dX12_drop_59 hl (k := 0) rfl rfl (by decide) rfl (fun ls hl => ?_)
        have t_24 : (k38_2 + 1).toInt = k38_2.toInt + 1 := g5_iadd (a := k38_2.toInt) (b := 1) rfl (by decide) (by omega) (by omega)
        refine lv_goto (tgt := 38) hx hb dX12_drop_62 (by decide) ?_
        exact ih_38_15 ((k38_2 + 1), (upd k38_ro k38_2.toNatClampNeg (k38_ro (k38_2 + 4).toNatClampNeg))) ls H locs (show Int.toNat (266 - (k38_2 + 1).toInt) < Int.toNat (266 - k38_2.toInt) from g_up (show k38_2.toInt < (k38_2 + 1).toInt by omega) (show k38_2.toInt < 266 by omega)) ⟨lv_sub hl [0, 1, 2] rfl, hP, hD, hS, ⟨by omega, by omega⟩, by omega, sh_S i_14 (by omega) (by omega) (by omega) (by omega)⟩
    ·
      exact absurd c_9 (by decide)
set_option maxHeartbeats 4000000 in
set_option maxRecDepth 100000 in
theorem n_imageE (l : Launch) (G : g5_G) (b_o b_rf b_ro b_im b_ke b_tp b_nl b_op b_ar b_pi b_pa b_ws b_hw b_se b_re b_pt b_ip b_ah b_be b_me b_tr b_ld b_wn : Nat) (sz : Nat) (u_th : Int32) (u_sa : Int32) (u_fd : Int32) (u_td : Int32) (u_fr : Int32) (u_to : Int32) (u_so : Int32) (u_fa : Int32) (u_bd : Int32) (u_nc : Int32) (u_co : Int32) (u_le : Int32) (u_pd : Int32) (u_od : Int32) (u_la : Int32) (u_bk : Int32) (u_ce : Int32) (u_ho : Int32) (u_wy : Int32) (u_bt : Int32) (u_ps : Int32) (u_tg : Int32) (u_sn : Int32) (u_ic : Int32) (u_wd : Int32) (u_id : Int32) (p_1 : Int32) (u_wo : Int64) (u_va : Int64) (u_su : Int64) (u_st : Int64) (v_rf : Nat → Int32) (v_ro : Nat → Int32) (v_im : Nat → Int32) (v_ke : Nat → Int32) (h_u_td : 0 ≤ u_td.toInt ∧ u_td.toInt ≤ 400) (h_u_fr : 0 ≤ u_fr.toInt ∧ u_fr.toInt ≤ 400) (h_u_to : 0 ≤ u_to.toInt ∧ u_to.toInt ≤ 400) (h_u_bd : 0 ≤ u_bd.toInt ∧ u_bd.toInt ≤ 1) (h_u_nc : 0 ≤ u_nc.toInt ∧ u_nc.toInt ≤ 12) (h_u_co : 0 ≤ u_co.toInt ∧ u_co.toInt ≤ 400) (h_u_pd : 0 ≤ u_pd.toInt ∧ u_pd.toInt ≤ 400) (h_u_la : 0 ≤ u_la.toInt ∧ u_la.toInt ≤ 4840) (h_u_bk : 0 ≤ u_bk.toInt ∧ u_bk.toInt ≤ 1) (h_u_ce : 0 ≤ u_ce.toInt ∧ u_ce.toInt ≤ 63) (h_u_ho : 0 ≤ u_ho.toInt ∧ u_ho.toInt ≤ 23) (h_u_wy : 0 ≤ u_wy.toInt ∧ u_wy.toInt ≤ 3) (h_u_bt : 0 ≤ u_bt.toInt ∧ u_bt.toInt ≤ 1000000) (h_u_ps : 0 ≤ u_ps.toInt ∧ u_ps.toInt ≤ 200) (h_u_ic : 0 ≤ u_ic.toInt ∧ u_ic.toInt ≤ 1) (h_u_id : 0 ≤ u_id.toInt ∧ u_id.toInt ≤ 1) (r_ro : MI v_ro) (r_im : IMI v_im v_ke) : Met l yX12_image (wsG yX12_image cX12_image 3 (some .int)) ({ frames := 1, cells := 0, slots := 0, locals := 25 }) (va_Pc [.ref b_o, .int p_1] (g5_P G [(b_o, (oc12 u_th u_sa b_rf b_ro b_im b_ke u_fd b_tp u_td u_fr u_to u_so u_wo u_fa u_bd u_nc b_nl u_co b_op b_ar u_le b_pi b_pa u_pd u_od b_ws b_hw u_la b_se b_re u_bk u_va u_su u_ce u_ho u_wy u_bt u_ps b_pt u_tg u_sn b_ip u_ic b_ah b_be b_me u_wd b_tr b_ld u_st b_wn u_id)), (b_rf, (arI G 7 v_rf)), (b_ro, (arI G 5740 v_ro)), (b_im, (arI G 11480 v_im)), (b_ke, (arZ G 2 v_ke))] sz)) (va_Qi (fun (r : Int32) (u : va_W) => (∃ (o_r : Int32) (o_th : Int32) (o_sa : Int32) (o_ic : Int32) (o_rf : Nat → Int32) (o_im : Nat → Int32) (o_ke : Nat → Int32), (0 ≤ o_ic.toInt ∧ o_ic.toInt ≤ 1) ∧ (IMI o_im o_ke) ∧ (o_r = aimg p_1) ∧ (o_im = simg v_im v_ro p_1) ∧ (o_ke = skep v_ke p_1) ∧ (r = o_r) ∧ (u = [(b_o, (oc12 o_th o_sa b_rf b_ro b_im b_ke u_fd b_tp u_td u_fr u_to u_so u_wo u_fa u_bd u_nc b_nl u_co b_op b_ar u_le b_pi b_pa u_pd u_od b_ws b_hw u_la b_se b_re u_bk u_va u_su u_ce u_ho u_wy u_bt u_ps b_pt u_tg u_sn b_ip o_ic b_ah b_be b_me u_wd b_tr b_ld u_st b_wn u_id)), (b_rf, (arI G 7 o_rf)), (b_ro, (arI G 5740 v_ro)), (b_im, (arI G 11480 o_im)), (b_ke, (arZ G 2 o_ke))]))) (g5_B G (va_A [(b_o, (oc12 u_th u_sa b_rf b_ro b_im b_ke u_fd b_tp u_td u_fr u_to u_so u_wo u_fa u_bd u_nc b_nl u_co b_op b_ar u_le b_pi b_pa u_pd u_od b_ws b_hw u_la b_se b_re u_bk u_va u_su u_ce u_ho u_wy u_bt u_ps b_pt u_tg u_sn b_ip u_ic b_ah b_be b_me u_wd b_tr b_ld u_st b_wn u_id)), (b_rf, (arI G 7 v_rf)), (b_ro, (arI G 5740 v_ro)), (b_im, (arI G 11480 v_im)), (b_ke, (arZ G 2 v_ke))] sz)) (va_A [(b_o, (oc12 u_th u_sa b_rf b_ro b_im b_ke u_fd b_tp u_td u_fr u_to u_so u_wo u_fa u_bd u_nc b_nl u_co b_op b_ar u_le b_pi b_pa u_pd u_od b_ws b_hw u_la b_se b_re u_bk u_va u_su u_ce u_ho u_wy u_bt u_ps b_pt u_tg u_sn b_ip u_ic b_ah b_be b_me u_wd b_tr b_ld u_st b_wn u_id)), (b_rf, (arI G 7 v_rf)), (b_ro, (arI G 5740 v_ro)), (b_im, (arI G 11480 v_im)), (b_ke, (arZ G 2 v_ke))] sz)) 0 0 (va_A [(b_o, (oc12 u_th u_sa b_rf b_ro b_im b_ke u_fd b_tp u_td u_fr u_to u_so u_wo u_fa u_bd u_nc b_nl u_co b_op b_ar u_le b_pi b_pa u_pd u_od b_ws b_hw u_la b_se b_re u_bk u_va u_su u_ce u_ho u_wy u_bt u_ps b_pt u_tg u_sn b_ip u_ic b_ah b_be b_me u_wd b_tr b_ld u_st b_wn u_id)), (b_rf, (arI G 7 v_rf)), (b_ro, (arI G 5740 v_ro)), (b_im, (arI G 11480 v_im)), (b_ke, (arZ G 2 v_ke))] sz) := by
  refine Met.ofW (cc := cX12_image) (maxL := 3) (ret := (some .int)) (by decide) rfl ?_
  intro p e s m args below meth c s₁ B hml hv
  obtain ⟨rfl, hsz, hP, hK, hD0, hN, hT⟩ := hv
  have hx := B.exec
  have hb := B.bytes
  have hr := B.returns
  have hts : ∀ w ∈ tblG, w.before _ s = true := fun w h => atoms_spec (ws := (wsG yX12_image cX12_image 3 (some .int))) B.pre w (List.mem_cons_of_mem _ h)
  have hown : s.vm.findClass RX12 = some m.cls := findClass_of_methodNamed B.named
  have hlocks := B.notSynchronized
  subst hsz
  have hD := hD0.self (sz := s.heap.size)
  generalize hAe : va_A [(b_o, (oc12 u_th u_sa b_rf b_ro b_im b_ke u_fd b_tp u_td u_fr u_to u_so u_wo u_fa u_bd u_nc b_nl u_co b_op b_ar u_le b_pi b_pa u_pd u_od b_ws b_hw u_la b_se b_re u_bk u_va u_su u_ce u_ho u_wy u_bt u_ps b_pt u_tg u_sn b_ip u_ic b_ah b_be b_me u_wd b_tr b_ld u_st b_wn u_id)), (b_rf, (arI G 7 v_rf)), (b_ro, (arI G 5740 v_ro)), (b_im, (arI G 11480 v_im)), (b_ke, (arZ G 2 v_ke))] s.heap.size = A at hD hT ⊢
  have hA : ∀ q : Nat, s.heap.size ≤ q → A q := fun q h => by rw [← hAe]; exact Or.inr h
  have hS : va_S A s.heap s.heap [] := va_S.rf
  have hP : va_P G.1 vwCl [(b_o, (oc12 u_th u_sa b_rf b_ro b_im b_ke u_fd b_tp u_td u_fr u_to u_so u_wo u_fa u_bd u_nc b_nl u_co b_op b_ar u_le b_pi b_pa u_pd u_od b_ws b_hw u_la b_se b_re u_bk u_va u_su u_ce u_ho u_wy u_bt u_ps b_pt u_tg u_sn b_ip u_ic b_ah b_be b_me u_wd b_tr b_ld u_st b_wn u_id)), (b_rf, (arI G 7 v_rf)), (b_ro, (arI G 5740 v_ro)), (b_im, (arI G 11480 v_im)), (b_ke, (arZ G 2 v_ke))] s.heap := hP
  have hl := lv_entry ([.ref b_o, .int p_1]) (n := 3) (Nat.le_of_ble_eq_true rfl)
  rw [lg_entry_eq]
  generalize (lg_sl ([.ref b_o, .int p_1]) ++ List.replicate (3 - (lg_sl ([.ref b_o, .int p_1])).length) Slot.unset).toArray = ls at hl ⊢
  have hl : lv_has ls 3 [(0, .ref b_o), (1, .int p_1)] := hl
  refine lv_aload_n hx hb dX12_image_0 rfl (lv_at hl 0 rfl) ?_
  refine lv_iconst (v := 0) hx hb dX12_image_1 (by decide) ?_
  refine va_put (D := G.1) (ci := 12) (v := .int 0) (ty := .int) (C := RX12) (T := TX12) (N := 52) hx hb hts inG_X12 tyX12 tyX12_ok nmX12 hown hK hP hD hS 0 rfl rfl 0 (by decide) (hts _ fl_X12_107) (fun _ h9 => h9) rfl (by decide +kernel) rfl rfl (Nat.le_of_ble_eq_true rfl) dX12_image_2 (fun H locs hP hD hS => ?_)
  refine g5_rs [(b_o, (oc12 0 u_sa b_rf b_ro b_im b_ke u_fd b_tp u_td u_fr u_to u_so u_wo u_fa u_bd u_nc b_nl u_co b_op b_ar u_le b_pi b_pa u_pd u_od b_ws b_hw u_la b_se b_re u_bk u_va u_su u_ce u_ho u_wy u_bt u_ps b_pt u_tg u_sn b_ip u_ic b_ah b_be b_me u_wd b_tr b_ld u_st b_wn u_id)), (b_rf, (arI G 7 v_rf)), (b_ro, (arI G 5740 v_ro)), (b_im, (arI G 11480 v_im)), (b_ke, (arZ G 2 v_ke))] hP hD (fun hP hD => ?_)
  refine lv_iload_n hx hb dX12_image_5 rfl (lv_at hl 1 rfl) ?_
  refine lv_i2l (v := p_1.toInt64) hx hb dX12_image_6 rfl ?_
  refine lv_lconst (v := 0) hx hb dX12_image_7 (by decide) ?_
  refine lv_lconst (v := 1) hx hb dX12_image_8 (by decide) ?_
  obtain ⟨hPc, hDc, hFc⟩ := g5_sub3 (wc := []) hP hD hS hA [] (by decide) rfl
  refine va_calli (va_runS (As := [.long p_1.toInt64, .long 0, .long 1]) (rest := []) ⟨hx, hb, hml, hown, hts⟩ (n_in_0_1 l G H.size p_1) (va_cwS 3 hts gS_X12_121 rfl rfl rfl hs_X12_in ⟨Nat.le_of_ble_eq_true rfl, Nat.le_of_ble_eq_true rfl⟩) (g5_preS hPc hK hDc hN hT hS hFc) rfl rfl hl.1 rfl (lv_room (Nat.le_of_ble_eq_true rfl)) dX12_image_9 ⟨Nat.le_of_ble_eq_true rfl, Nat.le_of_ble_eq_true rfl⟩) hS (fun q _ h => hFc q h) hFc (fun r u t H1 locs ht hvm hw hB hz1 hk1 hS => ?_)
  obtain ⟨hP1, hD1⟩ := hB
  rw [ht] at hP1
  rcases hw with ⟨i_1, rfl, rfl⟩ | ⟨i_2, rfl, rfl⟩
  ·
    have i_1 : p_1.toInt < 0 ∨ 1 < p_1.toInt := i_1
    have hP := g5_same hP hk1
    generalize H1 = H at hP hS ⊢
    refine lv_if_ne (tgt := 21) hx hb dX12_image_12 (by decide) (fun c_3 => ?_) (fun c_3 => ?_)
    ·
      exact absurd c_3 (by decide)
    ·
      refine lv_aload_n hx hb dX12_image_15 rfl (lv_at hl 0 rfl) ?_
      refine lv_iconst (v := (-1)) hx hb dX12_image_16 (by decide) ?_
      obtain ⟨hPc, hDc, hFc⟩ := g5_sub3 (wc := [(b_o, (oc12 0 u_sa b_rf b_ro b_im b_ke u_fd b_tp u_td u_fr u_to u_so u_wo u_fa u_bd u_nc b_nl u_co b_op b_ar u_le b_pi b_pa u_pd u_od b_ws b_hw u_la b_se b_re u_bk u_va u_su u_ce u_ho u_wy u_bt u_ps b_pt u_tg u_sn b_ip u_ic b_ah b_be b_me u_wd b_tr b_ld u_st b_wn u_id)), (b_rf, (arI G 7 v_rf))]) hP hD hS hA [0, 1] (by decide) rfl
      refine va_calli (va_runV (As := [.int (-1)]) (rest := []) ⟨hx, hb, hml, hown, hts⟩ (n_tell1 l G b_o b_rf b_ro b_im b_ke b_tp b_nl b_op b_ar b_pi b_pa b_ws b_hw b_se b_re b_pt b_ip b_ah b_be b_me b_tr b_ld b_wn H.size 0 u_sa u_fd u_td u_fr u_to u_so u_fa u_bd u_nc u_co u_le u_pd u_od u_la u_bk u_ce u_ho u_wy u_bt u_ps u_tg u_sn u_ic u_wd u_id u_wo u_va u_su u_st v_rf h_u_td h_u_fr h_u_to h_u_bd h_u_nc h_u_co h_u_pd h_u_la h_u_bk h_u_ce h_u_ho h_u_wy h_u_bt h_u_ps h_u_ic h_u_id) (cwV 1 hts gV_X12_125 rfl rfl rfl hv_X12_tell ⟨Nat.le_of_ble_eq_true rfl, Nat.le_of_ble_eq_true rfl⟩) (g5_preV hPc hK hDc hN hT hS hFc (ci := 12) (q0 := 0) rfl rfl) rfl rfl hl.1 rfl (lv_room (Nat.le_of_ble_eq_true rfl)) dX12_image_17 ⟨Nat.le_of_ble_eq_true rfl, Nat.le_of_ble_eq_true rfl⟩) hS (fun q _ h => hFc q h) hFc (fun r u t H1 locs ht hvm hw hB hz1 hk1 hS => ?_)
      obtain ⟨hP1, hD1⟩ := hB
      rw [ht] at hP1
      obtain ⟨z5, z6, z7, i_4, rfl, rfl⟩ := hw
      have i_4 : 0 ≤ z6.toInt ∧ z6.toInt ≤ 1 := i_4
      obtain ⟨hP, hD⟩ := va_join (wr := [(b_ro, (arI G 5740 v_ro)), (b_im, (arI G 11480 v_im)), (b_ke, (arZ G 2 v_ke))]) hP hD [0, 1] [2, 3, 4] rfl rfl (by decide) (by decide) hk1 hFc hP1 hD1
      generalize H1 = H at hP hS ⊢
      refine g5_rs [(b_ro, (arI G 5740 v_ro)), (b_im, (arI G 11480 v_im)), (b_ke, (arZ G 2 v_ke)), (b_o, (oc12 0 z5 b_rf b_ro b_im b_ke u_fd b_tp u_td u_fr u_to u_so u_wo u_fa u_bd u_nc b_nl u_co b_op b_ar u_le b_pi b_pa u_pd u_od b_ws b_hw u_la b_se b_re u_bk u_va u_su u_ce u_ho u_wy u_bt u_ps b_pt u_tg u_sn b_ip z6 b_ah b_be b_me u_wd b_tr b_ld u_st b_wn u_id)), (b_rf, (arI G 7 z7))] hP hD (fun hP hD => ?_)
      exact W.iret (v := (-1)) hx hb hr (fun t ht hW => ⟨⟨(-1), [(b_o, (oc12 0 z5 b_rf b_ro b_im b_ke u_fd b_tp u_td u_fr u_to u_so u_wo u_fa u_bd u_nc b_nl u_co b_op b_ar u_le b_pi b_pa u_pd u_od b_ws b_hw u_la b_se b_re u_bk u_va u_su u_ce u_ho u_wy u_bt u_ps b_pt u_tg u_sn b_ip z6 b_ah b_be b_me u_wd b_tr b_ld u_st b_wn u_id)), (b_rf, (arI G 7 z7)), (b_ro, (arI G 5740 v_ro)), (b_im, (arI G 11480 v_im)), (b_ke, (arZ G 2 v_ke))], rfl, ⟨(-1), 0, z5, z6, z7, v_im, v_ke, i_4, r_im, (img_1 (im := v_im) (f := v_ro) (ke := v_ke) (p := p_1) (okM_n (by omega))).1.symm, (img_1 (im := v_im) (f := v_ro) (ke := v_ke) (p := p_1) (okM_n (by omega))).2.1.symm, (img_1 (im := v_im) (f := v_ro) (ke := v_ke) (p := p_1) (okM_n (by omega))).2.2.symm, rfl, rfl⟩, by rw [ht]; exact hP.sub [3, 4, 0, 1, 2] rfl, hD.sub [3, 4, 0, 1, 2] (by decide) rfl⟩, hS.F ht⟩) hS.2.2 dX12_image_20
  ·
    have i_2 : 0 ≤ p_1.toInt ∧ p_1.toInt ≤ 1 := i_2
    have hP := g5_same hP hk1
    generalize H1 = H at hP hS ⊢
    refine lv_if_ne (tgt := 21) hx hb dX12_image_12 (by decide) (fun c_8 => ?_) (fun c_8 => ?_)
    ·
      refine lv_iconst (v := 0) hx hb dX12_image_21 (by decide) ?_
      refine lv_istore_n (lv' := [(2, .int 0), (0, .ref b_o), (1, .int p_1)]) hx hb dX12_image_22 rfl hl (by decide) rfl (fun ls hl => ?_)
      refine g5_loop (α := (Int32) × (Nat → Int32)) (fun (q : (Int32) × (Nat → Int32)) (ls : Array Slot) (H : Heap) (locs : List Loc) => match q with | (k23_2, k23_im) => lv_has ls 3 [(2, .int k23_2), (0, .ref b_o), (1, .int p_1)] ∧ va_P G.1 vwCl [(b_o, (oc12 0 u_sa b_rf b_ro b_im b_ke u_fd b_tp u_td u_fr u_to u_so u_wo u_fa u_bd u_nc b_nl u_co b_op b_ar u_le b_pi b_pa u_pd u_od b_ws b_hw u_la b_se b_re u_bk u_va u_su u_ce u_ho u_wy u_bt u_ps b_pt u_tg u_sn b_ip u_ic b_ah b_be b_me u_wd b_tr b_ld u_st b_wn u_id)), (b_rf, (arI G 7 v_rf)), (b_ro, (arI G 5740 v_ro)), (b_im, (arI G 11480 k23_im)), (b_ke, (arZ G 2 v_ke))] H ∧ va_D A [(b_o, (oc12 0 u_sa b_rf b_ro b_im b_ke u_fd b_tp u_td u_fr u_to u_so u_wo u_fa u_bd u_nc b_nl u_co b_op b_ar u_le b_pi b_pa u_pd u_od b_ws b_hw u_la b_se b_re u_bk u_va u_su u_ce u_ho u_wy u_bt u_ps b_pt u_tg u_sn b_ip u_ic b_ah b_be b_me u_wd b_tr b_ld u_st b_wn u_id)), (b_rf, (arI G 7 v_rf)), (b_ro, (arI G 5740 v_ro)), (b_im, (arI G 11480 k23_im)), (b_ke, (arZ G 2 v_ke))] ∧ va_S A s.heap H locs ∧ (0 ≤ k23_2.toInt ∧ k23_2.toInt ≤ 5740) ∧ (∀ j : Nat, (j : Int) < k23_2.toInt → k23_im (5740 * p_1.toInt.toNat + j) = v_ro j) ∧ (∀ j : Nat, ((j : Int) < 5740 * p_1.toInt ∨ 5740 * p_1.toInt + 5740 ≤ (j : Int)) → k23_im j = v_im j)) (fun (q : (Int32) × (Nat → Int32)) => match q with | (k23_2, k23_im) => Int.toNat (5740 - k23_2.toInt)) (0, v_im) ⟨lv_sub hl [0, 1, 2] rfl, hP, hD, hS, ⟨by decide, by decide⟩, fun j h => absurd h (by have z : (0 : Int32).toInt = 0 := (by decide); omega), fun _ _ => rfl⟩ ?_
      rintro ⟨k23_2, k23_im⟩ ls H locs ⟨hl, hP, hD, hS, i_9, i_10, i_11⟩ ih_23_12
      have hl : lv_has ls 3 [(2, .int k23_2), (0, .ref b_o), (1, .int p_1)] := hl
      have i_9 : 0 ≤ k23_2.toInt ∧ k23_2.toInt ≤ 5740 := i_9
      have i_10 : ∀ j : Nat, (j : Int) < k23_2.toInt → k23_im (5740 * p_1.toInt.toNat + j) = v_ro j := i_10
      have i_11 : ∀ j : Nat, ((j : Int) < 5740 * p_1.toInt ∨ 5740 * p_1.toInt + 5740 ≤ (j : Int)) → k23_im j = v_im j := i_11
      refine g5_rs [(b_o, (oc12 0 u_sa b_rf b_ro b_im b_ke u_fd b_tp u_td u_fr u_to u_so u_wo u_fa u_bd u_nc b_nl u_co b_op b_ar u_le b_pi b_pa u_pd u_od b_ws b_hw u_la b_se b_re u_bk u_va u_su u_ce u_ho u_wy u_bt u_ps b_pt u_tg u_sn b_ip u_ic b_ah b_be b_me u_wd b_tr b_ld u_st b_wn u_id)), (b_rf, (arI G 7 v_rf)), (b_ro, (arI G 5740 v_ro)), (b_im, (arI G 11480 k23_im)), (b_ke, (arZ G 2 v_ke))] hP hD (fun hP hD => ?_)
      refine lv_iload_n hx hb dX12_image_23 rfl (lv_at hl 0 rfl) ?_
      refine lv_sipush (v := 5740) hx hb dX12_image_24 (by decide) ?_
      refine lv_icmp_ge (tgt := 54) hx hb dX12_image_27 (by decide) (fun c_13 => ?_) (fun c_13 => ?_)
      ·
        have i_13 : k23_2.toInt ≥ 5740 := by have z := g5_ge (a := k23_2.toInt) (b := 5740) (by rfl) (by decide) c_13; omega
        refine lv_aload_n hx hb dX12_image_54 rfl (lv_at hl 1 rfl) ?_
        refine va_get (D := G.1) (ci := 12) (v := .ref b_ke) (C := RX12) (T := TX12) (N := 52) hx hb hts inG_X12 hown hK hP 0 rfl rfl 5 (by decide) (hts _ fl_X12_19) (fun _ h9 => h9) rfl dX12_image_55 ?_
        refine lv_iload_n hx hb dX12_image_58 rfl (lv_at hl 2 rfl) ?_
        refine lv_iconst (v := 1) hx hb dX12_image_59 (by decide) ?_
        refine va_zast hx hb hK hP hD hS 4 2 rfl rfl (i := p_1) (x := 1) (vp_in_iff.mpr ⟨by omega, by omega⟩) dX12_image_60 (fun H locs hP hD hS => ?_)
        refine g5_rs [(b_o, (oc12 0 u_sa b_rf b_ro b_im b_ke u_fd b_tp u_td u_fr u_to u_so u_wo u_fa u_bd u_nc b_nl u_co b_op b_ar u_le b_pi b_pa u_pd u_od b_ws b_hw u_la b_se b_re u_bk u_va u_su u_ce u_ho u_wy u_bt u_ps b_pt u_tg u_sn b_ip u_ic b_ah b_be b_me u_wd b_tr b_ld u_st b_wn u_id)), (b_rf, (arI G 7 v_rf)), (b_ro, (arI G 5740 v_ro)), (b_im, (arI G 11480 k23_im)), (b_ke, (arZ G 2 (upd v_ke p_1.toNatClampNeg 1)))] hP hD (fun hP hD => ?_)
        refine lv_aload_n hx hb dX12_image_61 rfl (lv_at hl 1 rfl) ?_
        refine lv_iconst (v := 0) hx hb dX12_image_62 (by decide) ?_
        obtain ⟨hPc, hDc, hFc⟩ := g5_sub3 (wc := [(b_o, (oc12 0 u_sa b_rf b_ro b_im b_ke u_fd b_tp u_td u_fr u_to u_so u_wo u_fa u_bd u_nc b_nl u_co b_op b_ar u_le b_pi b_pa u_pd u_od b_ws b_hw u_la b_se b_re u_bk u_va u_su u_ce u_ho u_wy u_bt u_ps b_pt u_tg u_sn b_ip u_ic b_ah b_be b_me u_wd b_tr b_ld u_st b_wn u_id)), (b_rf, (arI G 7 v_rf))]) hP hD hS hA [0, 1] (by decide) rfl
        refine va_calli (va_runV (As := [.int 0]) (rest := []) ⟨hx, hb, hml, hown, hts⟩ (n_tell l G b_o b_rf b_ro b_im b_ke b_tp b_nl b_op b_ar b_pi b_pa b_ws b_hw b_se b_re b_pt b_ip b_ah b_be b_me b_tr b_ld b_wn H.size 0 u_sa u_fd u_td u_fr u_to u_so u_fa u_bd u_nc u_co u_le u_pd u_od u_la u_bk u_ce u_ho u_wy u_bt u_ps u_tg u_sn u_ic u_wd u_id 0 u_wo u_va u_su u_st v_rf h_u_td h_u_fr h_u_to h_u_bd h_u_nc h_u_co h_u_pd h_u_la h_u_bk h_u_ce h_u_ho h_u_wy h_u_bt h_u_ps h_u_ic h_u_id ⟨by decide, by decide⟩) (cwV 1 hts gV_X12_125 rfl rfl rfl hv_X12_tell ⟨Nat.le_of_ble_eq_true rfl, Nat.le_of_ble_eq_true rfl⟩) (g5_preV hPc hK hDc hN hT hS hFc (ci := 12) (q0 := 0) rfl rfl) rfl rfl hl.1 rfl (lv_room (Nat.le_of_ble_eq_true rfl)) dX12_image_63 ⟨Nat.le_of_ble_eq_true rfl, Nat.le_of_ble_eq_true rfl⟩) hS (fun q _ h => hFc q h) hFc (fun r u t H1 locs ht hvm hw hB hz1 hk1 hS => ?_)
        obtain ⟨hP1, hD1⟩ := hB
        rw [ht] at hP1
        obtain ⟨z15, z16, z17, i_14, rfl, rfl⟩ := hw
        have i_14 : 0 ≤ z16.toInt ∧ z16.toInt ≤ 1 := i_14
        obtain ⟨hP, hD⟩ := va_join (wr := [(b_ro, (arI G 5740 v_ro)), (b_im, (arI G 11480 k23_im)), (b_ke, (arZ G 2 (upd v_ke p_1.toNatClampNeg 1)))]) hP hD [0, 1] [2, 3, 4] rfl rfl (by decide) (by decide) hk1 hFc hP1 hD1
        generalize H1 = H at hP hS ⊢
        refine g5_rs [(b_ro, (arI G 5740 v_ro)), (b_im, (arI G 11480 k23_im)), (b_ke, (arZ G 2 (upd v_ke p_1.toNatClampNeg 1))), (b_o, (oc12 0 z15 b_rf b_ro b_im b_ke u_fd b_tp u_td u_fr u_to u_so u_wo u_fa u_bd u_nc b_nl u_co b_op b_ar u_le b_pi b_pa u_pd u_od b_ws b_hw u_la b_se b_re u_bk u_va u_su u_ce u_ho u_wy u_bt u_ps b_pt u_tg u_sn b_ip z16 b_ah b_be b_me u_wd b_tr b_ld u_st b_wn u_id)), (b_rf, (arI G 7 z17))] hP hD (fun hP hD => ?_)
        exact W.iret (v := 0) hx hb hr (fun t ht hW => ⟨⟨0, [(b_o, (oc12 0 z15 b_rf b_ro b_im b_ke u_fd b_tp u_td u_fr u_to u_so u_wo u_fa u_bd u_nc b_nl u_co b_op b_ar u_le b_pi b_pa u_pd u_od b_ws b_hw u_la b_se b_re u_bk u_va u_su u_ce u_ho u_wy u_bt u_ps b_pt u_tg u_sn b_ip z16 b_ah b_be b_me u_wd b_tr b_ld u_st b_wn u_id)), (b_rf, (arI G 7 z17)), (b_ro, (arI G 5740 v_ro)), (b_im, (arI G 11480 k23_im)), (b_ke, (arZ G 2 (upd v_ke p_1.toNatClampNeg 1)))], rfl, ⟨0, 0, z15, z16, z17, k23_im, (upd v_ke p_1.toNatClampNeg 1), i_14, im_image r_im r_ro (by omega) (by omega) i_10 i_11, (img_0 (im := v_im) (f := v_ro) (ke := v_ke) (p := p_1) ⟨by omega, by omega⟩).1.symm, img_fun (ke := v_ke) ⟨by omega, by omega⟩ (by omega) i_10 i_11, (img_0 (im := v_im) (f := v_ro) (ke := v_ke) (p := p_1) ⟨by omega, by omega⟩).2.2.symm, rfl, rfl⟩, by rw [ht]; exact hP.sub [3, 4, 0, 1, 2] rfl, hD.sub [3, 4, 0, 1, 2] (by decide) rfl⟩, hS.F ht⟩) hS.2.2 dX12_image_66
      ·
        have i_13 : k23_2.toInt < 5740 := by have z := g5_geN (a := k23_2.toInt) (b := 5740) (by rfl) (by decide) c_13; omega
        refine lv_aload_n hx hb dX12_image_30 rfl (lv_at hl 1 rfl) ?_
        refine va_get (D := G.1) (ci := 12) (v := .ref b_im) (C := RX12) (T := TX12) (N := 52) hx hb hts inG_X12 hown hK hP 0 rfl rfl 4 (by decide) (hts _ fl_X12_16) (fun _ h9 => h9) rfl dX12_image_31 ?_
        refine lv_sipush (v := 5740) hx hb dX12_image_34 (by decide) ?_
        refine lv_iload_n hx hb dX12_image_37 rfl (lv_at hl 2 rfl) ?_
        refine lv_imul hx hb dX12_image_38 ?_
        have t_18 : (5740 * p_1).toInt = 5740 * p_1.toInt := g5_imul (a := 5740) (b := p_1.toInt) (by decide) (by rfl) (by omega) (by omega)
        refine lv_iload_n hx hb dX12_image_39 rfl (lv_at hl 0 rfl) ?_
        refine lv_iadd hx hb dX12_image_40 ?_
        have t_19 : ((5740 * p_1) + k23_2).toInt = (5740 * p_1).toInt + k23_2.toInt := g5_iadd (a := (5740 * p_1).toInt) (b := k23_2.toInt) (by rfl) (by rfl) (by omega) (by omega)
        refine lv_aload_n hx hb dX12_image_41 rfl (lv_at hl 1 rfl) ?_
        refine va_get (D := G.1) (ci := 12) (v := .ref b_ro) (C := RX12) (T := TX12) (N := 52) hx hb hts inG_X12 hown hK hP 0 rfl rfl 3 (by decide) (hts _ fl_X12_13) (fun _ h9 => h9) rfl dX12_image_42 ?_
        refine lv_iload_n hx hb dX12_image_45 rfl (lv_at hl 0 rfl) ?_
        refine va_iald hx hb hK hP 2 0 rfl rfl (i := k23_2) (vp_in_iff.mpr ⟨by omega, by omega⟩) dX12_image_46 ?_
        refine va_iast hx hb hK hP hD hS 3 0 rfl rfl (i := ((5740 * p_1) + k23_2)) (x := (v_ro k23_2.toNatClampNeg)) (vp_in_iff.mpr ⟨by omega, by omega⟩) dX12_image_47 (fun H locs hP hD hS => ?_)
        refine g5_rs [(b_o, (oc12 0 u_sa b_rf b_ro b_im b_ke u_fd b_tp u_td u_fr u_to u_so u_wo u_fa u_bd u_nc b_nl u_co b_op b_ar u_le b_pi b_pa u_pd u_od b_ws b_hw u_la b_se b_re u_bk u_va u_su u_ce u_ho u_wy u_bt u_ps b_pt u_tg u_sn b_ip u_ic b_ah b_be b_me u_wd b_tr b_ld u_st b_wn u_id)), (b_rf, (arI G 7 v_rf)), (b_ro, (arI G 5740 v_ro)), (b_im, (arI G 11480 (upd k23_im ((5740 * p_1) + k23_2).toNatClampNeg (v_ro k23_2.toNatClampNeg)))), (b_ke, (arZ G 2 v_ke))] hP hD (fun hP hD => ?_)
        refine lv_iinc (v := (k23_2 + 1)) (lv' := [(2, .int (k23_2 + 1)), (0, .ref b_o), (1, .int p_1)]) hx hb dX12_image_48 hl (k := 0) rfl rfl (by decide) rfl (fun ls hl => ?_)
        have t_20 : (k23_2 + 1).toInt = k23_2.toInt + 1 := g5_iadd (a := k23_2.toInt) (b := 1) rfl (by decide) (by omega) (by omega)
        refine lv_goto (tgt := 23) hx hb dX12_image_51 (by decide) ?_
        exact ih_23_12 ((k23_2 + 1), (upd k23_im ((5740 * p_1) + k23_2).toNatClampNeg (v_ro k23_2.toNatClampNeg))) ls H locs (show Int.toNat (5740 - (k23_2 + 1).toInt) < Int.toNat (5740 - k23_2.toInt) from g_up (show k23_2.toInt < (k23_2 + 1).toInt by omega) (show k23_2.toInt < 5740 by omega)) ⟨lv_sub hl [0, 1, 2] rfl, hP, hD, hS, ⟨by omega, by omega⟩, im_step i_10 (by omega) (by omega) (by omega) (by omega), im_keep (k := k23_2) i_11 (by omega) (by omega) (by omega)⟩
    ·
      exact absurd c_8 (by decide)
