set_option maxHeartbeats 4000000 in
set_option maxRecDepth 100000 in
theorem n_spotE (l : Launch) (G : g5_G) (b_o b_rf b_ro b_im b_ke b_tp b_nl b_op b_ar b_pi b_pa b_ws b_hw b_se b_re b_pt b_ip b_ah b_be b_me b_tr b_ld b_wn : Nat) (sz : Nat) (u_th : Int32) (u_sa : Int32) (u_fd : Int32) (u_td : Int32) (u_fr : Int32) (u_to : Int32) (u_so : Int32) (u_fa : Int32) (u_bd : Int32) (u_nc : Int32) (u_co : Int32) (u_le : Int32) (u_pd : Int32) (u_od : Int32) (u_la : Int32) (u_bk : Int32) (u_ce : Int32) (u_ho : Int32) (u_wy : Int32) (u_bt : Int32) (u_ps : Int32) (u_tg : Int32) (u_sn : Int32) (u_ic : Int32) (u_wd : Int32) (u_id : Int32) (p_1 : Int32) (p_2 : Int32) (p_3 : Int32) (u_wo : Int64) (u_va : Int64) (u_su : Int64) (u_st : Int64) (v_rf : Nat → Int32) (v_ro : Nat → Int32) (h_u_td : 0 ≤ u_td.toInt ∧ u_td.toInt ≤ 400) (h_u_fr : 0 ≤ u_fr.toInt ∧ u_fr.toInt ≤ 400) (h_u_to : 0 ≤ u_to.toInt ∧ u_to.toInt ≤ 400) (h_u_bd : 0 ≤ u_bd.toInt ∧ u_bd.toInt ≤ 1) (h_u_nc : 0 ≤ u_nc.toInt ∧ u_nc.toInt ≤ 12) (h_u_co : 0 ≤ u_co.toInt ∧ u_co.toInt ≤ 400) (h_u_pd : 0 ≤ u_pd.toInt ∧ u_pd.toInt ≤ 400) (h_u_la : 0 ≤ u_la.toInt ∧ u_la.toInt ≤ 4840) (h_u_bk : 0 ≤ u_bk.toInt ∧ u_bk.toInt ≤ 1) (h_u_ce : 0 ≤ u_ce.toInt ∧ u_ce.toInt ≤ 63) (h_u_ho : 0 ≤ u_ho.toInt ∧ u_ho.toInt ≤ 23) (h_u_wy : 0 ≤ u_wy.toInt ∧ u_wy.toInt ≤ 3) (h_u_bt : 0 ≤ u_bt.toInt ∧ u_bt.toInt ≤ 1000000) (h_u_ps : 0 ≤ u_ps.toInt ∧ u_ps.toInt ≤ 200) (h_u_ic : 0 ≤ u_ic.toInt ∧ u_ic.toInt ≤ 1) (h_u_id : 0 ≤ u_id.toInt ∧ u_id.toInt ≤ 1) (r_ro : MI v_ro) : Met l yX12_spot (wsG yX12_spot cX12_spot 5 (some .int)) ({ frames := 3, cells := 0, slots := 0, locals := 66 }) (va_Pc [.ref b_o, .int p_1, .int p_2, .int p_3] (g5_P G [(b_o, (oc12 u_th u_sa b_rf b_ro b_im b_ke u_fd b_tp u_td u_fr u_to u_so u_wo u_fa u_bd u_nc b_nl u_co b_op b_ar u_le b_pi b_pa u_pd u_od b_ws b_hw u_la b_se b_re u_bk u_va u_su u_ce u_ho u_wy u_bt u_ps b_pt u_tg u_sn b_ip u_ic b_ah b_be b_me u_wd b_tr b_ld u_st b_wn u_id)), (b_rf, (arI G 7 v_rf)), (b_ro, (arI G 5740 v_ro))] sz)) (va_Qi (fun (r : Int32) (u : va_W) => (∃ (o_r : Int32) (o_th : Int32) (o_sa : Int32) (o_ic : Int32) (o_rf : Nat → Int32) (o_ro : Nat → Int32), (MI o_ro) ∧ (0 ≤ o_ic.toInt ∧ o_ic.toInt ≤ 1) ∧ (o_r = aspot v_ro p_1 p_2 p_3) ∧ (o_ro = sspot v_ro p_1 p_2 p_3) ∧ (r = o_r) ∧ (u = [(b_o, (oc12 o_th o_sa b_rf b_ro b_im b_ke u_fd b_tp u_td u_fr u_to u_so u_wo u_fa u_bd u_nc b_nl u_co b_op b_ar u_le b_pi b_pa u_pd u_od b_ws b_hw u_la b_se b_re u_bk u_va u_su u_ce u_ho u_wy u_bt u_ps b_pt u_tg u_sn b_ip o_ic b_ah b_be b_me u_wd b_tr b_ld u_st b_wn u_id)), (b_rf, (arI G 7 o_rf)), (b_ro, (arI G 5740 o_ro))]))) (g5_B G (va_A [(b_o, (oc12 u_th u_sa b_rf b_ro b_im b_ke u_fd b_tp u_td u_fr u_to u_so u_wo u_fa u_bd u_nc b_nl u_co b_op b_ar u_le b_pi b_pa u_pd u_od b_ws b_hw u_la b_se b_re u_bk u_va u_su u_ce u_ho u_wy u_bt u_ps b_pt u_tg u_sn b_ip u_ic b_ah b_be b_me u_wd b_tr b_ld u_st b_wn u_id)), (b_rf, (arI G 7 v_rf)), (b_ro, (arI G 5740 v_ro))] sz)) (va_A [(b_o, (oc12 u_th u_sa b_rf b_ro b_im b_ke u_fd b_tp u_td u_fr u_to u_so u_wo u_fa u_bd u_nc b_nl u_co b_op b_ar u_le b_pi b_pa u_pd u_od b_ws b_hw u_la b_se b_re u_bk u_va u_su u_ce u_ho u_wy u_bt u_ps b_pt u_tg u_sn b_ip u_ic b_ah b_be b_me u_wd b_tr b_ld u_st b_wn u_id)), (b_rf, (arI G 7 v_rf)), (b_ro, (arI G 5740 v_ro))] sz)) 0 0 (va_A [(b_o, (oc12 u_th u_sa b_rf b_ro b_im b_ke u_fd b_tp u_td u_fr u_to u_so u_wo u_fa u_bd u_nc b_nl u_co b_op b_ar u_le b_pi b_pa u_pd u_od b_ws b_hw u_la b_se b_re u_bk u_va u_su u_ce u_ho u_wy u_bt u_ps b_pt u_tg u_sn b_ip u_ic b_ah b_be b_me u_wd b_tr b_ld u_st b_wn u_id)), (b_rf, (arI G 7 v_rf)), (b_ro, (arI G 5740 v_ro))] sz) := by
  refine Met.ofW (cc := cX12_spot) (maxL := 5) (ret := (some .int)) (by decide) rfl ?_
  intro p e s m args below meth c s₁ B hml hv
  obtain ⟨rfl, hsz, hP, hK, hD0, hN, hT⟩ := hv
  have hx := B.exec
  have hb := B.bytes
  have hr := B.returns
  have hts : ∀ w ∈ tblG, w.before _ s = true := fun w h => atoms_spec (ws := (wsG yX12_spot cX12_spot 5 (some .int))) B.pre w (List.mem_cons_of_mem _ h)
  have hown : s.vm.findClass RX12 = some m.cls := findClass_of_methodNamed B.named
  have hlocks := B.notSynchronized
  subst hsz
  have hD := hD0.self (sz := s.heap.size)
  generalize hAe : va_A [(b_o, (oc12 u_th u_sa b_rf b_ro b_im b_ke u_fd b_tp u_td u_fr u_to u_so u_wo u_fa u_bd u_nc b_nl u_co b_op b_ar u_le b_pi b_pa u_pd u_od b_ws b_hw u_la b_se b_re u_bk u_va u_su u_ce u_ho u_wy u_bt u_ps b_pt u_tg u_sn b_ip u_ic b_ah b_be b_me u_wd b_tr b_ld u_st b_wn u_id)), (b_rf, (arI G 7 v_rf)), (b_ro, (arI G 5740 v_ro))] s.heap.size = A at hD hT ⊢
  have hA : ∀ q : Nat, s.heap.size ≤ q → A q := fun q h => by rw [← hAe]; exact Or.inr h
  have hS : va_S A s.heap s.heap [] := va_S.rf
  have hP : va_P G.1 vwCl [(b_o, (oc12 u_th u_sa b_rf b_ro b_im b_ke u_fd b_tp u_td u_fr u_to u_so u_wo u_fa u_bd u_nc b_nl u_co b_op b_ar u_le b_pi b_pa u_pd u_od b_ws b_hw u_la b_se b_re u_bk u_va u_su u_ce u_ho u_wy u_bt u_ps b_pt u_tg u_sn b_ip u_ic b_ah b_be b_me u_wd b_tr b_ld u_st b_wn u_id)), (b_rf, (arI G 7 v_rf)), (b_ro, (arI G 5740 v_ro))] s.heap := hP
  have hl := lv_entry ([.ref b_o, .int p_1, .int p_2, .int p_3]) (n := 5) (Nat.le_of_ble_eq_true rfl)
  rw [lg_entry_eq]
  generalize (lg_sl ([.ref b_o, .int p_1, .int p_2, .int p_3]) ++ List.replicate (5 - (lg_sl ([.ref b_o, .int p_1, .int p_2, .int p_3])).length) Slot.unset).toArray = ls at hl ⊢
  have hl : lv_has ls 5 [(0, .ref b_o), (1, .int p_1), (2, .int p_2), (3, .int p_3)] := hl
  refine lv_aload_n hx hb dX12_spot_0 rfl (lv_at hl 0 rfl) ?_
  refine lv_iconst (v := 0) hx hb dX12_spot_1 (by decide) ?_
  refine va_put (D := G.1) (ci := 12) (v := .int 0) (ty := .int) (C := RX12) (T := TX12) (N := 52) hx hb hts inG_X12 tyX12 tyX12_ok nmX12 hown hK hP hD hS 0 rfl rfl 0 (by decide) (hts _ fl_X12_107) (fun _ h9 => h9) rfl (by decide +kernel) rfl rfl (Nat.le_of_ble_eq_true rfl) dX12_spot_2 (fun H locs hP hD hS => ?_)
  refine g5_rs [(b_o, (oc12 0 u_sa b_rf b_ro b_im b_ke u_fd b_tp u_td u_fr u_to u_so u_wo u_fa u_bd u_nc b_nl u_co b_op b_ar u_le b_pi b_pa u_pd u_od b_ws b_hw u_la b_se b_re u_bk u_va u_su u_ce u_ho u_wy u_bt u_ps b_pt u_tg u_sn b_ip u_ic b_ah b_be b_me u_wd b_tr b_ld u_st b_wn u_id)), (b_rf, (arI G 7 v_rf)), (b_ro, (arI G 5740 v_ro))] hP hD (fun hP hD => ?_)
  refine lv_iload_n hx hb dX12_spot_5 rfl (lv_at hl 1 rfl) ?_
  obtain ⟨hPc, hDc, hFc⟩ := g5_sub3 (wc := []) hP hD hS hA [] (by decide) rfl
  refine va_calli (va_runS (As := [.int p_1]) (rest := []) ⟨hx, hb, hml, hown, hts⟩ (n_isCellE l G H.size p_1) (va_cwS 1 hts gS_X12_138 rfl rfl rfl hs_X12_isCell ⟨Nat.le_of_ble_eq_true rfl, Nat.le_of_ble_eq_true rfl⟩) (g5_preS hPc hK hDc hN hT hS hFc) rfl rfl hl.1 rfl (lv_room (Nat.le_of_ble_eq_true rfl)) dX12_spot_6 ⟨Nat.le_of_ble_eq_true rfl, Nat.le_of_ble_eq_true rfl⟩) hS (fun q _ h => hFc q h) hFc (fun r u t H1 locs ht hvm hw hB hz1 hk1 hS => ?_)
  obtain ⟨hP1, hD1⟩ := hB
  rw [ht] at hP1
  rcases hw with ⟨i_1, rfl, rfl⟩ | ⟨i_2, rfl, rfl⟩
  ·
    have i_1 : 0 ≤ p_1.toInt ∧ p_1.toInt ≤ 63 := i_1
    have hP := g5_same hP hk1
    generalize H1 = H at hP hS ⊢
    refine lv_if_eq (tgt := 28) hx hb dX12_spot_9 (by decide) (fun c_3 => ?_) (fun c_3 => ?_)
    ·
      exact absurd c_3 (by decide)
    ·
      refine lv_iconst (v := 0) hx hb dX12_spot_12 (by decide) ?_
      refine lv_iload_n hx hb dX12_spot_13 rfl (lv_at hl 2 rfl) ?_
      obtain ⟨hPc, hDc, hFc⟩ := g5_sub3 (wc := []) hP hD hS hA [] (by decide) rfl
      refine va_calli (va_runS (As := [.int 0, .int p_2]) (rest := []) ⟨hx, hb, hml, hown, hts⟩ (n_fits0E l G H.size p_2) (va_cwS 2 hts gS_X12_163 rfl rfl rfl hs_X12_fits ⟨Nat.le_of_ble_eq_true rfl, Nat.le_of_ble_eq_true rfl⟩) (g5_preS hPc hK hDc hN hT hS hFc) rfl rfl hl.1 rfl (lv_room (Nat.le_of_ble_eq_true rfl)) dX12_spot_14 ⟨Nat.le_of_ble_eq_true rfl, Nat.le_of_ble_eq_true rfl⟩) hS (fun q _ h => hFc q h) hFc (fun r u t H1 locs ht hvm hw hB hz1 hk1 hS => ?_)
      obtain ⟨hP1, hD1⟩ := hB
      rw [ht] at hP1
      rcases hw with ⟨i_4, rfl, rfl⟩ | ⟨i_5, rfl, rfl⟩
      ·
        have i_4 : 0 ≤ p_2.toInt ∧ p_2.toInt ≤ 5 := i_4
        have hP := g5_same hP hk1
        generalize H1 = H at hP hS ⊢
        refine lv_if_eq (tgt := 28) hx hb dX12_spot_17 (by decide) (fun c_6 => ?_) (fun c_6 => ?_)
        ·
          exact absurd c_6 (by decide)
        ·
          refine lv_iconst (v := 1) hx hb dX12_spot_20 (by decide) ?_
          refine lv_iload_n hx hb dX12_spot_21 rfl (lv_at hl 3 rfl) ?_
          obtain ⟨hPc, hDc, hFc⟩ := g5_sub3 (wc := []) hP hD hS hA [] (by decide) rfl
          refine va_calli (va_runS (As := [.int 1, .int p_3]) (rest := []) ⟨hx, hb, hml, hown, hts⟩ (n_fits1E l G H.size p_3) (va_cwS 2 hts gS_X12_163 rfl rfl rfl hs_X12_fits ⟨Nat.le_of_ble_eq_true rfl, Nat.le_of_ble_eq_true rfl⟩) (g5_preS hPc hK hDc hN hT hS hFc) rfl rfl hl.1 rfl (lv_room (Nat.le_of_ble_eq_true rfl)) dX12_spot_22 ⟨Nat.le_of_ble_eq_true rfl, Nat.le_of_ble_eq_true rfl⟩) hS (fun q _ h => hFc q h) hFc (fun r u t H1 locs ht hvm hw hB hz1 hk1 hS => ?_)
          obtain ⟨hP1, hD1⟩ := hB
          rw [ht] at hP1
          rcases hw with ⟨i_7, rfl, rfl⟩ | ⟨i_8, rfl, rfl⟩
          ·
            have i_7 : 0 ≤ p_3.toInt ∧ p_3.toInt ≤ 23 := i_7
            have hP := g5_same hP hk1
            generalize H1 = H at hP hS ⊢
            refine lv_if_ne (tgt := 34) hx hb dX12_spot_25 (by decide) (fun c_9 => ?_) (fun c_9 => ?_)
            ·
              refine lv_aload_n hx hb dX12_spot_34 rfl (lv_at hl 0 rfl) ?_
              refine lv_iload_n hx hb dX12_spot_35 rfl (lv_at hl 1 rfl) ?_
              obtain ⟨hPc, hDc, hFc⟩ := g5_sub3 (wc := [(b_o, (oc12 0 u_sa b_rf b_ro b_im b_ke u_fd b_tp u_td u_fr u_to u_so u_wo u_fa u_bd u_nc b_nl u_co b_op b_ar u_le b_pi b_pa u_pd u_od b_ws b_hw u_la b_se b_re u_bk u_va u_su u_ce u_ho u_wy u_bt u_ps b_pt u_tg u_sn b_ip u_ic b_ah b_be b_me u_wd b_tr b_ld u_st b_wn u_id)), (b_ro, (arI G 5740 v_ro))]) hP hD hS hA [0, 2] (by decide) rfl
              refine va_calli (va_runV (As := [.int p_1]) (rest := []) ⟨hx, hb, hml, hown, hts⟩ (n_canHangE l G b_o b_ro b_rf b_im b_ke b_tp b_nl b_op b_ar b_pi b_pa b_ws b_hw b_se b_re b_pt b_ip b_ah b_be b_me b_tr b_ld b_wn H.size 0 u_sa u_fd u_td u_fr u_to u_so u_fa u_bd u_nc u_co u_le u_pd u_od u_la u_bk u_ce u_ho u_wy u_bt u_ps u_tg u_sn u_ic u_wd u_id p_1 u_wo u_va u_su u_st v_ro h_u_td h_u_fr h_u_to h_u_bd h_u_nc h_u_co h_u_pd h_u_la h_u_bk h_u_ce h_u_ho h_u_wy h_u_bt h_u_ps h_u_ic h_u_id i_1 (r_ro)) (cwV 1 hts gV_X12_167 rfl rfl rfl hv_X12_canHang ⟨Nat.le_of_ble_eq_true rfl, Nat.le_of_ble_eq_true rfl⟩) (g5_preV hPc hK hDc hN hT hS hFc (ci := 12) (q0 := 0) rfl rfl) rfl rfl hl.1 rfl (lv_room (Nat.le_of_ble_eq_true rfl)) dX12_spot_36 ⟨Nat.le_of_ble_eq_true rfl, Nat.le_of_ble_eq_true rfl⟩) hS (fun q _ h => hFc q h) hFc (fun r u t H1 locs ht hvm hw hB hz1 hk1 hS => ?_)
              obtain ⟨hP1, hD1⟩ := hB
              rw [ht] at hP1
              rcases hw with ⟨i_10, rfl, rfl⟩ | ⟨i_11, rfl, rfl⟩
              ·
                have i_10 : canR v_ro p_1.toInt := i_10
                obtain ⟨hP, hD⟩ := va_join (wr := [(b_rf, (arI G 7 v_rf))]) hP hD [0, 2] [1] rfl rfl (by decide) (by decide) hk1 hFc hP1 hD1
                generalize H1 = H at hP hS ⊢
                refine g5_rs [(b_rf, (arI G 7 v_rf)), (b_o, (oc12 0 u_sa b_rf b_ro b_im b_ke u_fd b_tp u_td u_fr u_to u_so u_wo u_fa u_bd u_nc b_nl u_co b_op b_ar u_le b_pi b_pa u_pd u_od b_ws b_hw u_la b_se b_re u_bk u_va u_su u_ce u_ho u_wy u_bt u_ps b_pt u_tg u_sn b_ip u_ic b_ah b_be b_me u_wd b_tr b_ld u_st b_wn u_id)), (b_ro, (arI G 5740 v_ro))] hP hD (fun hP hD => ?_)
                refine lv_if_ne (tgt := 49) hx hb dX12_spot_39 (by decide) (fun c_12 => ?_) (fun c_12 => ?_)
                ·
                  refine lv_aload_n hx hb dX12_spot_49 rfl (lv_at hl 0 rfl) ?_
                  refine va_get (D := G.1) (ci := 12) (v := .ref b_ro) (C := RX12) (T := TX12) (N := 52) hx hb hts inG_X12 hown hK hP 1 rfl rfl 3 (by decide) (hts _ fl_X12_13) (fun _ h9 => h9) rfl dX12_spot_50 ?_
                  refine lv_bipush (v := 7) hx hb dX12_spot_53 (by decide) ?_
                  refine va_iald hx hb hK hP 2 0 rfl rfl (i := 7) (by unfold vp_in; decide) dX12_spot_55 ?_
                  refine g5_ti (v := (v_ro 7)) rfl ?_
                  have hr_13 : 0 ≤ (v_ro 7).toInt ∧ (v_ro 7).toInt ≤ 8 := mi_7 r_ro
                  refine lv_istore (lv' := [(4, .int (v_ro 7)), (0, .ref b_o), (1, .int p_1), (2, .int p_2), (3, .int p_3)]) hx hb dX12_spot_56 hl (by decide) rfl (fun ls hl => ?_)
                  refine lv_iload hx hb dX12_spot_58 (lv_at hl 0 rfl) ?_
                  refine lv_bipush (v := 8) hx hb dX12_spot_60 (by decide) ?_
                  refine lv_icmp_ne (tgt := 72) hx hb dX12_spot_62 (by decide) (fun c_14 => ?_) (fun c_14 => ?_)
                  ·
                    have n_14 : gNe ((v_ro 7).toInt) (8) := by have z := g5_ne (a := (v_ro 7).toInt) (b := 8) (by rfl) (by decide) c_14; unfold gNe; omega
                    have i_14 : (v_ro 7).toInt ≤ 7 := by have z := g5_ne (a := (v_ro 7).toInt) (b := 8) (by rfl) (by decide) c_14; omega
                    refine lv_aload_n hx hb dX12_spot_72 rfl (lv_at hl 1 rfl) ?_
                    refine va_get (D := G.1) (ci := 12) (v := .ref b_ro) (C := RX12) (T := TX12) (N := 52) hx hb hts inG_X12 hown hK hP 1 rfl rfl 3 (by decide) (hts _ fl_X12_13) (fun _ h9 => h9) rfl dX12_spot_73 ?_
                    refine lv_sipush (v := 270) hx hb dX12_spot_76 (by decide) ?_
                    refine lv_iconst (v := 3) hx hb dX12_spot_79 (by decide) ?_
                    refine lv_iload hx hb dX12_spot_80 (lv_at hl 0 rfl) ?_
                    refine lv_imul hx hb dX12_spot_82 ?_
                    have t_15 : (3 * (v_ro 7)).toInt = 3 * (v_ro 7).toInt := g5_imul (a := 3) (b := (v_ro 7).toInt) (by decide) (by rfl) (by omega) (by omega)
                    refine lv_iadd hx hb dX12_spot_83 ?_
                    have t_16 : (270 + (3 * (v_ro 7))).toInt = 270 + (3 * (v_ro 7)).toInt := g5_iadd (a := 270) (b := (3 * (v_ro 7)).toInt) (by decide) (by rfl) (by omega) (by omega)
                    refine lv_iload_n hx hb dX12_spot_84 rfl (lv_at hl 2 rfl) ?_
                    refine va_iast hx hb hK hP hD hS 2 0 rfl rfl (i := (270 + (3 * (v_ro 7)))) (x := p_1) (vp_in_iff.mpr ⟨by omega, by omega⟩) dX12_spot_85 (fun H locs hP hD hS => ?_)
                    refine g5_rs [(b_rf, (arI G 7 v_rf)), (b_o, (oc12 0 u_sa b_rf b_ro b_im b_ke u_fd b_tp u_td u_fr u_to u_so u_wo u_fa u_bd u_nc b_nl u_co b_op b_ar u_le b_pi b_pa u_pd u_od b_ws b_hw u_la b_se b_re u_bk u_va u_su u_ce u_ho u_wy u_bt u_ps b_pt u_tg u_sn b_ip u_ic b_ah b_be b_me u_wd b_tr b_ld u_st b_wn u_id)), (b_ro, (arI G 5740 (upd v_ro (270 + (3 * (v_ro 7))).toNatClampNeg p_1)))] hP hD (fun hP hD => ?_)
                    refine lv_aload_n hx hb dX12_spot_86 rfl (lv_at hl 1 rfl) ?_
                    refine va_get (D := G.1) (ci := 12) (v := .ref b_ro) (C := RX12) (T := TX12) (N := 52) hx hb hts inG_X12 hown hK hP 1 rfl rfl 3 (by decide) (hts _ fl_X12_13) (fun _ h9 => h9) rfl dX12_spot_87 ?_
                    refine lv_sipush (v := 270) hx hb dX12_spot_90 (by decide) ?_
                    refine lv_iconst (v := 3) hx hb dX12_spot_93 (by decide) ?_
                    refine lv_iload hx hb dX12_spot_94 (lv_at hl 0 rfl) ?_
                    refine lv_imul hx hb dX12_spot_96 ?_
                    have t_17 : (3 * (v_ro 7)).toInt = 3 * (v_ro 7).toInt := g5_imul (a := 3) (b := (v_ro 7).toInt) (by decide) (by rfl) (by omega) (by omega)
                    refine lv_iadd hx hb dX12_spot_97 ?_
                    have t_18 : (270 + (3 * (v_ro 7))).toInt = 270 + (3 * (v_ro 7)).toInt := g5_iadd (a := 270) (b := (3 * (v_ro 7)).toInt) (by decide) (by rfl) (by omega) (by omega)
                    refine lv_iconst (v := 1) hx hb dX12_spot_98 (by decide) ?_
                    refine lv_iadd hx hb dX12_spot_99 ?_
                    have t_19 : ((270 + (3 * (v_ro 7))) + 1).toInt = (270 + (3 * (v_ro 7))).toInt + 1 := g5_iadd (a := (270 + (3 * (v_ro 7))).toInt) (b := 1) (by rfl) (by decide) (by omega) (by omega)
                    refine lv_iload_n hx hb dX12_spot_100 rfl (lv_at hl 3 rfl) ?_
                    refine va_iast hx hb hK hP hD hS 2 0 rfl rfl (i := ((270 + (3 * (v_ro 7))) + 1)) (x := p_2) (vp_in_iff.mpr ⟨by omega, by omega⟩) dX12_spot_101 (fun H locs hP hD hS => ?_)
                    refine g5_rs [(b_rf, (arI G 7 v_rf)), (b_o, (oc12 0 u_sa b_rf b_ro b_im b_ke u_fd b_tp u_td u_fr u_to u_so u_wo u_fa u_bd u_nc b_nl u_co b_op b_ar u_le b_pi b_pa u_pd u_od b_ws b_hw u_la b_se b_re u_bk u_va u_su u_ce u_ho u_wy u_bt u_ps b_pt u_tg u_sn b_ip u_ic b_ah b_be b_me u_wd b_tr b_ld u_st b_wn u_id)), (b_ro, (arI G 5740 (upd (upd v_ro (270 + (3 * (v_ro 7))).toNatClampNeg p_1) ((270 + (3 * (v_ro 7))) + 1).toNatClampNeg p_2)))] hP hD (fun hP hD => ?_)
                    refine lv_aload_n hx hb dX12_spot_102 rfl (lv_at hl 1 rfl) ?_
                    refine va_get (D := G.1) (ci := 12) (v := .ref b_ro) (C := RX12) (T := TX12) (N := 52) hx hb hts inG_X12 hown hK hP 1 rfl rfl 3 (by decide) (hts _ fl_X12_13) (fun _ h9 => h9) rfl dX12_spot_103 ?_
                    refine lv_sipush (v := 270) hx hb dX12_spot_106 (by decide) ?_
                    refine lv_iconst (v := 3) hx hb dX12_spot_109 (by decide) ?_
                    refine lv_iload hx hb dX12_spot_110 (lv_at hl 0 rfl) ?_
                    refine lv_imul hx hb dX12_spot_112 ?_
                    have t_20 : (3 * (v_ro 7)).toInt = 3 * (v_ro 7).toInt := g5_imul (a := 3) (b := (v_ro 7).toInt) (by decide) (by rfl) (by omega) (by omega)
                    refine lv_iadd hx hb dX12_spot_113 ?_
                    have t_21 : (270 + (3 * (v_ro 7))).toInt = 270 + (3 * (v_ro 7)).toInt := g5_iadd (a := 270) (b := (3 * (v_ro 7)).toInt) (by decide) (by rfl) (by omega) (by omega)
                    refine lv_iconst (v := 2) hx hb dX12_spot_114 (by decide) ?_
                    refine lv_iadd hx hb dX12_spot_115 ?_
                    have t_22 : ((270 + (3 * (v_ro 7))) + 2).toInt = (270 + (3 * (v_ro 7))).toInt + 2 := g5_iadd (a := (270 + (3 * (v_ro 7))).toInt) (b := 2) (by rfl) (by decide) (by omega) (by omega)
                    refine lv_iload_n hx hb dX12_spot_116 rfl (lv_at hl 4 rfl) ?_
                    refine va_iast hx hb hK hP hD hS 2 0 rfl rfl (i := ((270 + (3 * (v_ro 7))) + 2)) (x := p_3) (vp_in_iff.mpr ⟨by omega, by omega⟩) dX12_spot_117 (fun H locs hP hD hS => ?_)
                    refine g5_rs [(b_rf, (arI G 7 v_rf)), (b_o, (oc12 0 u_sa b_rf b_ro b_im b_ke u_fd b_tp u_td u_fr u_to u_so u_wo u_fa u_bd u_nc b_nl u_co b_op b_ar u_le b_pi b_pa u_pd u_od b_ws b_hw u_la b_se b_re u_bk u_va u_su u_ce u_ho u_wy u_bt u_ps b_pt u_tg u_sn b_ip u_ic b_ah b_be b_me u_wd b_tr b_ld u_st b_wn u_id)), (b_ro, (arI G 5740 (upd (upd (upd v_ro (270 + (3 * (v_ro 7))).toNatClampNeg p_1) ((270 + (3 * (v_ro 7))) + 1).toNatClampNeg p_2) ((270 + (3 * (v_ro 7))) + 2).toNatClampNeg p_3)))] hP hD (fun hP hD => ?_)
                    refine lv_aload_n hx hb dX12_spot_118 rfl (lv_at hl 1 rfl) ?_
                    refine va_get (D := G.1) (ci := 12) (v := .ref b_ro) (C := RX12) (T := TX12) (N := 52) hx hb hts inG_X12 hown hK hP 1 rfl rfl 3 (by decide) (hts _ fl_X12_13) (fun _ h9 => h9) rfl dX12_spot_119 ?_
                    refine lv_bipush (v := 7) hx hb dX12_spot_122 (by decide) ?_
                    refine lv_dup2_11 hx hb dX12_spot_124 rfl rfl ?_
                    refine va_iald hx hb hK hP 2 0 rfl rfl (i := 7) (by unfold vp_in; decide) dX12_spot_125 ?_
                    refine g5_ti (v := ((upd (upd (upd v_ro (270 + (3 * (v_ro 7))).toNatClampNeg p_1) ((270 + (3 * (v_ro 7))) + 1).toNatClampNeg p_2) ((270 + (3 * (v_ro 7))) + 2).toNatClampNeg p_3) 7)) rfl ?_
                    have hu_23 : ((upd (upd (upd v_ro (270 + (3 * (v_ro 7))).toNatClampNeg p_1) ((270 + (3 * (v_ro 7))) + 1).toNatClampNeg p_2) ((270 + (3 * (v_ro 7))) + 2).toNatClampNeg p_3) 7) = (v_ro 7) := by unfold upd; rw [if_neg (by have zz := g5_clamp ((270 + (3 * (v_ro 7))) + 2); omega), if_neg (by have zz := g5_clamp ((270 + (3 * (v_ro 7))) + 1); omega), if_neg (by have zz := g5_clamp (270 + (3 * (v_ro 7))); omega)]
                    refine g5_ti (v := (v_ro 7)) hu_23 ?_
                    have hr_24 : 0 ≤ (v_ro 7).toInt ∧ (v_ro 7).toInt ≤ 8 := mi_7 r_ro
                    refine lv_iconst (v := 1) hx hb dX12_spot_126 (by decide) ?_
                    refine lv_iadd hx hb dX12_spot_127 ?_
                    have t_25 : ((v_ro 7) + 1).toInt = (v_ro 7).toInt + 1 := g5_iadd (a := (v_ro 7).toInt) (b := 1) (by rfl) (by decide) (by omega) (by omega)
                    refine va_iast hx hb hK hP hD hS 2 0 rfl rfl (i := 7) (x := ((v_ro 7) + 1)) (by unfold vp_in; decide) dX12_spot_128 (fun H locs hP hD hS => ?_)
                    refine g5_rs [(b_rf, (arI G 7 v_rf)), (b_o, (oc12 0 u_sa b_rf b_ro b_im b_ke u_fd b_tp u_td u_fr u_to u_so u_wo u_fa u_bd u_nc b_nl u_co b_op b_ar u_le b_pi b_pa u_pd u_od b_ws b_hw u_la b_se b_re u_bk u_va u_su u_ce u_ho u_wy u_bt u_ps b_pt u_tg u_sn b_ip u_ic b_ah b_be b_me u_wd b_tr b_ld u_st b_wn u_id)), (b_ro, (arI G 5740 (upd (upd (upd (upd v_ro (270 + (3 * (v_ro 7))).toNatClampNeg p_1) ((270 + (3 * (v_ro 7))) + 1).toNatClampNeg p_2) ((270 + (3 * (v_ro 7))) + 2).toNatClampNeg p_3) 7 ((v_ro 7) + 1))))] hP hD (fun hP hD => ?_)
                    refine lv_aload_n hx hb dX12_spot_129 rfl (lv_at hl 1 rfl) ?_
                    refine lv_iload hx hb dX12_spot_130 (lv_at hl 0 rfl) ?_
                    obtain ⟨hPc, hDc, hFc⟩ := g5_sub3 (wc := [(b_o, (oc12 0 u_sa b_rf b_ro b_im b_ke u_fd b_tp u_td u_fr u_to u_so u_wo u_fa u_bd u_nc b_nl u_co b_op b_ar u_le b_pi b_pa u_pd u_od b_ws b_hw u_la b_se b_re u_bk u_va u_su u_ce u_ho u_wy u_bt u_ps b_pt u_tg u_sn b_ip u_ic b_ah b_be b_me u_wd b_tr b_ld u_st b_wn u_id)), (b_rf, (arI G 7 v_rf))]) hP hD hS hA [1, 0] (by decide) rfl
                    refine va_calli (va_runV (As := [.int (v_ro 7)]) (rest := []) ⟨hx, hb, hml, hown, hts⟩ (n_tell l G b_o b_rf b_ro b_im b_ke b_tp b_nl b_op b_ar b_pi b_pa b_ws b_hw b_se b_re b_pt b_ip b_ah b_be b_me b_tr b_ld b_wn H.size 0 u_sa u_fd u_td u_fr u_to u_so u_fa u_bd u_nc u_co u_le u_pd u_od u_la u_bk u_ce u_ho u_wy u_bt u_ps u_tg u_sn u_ic u_wd u_id (v_ro 7) u_wo u_va u_su u_st v_rf h_u_td h_u_fr h_u_to h_u_bd h_u_nc h_u_co h_u_pd h_u_la h_u_bk h_u_ce h_u_ho h_u_wy h_u_bt h_u_ps h_u_ic h_u_id ⟨by omega, by omega⟩) (cwV 1 hts gV_X12_125 rfl rfl rfl hv_X12_tell ⟨Nat.le_of_ble_eq_true rfl, Nat.le_of_ble_eq_true rfl⟩) (g5_preV hPc hK hDc hN hT hS hFc (ci := 12) (q0 := 0) rfl rfl) rfl rfl hl.1 rfl (lv_room (Nat.le_of_ble_eq_true rfl)) dX12_spot_132 ⟨Nat.le_of_ble_eq_true rfl, Nat.le_of_ble_eq_true rfl⟩) hS (fun q _ h => hFc q h) hFc (fun r u t H1 locs ht hvm hw hB hz1 hk1 hS => ?_)
                    obtain ⟨hP1, hD1⟩ := hB
                    rw [ht] at hP1
                    obtain ⟨z27, z28, z29, i_26, rfl, rfl⟩ := hw
                    have i_26 : 0 ≤ z28.toInt ∧ z28.toInt ≤ 1 := i_26
                    obtain ⟨hP, hD⟩ := va_join (wr := [(b_ro, (arI G 5740 (upd (upd (upd (upd v_ro (270 + (3 * (v_ro 7))).toNatClampNeg p_1) ((270 + (3 * (v_ro 7))) + 1).toNatClampNeg p_2) ((270 + (3 * (v_ro 7))) + 2).toNatClampNeg p_3) 7 ((v_ro 7) + 1))))]) hP hD [1, 0] [2] rfl rfl (by decide) (by decide) hk1 hFc hP1 hD1
                    generalize H1 = H at hP hS ⊢
                    refine g5_rs [(b_ro, (arI G 5740 (upd (upd (upd (upd v_ro (270 + (3 * (v_ro 7))).toNatClampNeg p_1) ((270 + (3 * (v_ro 7))) + 1).toNatClampNeg p_2) ((270 + (3 * (v_ro 7))) + 2).toNatClampNeg p_3) 7 ((v_ro 7) + 1)))), (b_o, (oc12 0 z27 b_rf b_ro b_im b_ke u_fd b_tp u_td u_fr u_to u_so u_wo u_fa u_bd u_nc b_nl u_co b_op b_ar u_le b_pi b_pa u_pd u_od b_ws b_hw u_la b_se b_re u_bk u_va u_su u_ce u_ho u_wy u_bt u_ps b_pt u_tg u_sn b_ip z28 b_ah b_be b_me u_wd b_tr b_ld u_st b_wn u_id)), (b_rf, (arI G 7 z29))] hP hD (fun hP hD => ?_)
                    exact W.iret (v := (v_ro 7)) hx hb hr (fun t ht hW => ⟨⟨(v_ro 7), [(b_o, (oc12 0 z27 b_rf b_ro b_im b_ke u_fd b_tp u_td u_fr u_to u_so u_wo u_fa u_bd u_nc b_nl u_co b_op b_ar u_le b_pi b_pa u_pd u_od b_ws b_hw u_la b_se b_re u_bk u_va u_su u_ce u_ho u_wy u_bt u_ps b_pt u_tg u_sn b_ip z28 b_ah b_be b_me u_wd b_tr b_ld u_st b_wn u_id)), (b_rf, (arI G 7 z29)), (b_ro, (arI G 5740 (upd (upd (upd (upd v_ro (270 + (3 * (v_ro 7))).toNatClampNeg p_1) ((270 + (3 * (v_ro 7))) + 1).toNatClampNeg p_2) ((270 + (3 * (v_ro 7))) + 2).toNatClampNeg p_3) 7 ((v_ro 7) + 1))))], rfl, ⟨(v_ro 7), 0, z27, z28, z29, (upd (upd (upd (upd v_ro (270 + (3 * (v_ro 7))).toNatClampNeg p_1) ((270 + (3 * (v_ro 7))) + 1).toNatClampNeg p_2) ((270 + (3 * (v_ro 7))) + 2).toNatClampNeg p_3) 7 ((v_ro 7) + 1)), mi_upd (mi_upd (mi_upd (mi_upd r_ro (by have zz := g5_clamp (270 + (3 * (v_ro 7))); unfold rOK; refine ⟨?_, ?_, ?_, ?_, ?_, ?_, ?_, ?_, ?_, ?_, ?_, ?_, ?_, ?_, ?_, ?_, ?_, ?_, ?_, ?_, ?_, ?_, ?_⟩ <;> (intros; omega)) (by have zz := g5_clamp (270 + (3 * (v_ro 7))); omega) (by have zz := g5_clamp (270 + (3 * (v_ro 7))); omega) (by have zz := g5_clamp (270 + (3 * (v_ro 7))); omega) (by have zz := g5_clamp (270 + (3 * (v_ro 7))); omega) (by have zz := g5_clamp (270 + (3 * (v_ro 7))); omega)) (by have zz := g5_clamp ((270 + (3 * (v_ro 7))) + 1); unfold rOK; refine ⟨?_, ?_, ?_, ?_, ?_, ?_, ?_, ?_, ?_, ?_, ?_, ?_, ?_, ?_, ?_, ?_, ?_, ?_, ?_, ?_, ?_, ?_, ?_⟩ <;> (intros; omega)) (by have zz := g5_clamp ((270 + (3 * (v_ro 7))) + 1); omega) (by have zz := g5_clamp ((270 + (3 * (v_ro 7))) + 1); omega) (by have zz := g5_clamp ((270 + (3 * (v_ro 7))) + 1); omega) (by have zz := g5_clamp ((270 + (3 * (v_ro 7))) + 1); omega) (by have zz := g5_clamp ((270 + (3 * (v_ro 7))) + 1); omega)) (by have zz := g5_clamp ((270 + (3 * (v_ro 7))) + 2); unfold rOK; refine ⟨?_, ?_, ?_, ?_, ?_, ?_, ?_, ?_, ?_, ?_, ?_, ?_, ?_, ?_, ?_, ?_, ?_, ?_, ?_, ?_, ?_, ?_, ?_⟩ <;> (intros; omega)) (by have zz := g5_clamp ((270 + (3 * (v_ro 7))) + 2); omega) (by have zz := g5_clamp ((270 + (3 * (v_ro 7))) + 2); omega) (by have zz := g5_clamp ((270 + (3 * (v_ro 7))) + 2); omega) (by have zz := g5_clamp ((270 + (3 * (v_ro 7))) + 2); omega) (by have zz := g5_clamp ((270 + (3 * (v_ro 7))) + 2); omega)) (by unfold rOK; refine ⟨?_, ?_, ?_, ?_, ?_, ?_, ?_, ?_, ?_, ?_, ?_, ?_, ?_, ?_, ?_, ?_, ?_, ?_, ?_, ?_, ?_, ?_, ?_⟩ <;> (intros; omega)) (by omega) (by omega) (by omega) (by omega) (by omega), i_26, (spot_0 (f := v_ro) (c := p_1) (s := p_2) (l := p_3) (by unfold okP; omega) i_10 (by omega)).1.symm, (mr3 (f := v_ro) (ci := 7) (B := 270) (n := (v_ro 7).toInt.toNat) (by omega) (by have zz := g5_clamp (270 + (3 * (v_ro 7))); omega) (by have zz := g5_clamp ((270 + (3 * (v_ro 7))) + 1); omega) (by have zz := g5_clamp ((270 + (3 * (v_ro 7))) + 2); omega)).trans (spot_0 (f := v_ro) (c := p_1) (s := p_2) (l := p_3) (by unfold okP; omega) i_10 (by omega)).2.symm, rfl, rfl⟩, by rw [ht]; exact hP.sub [1, 2, 0] rfl, hD.sub [1, 2, 0] (by decide) rfl⟩, hS.F ht⟩) hS.2.2 dX12_spot_135
                  ·
                    have i_14 : (v_ro 7).toInt = 8 := by have z := g5_neN (a := (v_ro 7).toInt) (b := 8) (by rfl) (by decide) c_14; omega
                    refine lv_aload_n hx hb dX12_spot_65 rfl (lv_at hl 1 rfl) ?_
                    refine lv_bipush (v := (-5)) hx hb dX12_spot_66 (by decide) ?_
                    obtain ⟨hPc, hDc, hFc⟩ := g5_sub3 (wc := [(b_o, (oc12 0 u_sa b_rf b_ro b_im b_ke u_fd b_tp u_td u_fr u_to u_so u_wo u_fa u_bd u_nc b_nl u_co b_op b_ar u_le b_pi b_pa u_pd u_od b_ws b_hw u_la b_se b_re u_bk u_va u_su u_ce u_ho u_wy u_bt u_ps b_pt u_tg u_sn b_ip u_ic b_ah b_be b_me u_wd b_tr b_ld u_st b_wn u_id)), (b_rf, (arI G 7 v_rf))]) hP hD hS hA [1, 0] (by decide) rfl
                    refine va_calli (va_runV (As := [.int (-5)]) (rest := []) ⟨hx, hb, hml, hown, hts⟩ (n_tell5 l G b_o b_rf b_ro b_im b_ke b_tp b_nl b_op b_ar b_pi b_pa b_ws b_hw b_se b_re b_pt b_ip b_ah b_be b_me b_tr b_ld b_wn H.size 0 u_sa u_fd u_td u_fr u_to u_so u_fa u_bd u_nc u_co u_le u_pd u_od u_la u_bk u_ce u_ho u_wy u_bt u_ps u_tg u_sn u_ic u_wd u_id u_wo u_va u_su u_st v_rf h_u_td h_u_fr h_u_to h_u_bd h_u_nc h_u_co h_u_pd h_u_la h_u_bk h_u_ce h_u_ho h_u_wy h_u_bt h_u_ps h_u_ic h_u_id) (cwV 1 hts gV_X12_125 rfl rfl rfl hv_X12_tell ⟨Nat.le_of_ble_eq_true rfl, Nat.le_of_ble_eq_true rfl⟩) (g5_preV hPc hK hDc hN hT hS hFc (ci := 12) (q0 := 0) rfl rfl) rfl rfl hl.1 rfl (lv_room (Nat.le_of_ble_eq_true rfl)) dX12_spot_68 ⟨Nat.le_of_ble_eq_true rfl, Nat.le_of_ble_eq_true rfl⟩) hS (fun q _ h => hFc q h) hFc (fun r u t H1 locs ht hvm hw hB hz1 hk1 hS => ?_)
                    obtain ⟨hP1, hD1⟩ := hB
                    rw [ht] at hP1
                    obtain ⟨z31, z32, z33, i_30, rfl, rfl⟩ := hw
                    have i_30 : 0 ≤ z32.toInt ∧ z32.toInt ≤ 1 := i_30
                    obtain ⟨hP, hD⟩ := va_join (wr := [(b_ro, (arI G 5740 v_ro))]) hP hD [1, 0] [2] rfl rfl (by decide) (by decide) hk1 hFc hP1 hD1
                    generalize H1 = H at hP hS ⊢
                    refine g5_rs [(b_ro, (arI G 5740 v_ro)), (b_o, (oc12 0 z31 b_rf b_ro b_im b_ke u_fd b_tp u_td u_fr u_to u_so u_wo u_fa u_bd u_nc b_nl u_co b_op b_ar u_le b_pi b_pa u_pd u_od b_ws b_hw u_la b_se b_re u_bk u_va u_su u_ce u_ho u_wy u_bt u_ps b_pt u_tg u_sn b_ip z32 b_ah b_be b_me u_wd b_tr b_ld u_st b_wn u_id)), (b_rf, (arI G 7 z33))] hP hD (fun hP hD => ?_)
                    exact W.iret (v := (-5)) hx hb hr (fun t ht hW => ⟨⟨(-5), [(b_o, (oc12 0 z31 b_rf b_ro b_im b_ke u_fd b_tp u_td u_fr u_to u_so u_wo u_fa u_bd u_nc b_nl u_co b_op b_ar u_le b_pi b_pa u_pd u_od b_ws b_hw u_la b_se b_re u_bk u_va u_su u_ce u_ho u_wy u_bt u_ps b_pt u_tg u_sn b_ip z32 b_ah b_be b_me u_wd b_tr b_ld u_st b_wn u_id)), (b_rf, (arI G 7 z33)), (b_ro, (arI G 5740 v_ro))], rfl, ⟨(-5), 0, z31, z32, z33, v_ro, r_ro, i_30, (spot_5 (f := v_ro) (c := p_1) (s := p_2) (l := p_3) (by unfold okP; omega) i_10 (by omega)).1.symm, (spot_5 (f := v_ro) (c := p_1) (s := p_2) (l := p_3) (by unfold okP; omega) i_10 (by omega)).2.symm, rfl, rfl⟩, by rw [ht]; exact hP.sub [1, 2, 0] rfl, hD.sub [1, 2, 0] (by decide) rfl⟩, hS.F ht⟩) hS.2.2 dX12_spot_71
                ·
                  exact absurd c_12 (by decide)
              ·
                have i_11 : ¬ canR v_ro p_1.toInt := i_11
                obtain ⟨hP, hD⟩ := va_join (wr := [(b_rf, (arI G 7 v_rf))]) hP hD [0, 2] [1] rfl rfl (by decide) (by decide) hk1 hFc hP1 hD1
                generalize H1 = H at hP hS ⊢
                refine g5_rs [(b_rf, (arI G 7 v_rf)), (b_o, (oc12 0 u_sa b_rf b_ro b_im b_ke u_fd b_tp u_td u_fr u_to u_so u_wo u_fa u_bd u_nc b_nl u_co b_op b_ar u_le b_pi b_pa u_pd u_od b_ws b_hw u_la b_se b_re u_bk u_va u_su u_ce u_ho u_wy u_bt u_ps b_pt u_tg u_sn b_ip u_ic b_ah b_be b_me u_wd b_tr b_ld u_st b_wn u_id)), (b_ro, (arI G 5740 v_ro))] hP hD (fun hP hD => ?_)
                refine lv_if_ne (tgt := 49) hx hb dX12_spot_39 (by decide) (fun c_34 => ?_) (fun c_34 => ?_)
                ·
                  exact absurd c_34 (by decide)
                ·
                  refine lv_aload_n hx hb dX12_spot_42 rfl (lv_at hl 0 rfl) ?_
                  refine lv_bipush (v := (-3)) hx hb dX12_spot_43 (by decide) ?_
                  obtain ⟨hPc, hDc, hFc⟩ := g5_sub3 (wc := [(b_o, (oc12 0 u_sa b_rf b_ro b_im b_ke u_fd b_tp u_td u_fr u_to u_so u_wo u_fa u_bd u_nc b_nl u_co b_op b_ar u_le b_pi b_pa u_pd u_od b_ws b_hw u_la b_se b_re u_bk u_va u_su u_ce u_ho u_wy u_bt u_ps b_pt u_tg u_sn b_ip u_ic b_ah b_be b_me u_wd b_tr b_ld u_st b_wn u_id)), (b_rf, (arI G 7 v_rf))]) hP hD hS hA [1, 0] (by decide) rfl
                  refine va_calli (va_runV (As := [.int (-3)]) (rest := []) ⟨hx, hb, hml, hown, hts⟩ (n_tell3 l G b_o b_rf b_ro b_im b_ke b_tp b_nl b_op b_ar b_pi b_pa b_ws b_hw b_se b_re b_pt b_ip b_ah b_be b_me b_tr b_ld b_wn H.size 0 u_sa u_fd u_td u_fr u_to u_so u_fa u_bd u_nc u_co u_le u_pd u_od u_la u_bk u_ce u_ho u_wy u_bt u_ps u_tg u_sn u_ic u_wd u_id u_wo u_va u_su u_st v_rf h_u_td h_u_fr h_u_to h_u_bd h_u_nc h_u_co h_u_pd h_u_la h_u_bk h_u_ce h_u_ho h_u_wy h_u_bt h_u_ps h_u_ic h_u_id) (cwV 1 hts gV_X12_125 rfl rfl rfl hv_X12_tell ⟨Nat.le_of_ble_eq_true rfl, Nat.le_of_ble_eq_true rfl⟩) (g5_preV hPc hK hDc hN hT hS hFc (ci := 12) (q0 := 0) rfl rfl) rfl rfl hl.1 rfl (lv_room (Nat.le_of_ble_eq_true rfl)) dX12_spot_45 ⟨Nat.le_of_ble_eq_true rfl, Nat.le_of_ble_eq_true rfl⟩) hS (fun q _ h => hFc q h) hFc (fun r u t H1 locs ht hvm hw hB hz1 hk1 hS => ?_)
                  obtain ⟨hP1, hD1⟩ := hB
                  rw [ht] at hP1
                  obtain ⟨z36, z37, z38, i_35, rfl, rfl⟩ := hw
                  have i_35 : 0 ≤ z37.toInt ∧ z37.toInt ≤ 1 := i_35
                  obtain ⟨hP, hD⟩ := va_join (wr := [(b_ro, (arI G 5740 v_ro))]) hP hD [1, 0] [2] rfl rfl (by decide) (by decide) hk1 hFc hP1 hD1
                  generalize H1 = H at hP hS ⊢
                  refine g5_rs [(b_ro, (arI G 5740 v_ro)), (b_o, (oc12 0 z36 b_rf b_ro b_im b_ke u_fd b_tp u_td u_fr u_to u_so u_wo u_fa u_bd u_nc b_nl u_co b_op b_ar u_le b_pi b_pa u_pd u_od b_ws b_hw u_la b_se b_re u_bk u_va u_su u_ce u_ho u_wy u_bt u_ps b_pt u_tg u_sn b_ip z37 b_ah b_be b_me u_wd b_tr b_ld u_st b_wn u_id)), (b_rf, (arI G 7 z38))] hP hD (fun hP hD => ?_)
                  exact W.iret (v := (-3)) hx hb hr (fun t ht hW => ⟨⟨(-3), [(b_o, (oc12 0 z36 b_rf b_ro b_im b_ke u_fd b_tp u_td u_fr u_to u_so u_wo u_fa u_bd u_nc b_nl u_co b_op b_ar u_le b_pi b_pa u_pd u_od b_ws b_hw u_la b_se b_re u_bk u_va u_su u_ce u_ho u_wy u_bt u_ps b_pt u_tg u_sn b_ip z37 b_ah b_be b_me u_wd b_tr b_ld u_st b_wn u_id)), (b_rf, (arI G 7 z38)), (b_ro, (arI G 5740 v_ro))], rfl, ⟨(-3), 0, z36, z37, z38, v_ro, r_ro, i_35, (spot_3 (f := v_ro) (c := p_1) (s := p_2) (l := p_3) (by unfold okP; omega) i_11).1.symm, (spot_3 (f := v_ro) (c := p_1) (s := p_2) (l := p_3) (by unfold okP; omega) i_11).2.symm, rfl, rfl⟩, by rw [ht]; exact hP.sub [1, 2, 0] rfl, hD.sub [1, 2, 0] (by decide) rfl⟩, hS.F ht⟩) hS.2.2 dX12_spot_48
            ·
              exact absurd c_9 (by decide)
          ·
            have i_8 : p_3.toInt < 0 ∨ 23 < p_3.toInt := i_8
            have hP := g5_same hP hk1
            generalize H1 = H at hP hS ⊢
            refine lv_if_ne (tgt := 34) hx hb dX12_spot_25 (by decide) (fun c_39 => ?_) (fun c_39 => ?_)
            ·
              exact absurd c_39 (by decide)
            ·
              refine lv_aload_n hx hb dX12_spot_28 rfl (lv_at hl 0 rfl) ?_
              refine lv_iconst (v := (-1)) hx hb dX12_spot_29 (by decide) ?_
              obtain ⟨hPc, hDc, hFc⟩ := g5_sub3 (wc := [(b_o, (oc12 0 u_sa b_rf b_ro b_im b_ke u_fd b_tp u_td u_fr u_to u_so u_wo u_fa u_bd u_nc b_nl u_co b_op b_ar u_le b_pi b_pa u_pd u_od b_ws b_hw u_la b_se b_re u_bk u_va u_su u_ce u_ho u_wy u_bt u_ps b_pt u_tg u_sn b_ip u_ic b_ah b_be b_me u_wd b_tr b_ld u_st b_wn u_id)), (b_rf, (arI G 7 v_rf))]) hP hD hS hA [0, 1] (by decide) rfl
              refine va_calli (va_runV (As := [.int (-1)]) (rest := []) ⟨hx, hb, hml, hown, hts⟩ (n_tell1 l G b_o b_rf b_ro b_im b_ke b_tp b_nl b_op b_ar b_pi b_pa b_ws b_hw b_se b_re b_pt b_ip b_ah b_be b_me b_tr b_ld b_wn H.size 0 u_sa u_fd u_td u_fr u_to u_so u_fa u_bd u_nc u_co u_le u_pd u_od u_la u_bk u_ce u_ho u_wy u_bt u_ps u_tg u_sn u_ic u_wd u_id u_wo u_va u_su u_st v_rf h_u_td h_u_fr h_u_to h_u_bd h_u_nc h_u_co h_u_pd h_u_la h_u_bk h_u_ce h_u_ho h_u_wy h_u_bt h_u_ps h_u_ic h_u_id) (cwV 1 hts gV_X12_125 rfl rfl rfl hv_X12_tell ⟨Nat.le_of_ble_eq_true rfl, Nat.le_of_ble_eq_true rfl⟩) (g5_preV hPc hK hDc hN hT hS hFc (ci := 12) (q0 := 0) rfl rfl) rfl rfl hl.1 rfl (lv_room (Nat.le_of_ble_eq_true rfl)) dX12_spot_30 ⟨Nat.le_of_ble_eq_true rfl, Nat.le_of_ble_eq_true rfl⟩) hS (fun q _ h => hFc q h) hFc (fun r u t H1 locs ht hvm hw hB hz1 hk1 hS => ?_)
              obtain ⟨hP1, hD1⟩ := hB
              rw [ht] at hP1
              obtain ⟨z41, z42, z43, i_40, rfl, rfl⟩ := hw
              have i_40 : 0 ≤ z42.toInt ∧ z42.toInt ≤ 1 := i_40
              obtain ⟨hP, hD⟩ := va_join (wr := [(b_ro, (arI G 5740 v_ro))]) hP hD [0, 1] [2] rfl rfl (by decide) (by decide) hk1 hFc hP1 hD1
              generalize H1 = H at hP hS ⊢
              refine g5_rs [(b_ro, (arI G 5740 v_ro)), (b_o, (oc12 0 z41 b_rf b_ro b_im b_ke u_fd b_tp u_td u_fr u_to u_so u_wo u_fa u_bd u_nc b_nl u_co b_op b_ar u_le b_pi b_pa u_pd u_od b_ws b_hw u_la b_se b_re u_bk u_va u_su u_ce u_ho u_wy u_bt u_ps b_pt u_tg u_sn b_ip z42 b_ah b_be b_me u_wd b_tr b_ld u_st b_wn u_id)), (b_rf, (arI G 7 z43))] hP hD (fun hP hD => ?_)
              exact W.iret (v := (-1)) hx hb hr (fun t ht hW => ⟨⟨(-1), [(b_o, (oc12 0 z41 b_rf b_ro b_im b_ke u_fd b_tp u_td u_fr u_to u_so u_wo u_fa u_bd u_nc b_nl u_co b_op b_ar u_le b_pi b_pa u_pd u_od b_ws b_hw u_la b_se b_re u_bk u_va u_su u_ce u_ho u_wy u_bt u_ps b_pt u_tg u_sn b_ip z42 b_ah b_be b_me u_wd b_tr b_ld u_st b_wn u_id)), (b_rf, (arI G 7 z43)), (b_ro, (arI G 5740 v_ro))], rfl, ⟨(-1), 0, z41, z42, z43, v_ro, r_ro, i_40, (spot_1 (f := v_ro) (c := p_1) (s := p_2) (l := p_3) (by unfold okP; omega)).1.symm, (spot_1 (f := v_ro) (c := p_1) (s := p_2) (l := p_3) (by unfold okP; omega)).2.symm, rfl, rfl⟩, by rw [ht]; exact hP.sub [1, 2, 0] rfl, hD.sub [1, 2, 0] (by decide) rfl⟩, hS.F ht⟩) hS.2.2 dX12_spot_33
      ·
        have i_5 : p_2.toInt < 0 ∨ 5 < p_2.toInt := i_5
        have hP := g5_same hP hk1
        generalize H1 = H at hP hS ⊢
        refine lv_if_eq (tgt := 28) hx hb dX12_spot_17 (by decide) (fun c_44 => ?_) (fun c_44 => ?_)
        ·
          refine lv_aload_n hx hb dX12_spot_28 rfl (lv_at hl 0 rfl) ?_
          refine lv_iconst (v := (-1)) hx hb dX12_spot_29 (by decide) ?_
          obtain ⟨hPc, hDc, hFc⟩ := g5_sub3 (wc := [(b_o, (oc12 0 u_sa b_rf b_ro b_im b_ke u_fd b_tp u_td u_fr u_to u_so u_wo u_fa u_bd u_nc b_nl u_co b_op b_ar u_le b_pi b_pa u_pd u_od b_ws b_hw u_la b_se b_re u_bk u_va u_su u_ce u_ho u_wy u_bt u_ps b_pt u_tg u_sn b_ip u_ic b_ah b_be b_me u_wd b_tr b_ld u_st b_wn u_id)), (b_rf, (arI G 7 v_rf))]) hP hD hS hA [0, 1] (by decide) rfl
          refine va_calli (va_runV (As := [.int (-1)]) (rest := []) ⟨hx, hb, hml, hown, hts⟩ (n_tell1 l G b_o b_rf b_ro b_im b_ke b_tp b_nl b_op b_ar b_pi b_pa b_ws b_hw b_se b_re b_pt b_ip b_ah b_be b_me b_tr b_ld b_wn H.size 0 u_sa u_fd u_td u_fr u_to u_so u_fa u_bd u_nc u_co u_le u_pd u_od u_la u_bk u_ce u_ho u_wy u_bt u_ps u_tg u_sn u_ic u_wd u_id u_wo u_va u_su u_st v_rf h_u_td h_u_fr h_u_to h_u_bd h_u_nc h_u_co h_u_pd h_u_la h_u_bk h_u_ce h_u_ho h_u_wy h_u_bt h_u_ps h_u_ic h_u_id) (cwV 1 hts gV_X12_125 rfl rfl rfl hv_X12_tell ⟨Nat.le_of_ble_eq_true rfl, Nat.le_of_ble_eq_true rfl⟩) (g5_preV hPc hK hDc hN hT hS hFc (ci := 12) (q0 := 0) rfl rfl) rfl rfl hl.1 rfl (lv_room (Nat.le_of_ble_eq_true rfl)) dX12_spot_30 ⟨Nat.le_of_ble_eq_true rfl, Nat.le_of_ble_eq_true rfl⟩) hS (fun q _ h => hFc q h) hFc (fun r u t H1 locs ht hvm hw hB hz1 hk1 hS => ?_)
          obtain ⟨hP1, hD1⟩ := hB
          rw [ht] at hP1
          obtain ⟨z46, z47, z48, i_45, rfl, rfl⟩ := hw
          have i_45 : 0 ≤ z47.toInt ∧ z47.toInt ≤ 1 := i_45
          obtain ⟨hP, hD⟩ := va_join (wr := [(b_ro, (arI G 5740 v_ro))]) hP hD [0, 1] [2] rfl rfl (by decide) (by decide) hk1 hFc hP1 hD1
          generalize H1 = H at hP hS ⊢
          refine g5_rs [(b_ro, (arI G 5740 v_ro)), (b_o, (oc12 0 z46 b_rf b_ro b_im b_ke u_fd b_tp u_td u_fr u_to u_so u_wo u_fa u_bd u_nc b_nl u_co b_op b_ar u_le b_pi b_pa u_pd u_od b_ws b_hw u_la b_se b_re u_bk u_va u_su u_ce u_ho u_wy u_bt u_ps b_pt u_tg u_sn b_ip z47 b_ah b_be b_me u_wd b_tr b_ld u_st b_wn u_id)), (b_rf, (arI G 7 z48))] hP hD (fun hP hD => ?_)
          exact W.iret (v := (-1)) hx hb hr (fun t ht hW => ⟨⟨(-1), [(b_o, (oc12 0 z46 b_rf b_ro b_im b_ke u_fd b_tp u_td u_fr u_to u_so u_wo u_fa u_bd u_nc b_nl u_co b_op b_ar u_le b_pi b_pa u_pd u_od b_ws b_hw u_la b_se b_re u_bk u_va u_su u_ce u_ho u_wy u_bt u_ps b_pt u_tg u_sn b_ip z47 b_ah b_be b_me u_wd b_tr b_ld u_st b_wn u_id)), (b_rf, (arI G 7 z48)), (b_ro, (arI G 5740 v_ro))], rfl, ⟨(-1), 0, z46, z47, z48, v_ro, r_ro, i_45, (spot_1 (f := v_ro) (c := p_1) (s := p_2) (l := p_3) (by unfold okP; omega)).1.symm, (spot_1 (f := v_ro) (c := p_1) (s := p_2) (l := p_3) (by unfold okP; omega)).2.symm, rfl, rfl⟩, by rw [ht]; exact hP.sub [1, 2, 0] rfl, hD.sub [1, 2, 0] (by decide) rfl⟩, hS.F ht⟩) hS.2.2 dX12_spot_33
        ·
          exact absurd c_44 (by decide)
  ·
    have i_2 : p_1.toInt < 0 ∨ 63 < p_1.toInt := i_2
    have hP := g5_same hP hk1
    generalize H1 = H at hP hS ⊢
    refine lv_if_eq (tgt := 28) hx hb dX12_spot_9 (by decide) (fun c_49 => ?_) (fun c_49 => ?_)
    ·
      refine lv_aload_n hx hb dX12_spot_28 rfl (lv_at hl 0 rfl) ?_
      refine lv_iconst (v := (-1)) hx hb dX12_spot_29 (by decide) ?_
      obtain ⟨hPc, hDc, hFc⟩ := g5_sub3 (wc := [(b_o, (oc12 0 u_sa b_rf b_ro b_im b_ke u_fd b_tp u_td u_fr u_to u_so u_wo u_fa u_bd u_nc b_nl u_co b_op b_ar u_le b_pi b_pa u_pd u_od b_ws b_hw u_la b_se b_re u_bk u_va u_su u_ce u_ho u_wy u_bt u_ps b_pt u_tg u_sn b_ip u_ic b_ah b_be b_me u_wd b_tr b_ld u_st b_wn u_id)), (b_rf, (arI G 7 v_rf))]) hP hD hS hA [0, 1] (by decide) rfl
      refine va_calli (va_runV (As := [.int (-1)]) (rest := []) ⟨hx, hb, hml, hown, hts⟩ (n_tell1 l G b_o b_rf b_ro b_im b_ke b_tp b_nl b_op b_ar b_pi b_pa b_ws b_hw b_se b_re b_pt b_ip b_ah b_be b_me b_tr b_ld b_wn H.size 0 u_sa u_fd u_td u_fr u_to u_so u_fa u_bd u_nc u_co u_le u_pd u_od u_la u_bk u_ce u_ho u_wy u_bt u_ps u_tg u_sn u_ic u_wd u_id u_wo u_va u_su u_st v_rf h_u_td h_u_fr h_u_to h_u_bd h_u_nc h_u_co h_u_pd h_u_la h_u_bk h_u_ce h_u_ho h_u_wy h_u_bt h_u_ps h_u_ic h_u_id) (cwV 1 hts gV_X12_125 rfl rfl rfl hv_X12_tell ⟨Nat.le_of_ble_eq_true rfl, Nat.le_of_ble_eq_true rfl⟩) (g5_preV hPc hK hDc hN hT hS hFc (ci := 12) (q0 := 0) rfl rfl) rfl rfl hl.1 rfl (lv_room (Nat.le_of_ble_eq_true rfl)) dX12_spot_30 ⟨Nat.le_of_ble_eq_true rfl, Nat.le_of_ble_eq_true rfl⟩) hS (fun q _ h => hFc q h) hFc (fun r u t H1 locs ht hvm hw hB hz1 hk1 hS => ?_)
      obtain ⟨hP1, hD1⟩ := hB
      rw [ht] at hP1
      obtain ⟨z51, z52, z53, i_50, rfl, rfl⟩ := hw
      have i_50 : 0 ≤ z52.toInt ∧ z52.toInt ≤ 1 := i_50
      obtain ⟨hP, hD⟩ := va_join (wr := [(b_ro, (arI G 5740 v_ro))]) hP hD [0, 1] [2] rfl rfl (by decide) (by decide) hk1 hFc hP1 hD1
      generalize H1 = H at hP hS ⊢
      refine g5_rs [(b_ro, (arI G 5740 v_ro)), (b_o, (oc12 0 z51 b_rf b_ro b_im b_ke u_fd b_tp u_td u_fr u_to u_so u_wo u_fa u_bd u_nc b_nl u_co b_op b_ar u_le b_pi b_pa u_pd u_od b_ws b_hw u_la b_se b_re u_bk u_va u_su u_ce u_ho u_wy u_bt u_ps b_pt u_tg u_sn b_ip z52 b_ah b_be b_me u_wd b_tr b_ld u_st b_wn u_id)), (b_rf, (arI G 7 z53))] hP hD (fun hP hD => ?_)
      exact W.iret (v := (-1)) hx hb hr (fun t ht hW => ⟨⟨(-1), [(b_o, (oc12 0 z51 b_rf b_ro b_im b_ke u_fd b_tp u_td u_fr u_to u_so u_wo u_fa u_bd u_nc b_nl u_co b_op b_ar u_le b_pi b_pa u_pd u_od b_ws b_hw u_la b_se b_re u_bk u_va u_su u_ce u_ho u_wy u_bt u_ps b_pt u_tg u_sn b_ip z52 b_ah b_be b_me u_wd b_tr b_ld u_st b_wn u_id)), (b_rf, (arI G 7 z53)), (b_ro, (arI G 5740 v_ro))], rfl, ⟨(-1), 0, z51, z52, z53, v_ro, r_ro, i_50, (spot_1 (f := v_ro) (c := p_1) (s := p_2) (l := p_3) (by unfold okP; omega)).1.symm, (spot_1 (f := v_ro) (c := p_1) (s := p_2) (l := p_3) (by unfold okP; omega)).2.symm, rfl, rfl⟩, by rw [ht]; exact hP.sub [1, 2, 0] rfl, hD.sub [1, 2, 0] (by decide) rfl⟩, hS.F ht⟩) hS.2.2 dX12_spot_33
    ·
      exact absurd c_49 (by decide)
set_option maxHeartbeats 4000000 in
set_option maxRecDepth 100000 in
theorem n_wishE (l : Launch) (G : g5_G) (b_o b_rf b_ro b_im b_ke b_tp b_nl b_op b_ar b_pi b_pa b_ws b_hw b_se b_re b_pt b_ip b_ah b_be b_me b_tr b_ld b_wn : Nat) (sz : Nat) (u_th : Int32) (u_sa : Int32) (u_fd : Int32) (u_td : Int32) (u_fr : Int32) (u_to : Int32) (u_so : Int32) (u_fa : Int32) (u_bd : Int32) (u_nc : Int32) (u_co : Int32) (u_le : Int32) (u_pd : Int32) (u_od : Int32) (u_la : Int32) (u_bk : Int32) (u_ce : Int32) (u_ho : Int32) (u_wy : Int32) (u_bt : Int32) (u_ps : Int32) (u_tg : Int32) (u_sn : Int32) (u_ic : Int32) (u_wd : Int32) (u_id : Int32) (p_1 : Int32) (p_2 : Int32) (p_3 : Int32) (p_4 : Int32) (p_5 : Int32) (p_6 : Int32) (u_wo : Int64) (u_va : Int64) (u_su : Int64) (u_st : Int64) (v_rf : Nat → Int32) (v_ro : Nat → Int32) (h_u_td : 0 ≤ u_td.toInt ∧ u_td.toInt ≤ 400) (h_u_fr : 0 ≤ u_fr.toInt ∧ u_fr.toInt ≤ 400) (h_u_to : 0 ≤ u_to.toInt ∧ u_to.toInt ≤ 400) (h_u_bd : 0 ≤ u_bd.toInt ∧ u_bd.toInt ≤ 1) (h_u_nc : 0 ≤ u_nc.toInt ∧ u_nc.toInt ≤ 12) (h_u_co : 0 ≤ u_co.toInt ∧ u_co.toInt ≤ 400) (h_u_pd : 0 ≤ u_pd.toInt ∧ u_pd.toInt ≤ 400) (h_u_la : 0 ≤ u_la.toInt ∧ u_la.toInt ≤ 4840) (h_u_bk : 0 ≤ u_bk.toInt ∧ u_bk.toInt ≤ 1) (h_u_ce : 0 ≤ u_ce.toInt ∧ u_ce.toInt ≤ 63) (h_u_ho : 0 ≤ u_ho.toInt ∧ u_ho.toInt ≤ 23) (h_u_wy : 0 ≤ u_wy.toInt ∧ u_wy.toInt ≤ 3) (h_u_bt : 0 ≤ u_bt.toInt ∧ u_bt.toInt ≤ 1000000) (h_u_ps : 0 ≤ u_ps.toInt ∧ u_ps.toInt ≤ 200) (h_u_ic : 0 ≤ u_ic.toInt ∧ u_ic.toInt ≤ 1) (h_u_id : 0 ≤ u_id.toInt ∧ u_id.toInt ≤ 1) (r_ro : MI v_ro) : Met l yX12_wish (wsG yX12_wish cX12_wish 9 (some .int)) ({ frames := 3, cells := 0, slots := 0, locals := 67 }) (va_Pc [.ref b_o, .int p_1, .int p_2, .int p_3, .int p_4, .int p_5, .int p_6] (g5_P G [(b_o, (oc12 u_th u_sa b_rf b_ro b_im b_ke u_fd b_tp u_td u_fr u_to u_so u_wo u_fa u_bd u_nc b_nl u_co b_op b_ar u_le b_pi b_pa u_pd u_od b_ws b_hw u_la b_se b_re u_bk u_va u_su u_ce u_ho u_wy u_bt u_ps b_pt u_tg u_sn b_ip u_ic b_ah b_be b_me u_wd b_tr b_ld u_st b_wn u_id)), (b_rf, (arI G 7 v_rf)), (b_ro, (arI G 5740 v_ro))] sz)) (va_Qi (fun (r : Int32) (u : va_W) => (∃ (o_r : Int32) (o_th : Int32) (o_sa : Int32) (o_ic : Int32) (o_rf : Nat → Int32) (o_ro : Nat → Int32), (MI o_ro) ∧ (0 ≤ o_ic.toInt ∧ o_ic.toInt ≤ 1) ∧ (o_r = awish v_ro p_1 p_2 p_3 p_4 p_5 p_6) ∧ (o_ro = swish v_ro p_1 p_2 p_3 p_4 p_5 p_6) ∧ (r = o_r) ∧ (u = [(b_o, (oc12 o_th o_sa b_rf b_ro b_im b_ke u_fd b_tp u_td u_fr u_to u_so u_wo u_fa u_bd u_nc b_nl u_co b_op b_ar u_le b_pi b_pa u_pd u_od b_ws b_hw u_la b_se b_re u_bk u_va u_su u_ce u_ho u_wy u_bt u_ps b_pt u_tg u_sn b_ip o_ic b_ah b_be b_me u_wd b_tr b_ld u_st b_wn u_id)), (b_rf, (arI G 7 o_rf)), (b_ro, (arI G 5740 o_ro))]))) (g5_B G (va_A [(b_o, (oc12 u_th u_sa b_rf b_ro b_im b_ke u_fd b_tp u_td u_fr u_to u_so u_wo u_fa u_bd u_nc b_nl u_co b_op b_ar u_le b_pi b_pa u_pd u_od b_ws b_hw u_la b_se b_re u_bk u_va u_su u_ce u_ho u_wy u_bt u_ps b_pt u_tg u_sn b_ip u_ic b_ah b_be b_me u_wd b_tr b_ld u_st b_wn u_id)), (b_rf, (arI G 7 v_rf)), (b_ro, (arI G 5740 v_ro))] sz)) (va_A [(b_o, (oc12 u_th u_sa b_rf b_ro b_im b_ke u_fd b_tp u_td u_fr u_to u_so u_wo u_fa u_bd u_nc b_nl u_co b_op b_ar u_le b_pi b_pa u_pd u_od b_ws b_hw u_la b_se b_re u_bk u_va u_su u_ce u_ho u_wy u_bt u_ps b_pt u_tg u_sn b_ip u_ic b_ah b_be b_me u_wd b_tr b_ld u_st b_wn u_id)), (b_rf, (arI G 7 v_rf)), (b_ro, (arI G 5740 v_ro))] sz)) 0 0 (va_A [(b_o, (oc12 u_th u_sa b_rf b_ro b_im b_ke u_fd b_tp u_td u_fr u_to u_so u_wo u_fa u_bd u_nc b_nl u_co b_op b_ar u_le b_pi b_pa u_pd u_od b_ws b_hw u_la b_se b_re u_bk u_va u_su u_ce u_ho u_wy u_bt u_ps b_pt u_tg u_sn b_ip u_ic b_ah b_be b_me u_wd b_tr b_ld u_st b_wn u_id)), (b_rf, (arI G 7 v_rf)), (b_ro, (arI G 5740 v_ro))] sz) := by
  refine Met.ofW (cc := cX12_wish) (maxL := 9) (ret := (some .int)) (by decide) rfl ?_
  intro p e s m args below meth c s₁ B hml hv
  obtain ⟨rfl, hsz, hP, hK, hD0, hN, hT⟩ := hv
  have hx := B.exec
  have hb := B.bytes
  have hr := B.returns
  have hts : ∀ w ∈ tblG, w.before _ s = true := fun w h => atoms_spec (ws := (wsG yX12_wish cX12_wish 9 (some .int))) B.pre w (List.mem_cons_of_mem _ h)
  have hown : s.vm.findClass RX12 = some m.cls := findClass_of_methodNamed B.named
  have hlocks := B.notSynchronized
  subst hsz
  have hD := hD0.self (sz := s.heap.size)
  generalize hAe : va_A [(b_o, (oc12 u_th u_sa b_rf b_ro b_im b_ke u_fd b_tp u_td u_fr u_to u_so u_wo u_fa u_bd u_nc b_nl u_co b_op b_ar u_le b_pi b_pa u_pd u_od b_ws b_hw u_la b_se b_re u_bk u_va u_su u_ce u_ho u_wy u_bt u_ps b_pt u_tg u_sn b_ip u_ic b_ah b_be b_me u_wd b_tr b_ld u_st b_wn u_id)), (b_rf, (arI G 7 v_rf)), (b_ro, (arI G 5740 v_ro))] s.heap.size = A at hD hT ⊢
  have hA : ∀ q : Nat, s.heap.size ≤ q → A q := fun q h => by rw [← hAe]; exact Or.inr h
  have hS : va_S A s.heap s.heap [] := va_S.rf
  have hP : va_P G.1 vwCl [(b_o, (oc12 u_th u_sa b_rf b_ro b_im b_ke u_fd b_tp u_td u_fr u_to u_so u_wo u_fa u_bd u_nc b_nl u_co b_op b_ar u_le b_pi b_pa u_pd u_od b_ws b_hw u_la b_se b_re u_bk u_va u_su u_ce u_ho u_wy u_bt u_ps b_pt u_tg u_sn b_ip u_ic b_ah b_be b_me u_wd b_tr b_ld u_st b_wn u_id)), (b_rf, (arI G 7 v_rf)), (b_ro, (arI G 5740 v_ro))] s.heap := hP
  have hl := lv_entry ([.ref b_o, .int p_1, .int p_2, .int p_3, .int p_4, .int p_5, .int p_6]) (n := 9) (Nat.le_of_ble_eq_true rfl)
  rw [lg_entry_eq]
  generalize (lg_sl ([.ref b_o, .int p_1, .int p_2, .int p_3, .int p_4, .int p_5, .int p_6]) ++ List.replicate (9 - (lg_sl ([.ref b_o, .int p_1, .int p_2, .int p_3, .int p_4, .int p_5, .int p_6])).length) Slot.unset).toArray = ls at hl ⊢
  have hl : lv_has ls 9 [(0, .ref b_o), (1, .int p_1), (2, .int p_2), (3, .int p_3), (4, .int p_4), (5, .int p_5), (6, .int p_6)] := hl
  refine lv_aload_n hx hb dX12_wish_0 rfl (lv_at hl 0 rfl) ?_
  refine lv_iconst (v := 0) hx hb dX12_wish_1 (by decide) ?_
  refine va_put (D := G.1) (ci := 12) (v := .int 0) (ty := .int) (C := RX12) (T := TX12) (N := 52) hx hb hts inG_X12 tyX12 tyX12_ok nmX12 hown hK hP hD hS 0 rfl rfl 0 (by decide) (hts _ fl_X12_107) (fun _ h9 => h9) rfl (by decide +kernel) rfl rfl (Nat.le_of_ble_eq_true rfl) dX12_wish_2 (fun H locs hP hD hS => ?_)
  refine g5_rs [(b_o, (oc12 0 u_sa b_rf b_ro b_im b_ke u_fd b_tp u_td u_fr u_to u_so u_wo u_fa u_bd u_nc b_nl u_co b_op b_ar u_le b_pi b_pa u_pd u_od b_ws b_hw u_la b_se b_re u_bk u_va u_su u_ce u_ho u_wy u_bt u_ps b_pt u_tg u_sn b_ip u_ic b_ah b_be b_me u_wd b_tr b_ld u_st b_wn u_id)), (b_rf, (arI G 7 v_rf)), (b_ro, (arI G 5740 v_ro))] hP hD (fun hP hD => ?_)
  refine lv_iload_n hx hb dX12_wish_5 rfl (lv_at hl 1 rfl) ?_
  refine lv_iload_n hx hb dX12_wish_6 rfl (lv_at hl 2 rfl) ?_
  refine lv_iload_n hx hb dX12_wish_7 rfl (lv_at hl 3 rfl) ?_
  obtain ⟨hPc, hDc, hFc⟩ := g5_sub3 (wc := []) hP hD hS hA [] (by decide) rfl
  refine va_calli (va_runS (As := [.int p_1, .int p_2, .int p_3]) (rest := []) ⟨hx, hb, hml, hown, hts⟩ (n_isLookE l G H.size p_1 p_2 p_3) (va_cwS 3 hts gS_X12_397 rfl rfl rfl hs_X12_isLook ⟨Nat.le_of_ble_eq_true rfl, Nat.le_of_ble_eq_true rfl⟩) (g5_preS hPc hK hDc hN hT hS hFc) rfl rfl hl.1 rfl (lv_room (Nat.le_of_ble_eq_true rfl)) dX12_wish_8 ⟨Nat.le_of_ble_eq_true rfl, Nat.le_of_ble_eq_true rfl⟩) hS (fun q _ h => hFc q h) hFc (fun r u t H1 locs ht hvm hw hB hz1 hk1 hS => ?_)
  obtain ⟨hP1, hD1⟩ := hB
  rw [ht] at hP1
  rcases hw with ⟨i_1, i_2, i_3, i_4, rfl, rfl⟩ | ⟨i_5, rfl, rfl⟩
  ·
    have i_1 : okL p_1 p_2 p_3 := i_1
    have i_2 : 0 ≤ p_1.toInt ∧ p_1.toInt ≤ 63 := i_2
    have i_3 : 0 ≤ p_2.toInt ∧ p_2.toInt ≤ 3 := i_3
    have i_4 : 0 ≤ p_3.toInt ∧ p_3.toInt ≤ 23 := i_4
    have hP := g5_same hP hk1
    generalize H1 = H at hP hS ⊢
    refine lv_if_eq (tgt := 41) hx hb dX12_wish_11 (by decide) (fun c_6 => ?_) (fun c_6 => ?_)
    ·
      exact absurd c_6 (by decide)
    ·
      refine lv_iload hx hb dX12_wish_14 (lv_at hl 4 rfl) ?_
      obtain ⟨hPc, hDc, hFc⟩ := g5_sub3 (wc := []) hP hD hS hA [] (by decide) rfl
      refine va_calli (va_runS (As := [.int p_4]) (rest := []) ⟨hx, hb, hml, hown, hts⟩ (n_isCellE l G H.size p_4) (va_cwS 1 hts gS_X12_138 rfl rfl rfl hs_X12_isCell ⟨Nat.le_of_ble_eq_true rfl, Nat.le_of_ble_eq_true rfl⟩) (g5_preS hPc hK hDc hN hT hS hFc) rfl rfl hl.1 rfl (lv_room (Nat.le_of_ble_eq_true rfl)) dX12_wish_16 ⟨Nat.le_of_ble_eq_true rfl, Nat.le_of_ble_eq_true rfl⟩) hS (fun q _ h => hFc q h) hFc (fun r u t H1 locs ht hvm hw hB hz1 hk1 hS => ?_)
      obtain ⟨hP1, hD1⟩ := hB
      rw [ht] at hP1
      rcases hw with ⟨i_7, rfl, rfl⟩ | ⟨i_8, rfl, rfl⟩
      ·
        have i_7 : 0 ≤ p_4.toInt ∧ p_4.toInt ≤ 63 := i_7
        have hP := g5_same hP hk1
        generalize H1 = H at hP hS ⊢
        refine lv_if_eq (tgt := 41) hx hb dX12_wish_19 (by decide) (fun c_9 => ?_) (fun c_9 => ?_)
        ·
          exact absurd c_9 (by decide)
        ·
          refine lv_iload hx hb dX12_wish_22 (lv_at hl 5 rfl) ?_
          obtain ⟨hPc, hDc, hFc⟩ := g5_sub3 (wc := []) hP hD hS hA [] (by decide) rfl
          refine va_calli (va_runS (As := [.int p_5]) (rest := []) ⟨hx, hb, hml, hown, hts⟩ (n_isHourE l G H.size p_5) (va_cwS 1 hts gS_X12_175 rfl rfl rfl hs_X12_isHour ⟨Nat.le_of_ble_eq_true rfl, Nat.le_of_ble_eq_true rfl⟩) (g5_preS hPc hK hDc hN hT hS hFc) rfl rfl hl.1 rfl (lv_room (Nat.le_of_ble_eq_true rfl)) dX12_wish_24 ⟨Nat.le_of_ble_eq_true rfl, Nat.le_of_ble_eq_true rfl⟩) hS (fun q _ h => hFc q h) hFc (fun r u t H1 locs ht hvm hw hB hz1 hk1 hS => ?_)
          obtain ⟨hP1, hD1⟩ := hB
          rw [ht] at hP1
          rcases hw with ⟨i_10, rfl, rfl⟩ | ⟨i_11, rfl, rfl⟩
          ·
            have i_10 : 0 ≤ p_5.toInt ∧ p_5.toInt ≤ 23 := i_10
            have hP := g5_same hP hk1
            generalize H1 = H at hP hS ⊢
            refine lv_if_eq (tgt := 41) hx hb dX12_wish_27 (by decide) (fun c_12 => ?_) (fun c_12 => ?_)
            ·
              exact absurd c_12 (by decide)
            ·
              refine lv_iload hx hb dX12_wish_30 (lv_at hl 6 rfl) ?_
              refine lv_i2l (v := p_6.toInt64) hx hb dX12_wish_32 rfl ?_
              refine lv_lconst (v := 0) hx hb dX12_wish_33 (by decide) ?_
              refine lv_lconst (v := 1) hx hb dX12_wish_34 (by decide) ?_
              obtain ⟨hPc, hDc, hFc⟩ := g5_sub3 (wc := []) hP hD hS hA [] (by decide) rfl
              refine va_calli (va_runS (As := [.long p_6.toInt64, .long 0, .long 1]) (rest := []) ⟨hx, hb, hml, hown, hts⟩ (n_in_0_1 l G H.size p_6) (va_cwS 3 hts gS_X12_121 rfl rfl rfl hs_X12_in ⟨Nat.le_of_ble_eq_true rfl, Nat.le_of_ble_eq_true rfl⟩) (g5_preS hPc hK hDc hN hT hS hFc) rfl rfl hl.1 rfl (lv_room (Nat.le_of_ble_eq_true rfl)) dX12_wish_35 ⟨Nat.le_of_ble_eq_true rfl, Nat.le_of_ble_eq_true rfl⟩) hS (fun q _ h => hFc q h) hFc (fun r u t H1 locs ht hvm hw hB hz1 hk1 hS => ?_)
              obtain ⟨hP1, hD1⟩ := hB
              rw [ht] at hP1
              rcases hw with ⟨i_13, rfl, rfl⟩ | ⟨i_14, rfl, rfl⟩
              ·
                have i_13 : p_6.toInt < 0 ∨ 1 < p_6.toInt := i_13
                have hP := g5_same hP hk1
                generalize H1 = H at hP hS ⊢
                refine lv_if_ne (tgt := 47) hx hb dX12_wish_38 (by decide) (fun c_15 => ?_) (fun c_15 => ?_)
                ·
                  exact absurd c_15 (by decide)
                ·
                  refine lv_aload_n hx hb dX12_wish_41 rfl (lv_at hl 0 rfl) ?_
                  refine lv_iconst (v := (-1)) hx hb dX12_wish_42 (by decide) ?_
                  obtain ⟨hPc, hDc, hFc⟩ := g5_sub3 (wc := [(b_o, (oc12 0 u_sa b_rf b_ro b_im b_ke u_fd b_tp u_td u_fr u_to u_so u_wo u_fa u_bd u_nc b_nl u_co b_op b_ar u_le b_pi b_pa u_pd u_od b_ws b_hw u_la b_se b_re u_bk u_va u_su u_ce u_ho u_wy u_bt u_ps b_pt u_tg u_sn b_ip u_ic b_ah b_be b_me u_wd b_tr b_ld u_st b_wn u_id)), (b_rf, (arI G 7 v_rf))]) hP hD hS hA [0, 1] (by decide) rfl
                  refine va_calli (va_runV (As := [.int (-1)]) (rest := []) ⟨hx, hb, hml, hown, hts⟩ (n_tell1 l G b_o b_rf b_ro b_im b_ke b_tp b_nl b_op b_ar b_pi b_pa b_ws b_hw b_se b_re b_pt b_ip b_ah b_be b_me b_tr b_ld b_wn H.size 0 u_sa u_fd u_td u_fr u_to u_so u_fa u_bd u_nc u_co u_le u_pd u_od u_la u_bk u_ce u_ho u_wy u_bt u_ps u_tg u_sn u_ic u_wd u_id u_wo u_va u_su u_st v_rf h_u_td h_u_fr h_u_to h_u_bd h_u_nc h_u_co h_u_pd h_u_la h_u_bk h_u_ce h_u_ho h_u_wy h_u_bt h_u_ps h_u_ic h_u_id) (cwV 1 hts gV_X12_125 rfl rfl rfl hv_X12_tell ⟨Nat.le_of_ble_eq_true rfl, Nat.le_of_ble_eq_true rfl⟩) (g5_preV hPc hK hDc hN hT hS hFc (ci := 12) (q0 := 0) rfl rfl) rfl rfl hl.1 rfl (lv_room (Nat.le_of_ble_eq_true rfl)) dX12_wish_43 ⟨Nat.le_of_ble_eq_true rfl, Nat.le_of_ble_eq_true rfl⟩) hS (fun q _ h => hFc q h) hFc (fun r u t H1 locs ht hvm hw hB hz1 hk1 hS => ?_)
                  obtain ⟨hP1, hD1⟩ := hB
                  rw [ht] at hP1
                  obtain ⟨z17, z18, z19, i_16, rfl, rfl⟩ := hw
                  have i_16 : 0 ≤ z18.toInt ∧ z18.toInt ≤ 1 := i_16
                  obtain ⟨hP, hD⟩ := va_join (wr := [(b_ro, (arI G 5740 v_ro))]) hP hD [0, 1] [2] rfl rfl (by decide) (by decide) hk1 hFc hP1 hD1
                  generalize H1 = H at hP hS ⊢
                  refine g5_rs [(b_ro, (arI G 5740 v_ro)), (b_o, (oc12 0 z17 b_rf b_ro b_im b_ke u_fd b_tp u_td u_fr u_to u_so u_wo u_fa u_bd u_nc b_nl u_co b_op b_ar u_le b_pi b_pa u_pd u_od b_ws b_hw u_la b_se b_re u_bk u_va u_su u_ce u_ho u_wy u_bt u_ps b_pt u_tg u_sn b_ip z18 b_ah b_be b_me u_wd b_tr b_ld u_st b_wn u_id)), (b_rf, (arI G 7 z19))] hP hD (fun hP hD => ?_)
                  exact W.iret (v := (-1)) hx hb hr (fun t ht hW => ⟨⟨(-1), [(b_o, (oc12 0 z17 b_rf b_ro b_im b_ke u_fd b_tp u_td u_fr u_to u_so u_wo u_fa u_bd u_nc b_nl u_co b_op b_ar u_le b_pi b_pa u_pd u_od b_ws b_hw u_la b_se b_re u_bk u_va u_su u_ce u_ho u_wy u_bt u_ps b_pt u_tg u_sn b_ip z18 b_ah b_be b_me u_wd b_tr b_ld u_st b_wn u_id)), (b_rf, (arI G 7 z19)), (b_ro, (arI G 5740 v_ro))], rfl, ⟨(-1), 0, z17, z18, z19, v_ro, r_ro, i_16, (wish_1 (f := v_ro) (c := p_1) (w := p_2) (h := p_3) (a := p_4) (t := p_5) (i := p_6) (fun q => by have q2 := q.2; omega)).1.symm, (wish_1 (f := v_ro) (c := p_1) (w := p_2) (h := p_3) (a := p_4) (t := p_5) (i := p_6) (fun q => by have q2 := q.2; omega)).2.symm, rfl, rfl⟩, by rw [ht]; exact hP.sub [1, 2, 0] rfl, hD.sub [1, 2, 0] (by decide) rfl⟩, hS.F ht⟩) hS.2.2 dX12_wish_46
              ·
                have i_14 : 0 ≤ p_6.toInt ∧ p_6.toInt ≤ 1 := i_14
                have hP := g5_same hP hk1
                generalize H1 = H at hP hS ⊢
                refine lv_if_ne (tgt := 47) hx hb dX12_wish_38 (by decide) (fun c_20 => ?_) (fun c_20 => ?_)
                ·
                  refine lv_aload_n hx hb dX12_wish_47 rfl (lv_at hl 0 rfl) ?_
                  refine va_get (D := G.1) (ci := 12) (v := .ref b_ro) (C := RX12) (T := TX12) (N := 52) hx hb hts inG_X12 hown hK hP 0 rfl rfl 3 (by decide) (hts _ fl_X12_13) (fun _ h9 => h9) rfl dX12_wish_48 ?_
                  refine lv_bipush (v := 8) hx hb dX12_wish_51 (by decide) ?_
                  refine va_iald hx hb hK hP 2 0 rfl rfl (i := 8) (by unfold vp_in; decide) dX12_wish_53 ?_
                  refine g5_ti (v := (v_ro 8)) rfl ?_
                  have hr_21 : 0 ≤ (v_ro 8).toInt ∧ (v_ro 8).toInt ≤ 6 := mi_8 r_ro
                  refine lv_istore (lv' := [(7, .int (v_ro 8)), (0, .ref b_o), (1, .int p_1), (2, .int p_2), (3, .int p_3), (4, .int p_4), (5, .int p_5), (6, .int p_6)]) hx hb dX12_wish_54 hl (by decide) rfl (fun ls hl => ?_)
                  refine lv_iload hx hb dX12_wish_56 (lv_at hl 0 rfl) ?_
                  refine lv_bipush (v := 6) hx hb dX12_wish_58 (by decide) ?_
                  refine lv_icmp_ne (tgt := 70) hx hb dX12_wish_60 (by decide) (fun c_22 => ?_) (fun c_22 => ?_)
                  ·
                    have n_22 : gNe ((v_ro 8).toInt) (6) := by have z := g5_ne (a := (v_ro 8).toInt) (b := 6) (by rfl) (by decide) c_22; unfold gNe; omega
                    have i_22 : (v_ro 8).toInt ≤ 5 := by have z := g5_ne (a := (v_ro 8).toInt) (b := 6) (by rfl) (by decide) c_22; omega
                    refine lv_sipush (v := 300) hx hb dX12_wish_70 (by decide) ?_
                    refine lv_bipush (v := 6) hx hb dX12_wish_73 (by decide) ?_
                    refine lv_iload hx hb dX12_wish_75 (lv_at hl 0 rfl) ?_
                    refine lv_imul hx hb dX12_wish_77 ?_
                    have t_23 : (6 * (v_ro 8)).toInt = 6 * (v_ro 8).toInt := g5_imul (a := 6) (b := (v_ro 8).toInt) (by decide) (by rfl) (by omega) (by omega)
                    refine lv_iadd hx hb dX12_wish_78 ?_
                    have t_24 : (300 + (6 * (v_ro 8))).toInt = 300 + (6 * (v_ro 8)).toInt := g5_iadd (a := 300) (b := (6 * (v_ro 8)).toInt) (by decide) (by rfl) (by omega) (by omega)
                    refine lv_istore (lv' := [(8, .int (300 + (6 * (v_ro 8)))), (7, .int (v_ro 8)), (0, .ref b_o), (1, .int p_1), (2, .int p_2), (3, .int p_3), (4, .int p_4), (5, .int p_5), (6, .int p_6)]) hx hb dX12_wish_79 hl (by decide) rfl (fun ls hl => ?_)
                    refine lv_aload_n hx hb dX12_wish_81 rfl (lv_at hl 2 rfl) ?_
                    refine va_get (D := G.1) (ci := 12) (v := .ref b_ro) (C := RX12) (T := TX12) (N := 52) hx hb hts inG_X12 hown hK hP 0 rfl rfl 3 (by decide) (hts _ fl_X12_13) (fun _ h9 => h9) rfl dX12_wish_82 ?_
                    refine lv_iload hx hb dX12_wish_85 (lv_at hl 0 rfl) ?_
                    refine lv_iload_n hx hb dX12_wish_87 rfl (lv_at hl 3 rfl) ?_
                    refine va_iast hx hb hK hP hD hS 2 0 rfl rfl (i := (300 + (6 * (v_ro 8)))) (x := p_1) (vp_in_iff.mpr ⟨by omega, by omega⟩) dX12_wish_88 (fun H locs hP hD hS => ?_)
                    refine g5_rs [(b_o, (oc12 0 u_sa b_rf b_ro b_im b_ke u_fd b_tp u_td u_fr u_to u_so u_wo u_fa u_bd u_nc b_nl u_co b_op b_ar u_le b_pi b_pa u_pd u_od b_ws b_hw u_la b_se b_re u_bk u_va u_su u_ce u_ho u_wy u_bt u_ps b_pt u_tg u_sn b_ip u_ic b_ah b_be b_me u_wd b_tr b_ld u_st b_wn u_id)), (b_rf, (arI G 7 v_rf)), (b_ro, (arI G 5740 (upd v_ro (300 + (6 * (v_ro 8))).toNatClampNeg p_1)))] hP hD (fun hP hD => ?_)
                    refine lv_aload_n hx hb dX12_wish_89 rfl (lv_at hl 2 rfl) ?_
                    refine va_get (D := G.1) (ci := 12) (v := .ref b_ro) (C := RX12) (T := TX12) (N := 52) hx hb hts inG_X12 hown hK hP 0 rfl rfl 3 (by decide) (hts _ fl_X12_13) (fun _ h9 => h9) rfl dX12_wish_90 ?_
                    refine lv_iload hx hb dX12_wish_93 (lv_at hl 0 rfl) ?_
                    refine lv_iconst (v := 1) hx hb dX12_wish_95 (by decide) ?_
                    refine lv_iadd hx hb dX12_wish_96 ?_
                    have t_25 : ((300 + (6 * (v_ro 8))) + 1).toInt = (300 + (6 * (v_ro 8))).toInt + 1 := g5_iadd (a := (300 + (6 * (v_ro 8))).toInt) (b := 1) (by rfl) (by decide) (by omega) (by omega)
                    refine lv_iload_n hx hb dX12_wish_97 rfl (lv_at hl 4 rfl) ?_
                    refine va_iast hx hb hK hP hD hS 2 0 rfl rfl (i := ((300 + (6 * (v_ro 8))) + 1)) (x := p_2) (vp_in_iff.mpr ⟨by omega, by omega⟩) dX12_wish_98 (fun H locs hP hD hS => ?_)
                    refine g5_rs [(b_o, (oc12 0 u_sa b_rf b_ro b_im b_ke u_fd b_tp u_td u_fr u_to u_so u_wo u_fa u_bd u_nc b_nl u_co b_op b_ar u_le b_pi b_pa u_pd u_od b_ws b_hw u_la b_se b_re u_bk u_va u_su u_ce u_ho u_wy u_bt u_ps b_pt u_tg u_sn b_ip u_ic b_ah b_be b_me u_wd b_tr b_ld u_st b_wn u_id)), (b_rf, (arI G 7 v_rf)), (b_ro, (arI G 5740 (upd (upd v_ro (300 + (6 * (v_ro 8))).toNatClampNeg p_1) ((300 + (6 * (v_ro 8))) + 1).toNatClampNeg p_2)))] hP hD (fun hP hD => ?_)
                    refine lv_aload_n hx hb dX12_wish_99 rfl (lv_at hl 2 rfl) ?_
                    refine va_get (D := G.1) (ci := 12) (v := .ref b_ro) (C := RX12) (T := TX12) (N := 52) hx hb hts inG_X12 hown hK hP 0 rfl rfl 3 (by decide) (hts _ fl_X12_13) (fun _ h9 => h9) rfl dX12_wish_100 ?_
                    refine lv_iload hx hb dX12_wish_103 (lv_at hl 0 rfl) ?_
                    refine lv_iconst (v := 2) hx hb dX12_wish_105 (by decide) ?_
                    refine lv_iadd hx hb dX12_wish_106 ?_
                    have t_26 : ((300 + (6 * (v_ro 8))) + 2).toInt = (300 + (6 * (v_ro 8))).toInt + 2 := g5_iadd (a := (300 + (6 * (v_ro 8))).toInt) (b := 2) (by rfl) (by decide) (by omega) (by omega)
                    refine lv_iload_n hx hb dX12_wish_107 rfl (lv_at hl 5 rfl) ?_
                    refine va_iast hx hb hK hP hD hS 2 0 rfl rfl (i := ((300 + (6 * (v_ro 8))) + 2)) (x := p_3) (vp_in_iff.mpr ⟨by omega, by omega⟩) dX12_wish_108 (fun H locs hP hD hS => ?_)
                    refine g5_rs [(b_o, (oc12 0 u_sa b_rf b_ro b_im b_ke u_fd b_tp u_td u_fr u_to u_so u_wo u_fa u_bd u_nc b_nl u_co b_op b_ar u_le b_pi b_pa u_pd u_od b_ws b_hw u_la b_se b_re u_bk u_va u_su u_ce u_ho u_wy u_bt u_ps b_pt u_tg u_sn b_ip u_ic b_ah b_be b_me u_wd b_tr b_ld u_st b_wn u_id)), (b_rf, (arI G 7 v_rf)), (b_ro, (arI G 5740 (upd (upd (upd v_ro (300 + (6 * (v_ro 8))).toNatClampNeg p_1) ((300 + (6 * (v_ro 8))) + 1).toNatClampNeg p_2) ((300 + (6 * (v_ro 8))) + 2).toNatClampNeg p_3)))] hP hD (fun hP hD => ?_)
                    refine lv_aload_n hx hb dX12_wish_109 rfl (lv_at hl 2 rfl) ?_
                    refine va_get (D := G.1) (ci := 12) (v := .ref b_ro) (C := RX12) (T := TX12) (N := 52) hx hb hts inG_X12 hown hK hP 0 rfl rfl 3 (by decide) (hts _ fl_X12_13) (fun _ h9 => h9) rfl dX12_wish_110 ?_
                    refine lv_iload hx hb dX12_wish_113 (lv_at hl 0 rfl) ?_
                    refine lv_iconst (v := 3) hx hb dX12_wish_115 (by decide) ?_
                    refine lv_iadd hx hb dX12_wish_116 ?_
                    have t_27 : ((300 + (6 * (v_ro 8))) + 3).toInt = (300 + (6 * (v_ro 8))).toInt + 3 := g5_iadd (a := (300 + (6 * (v_ro 8))).toInt) (b := 3) (by rfl) (by decide) (by omega) (by omega)
                    refine lv_iload hx hb dX12_wish_117 (lv_at hl 6 rfl) ?_
                    refine va_iast hx hb hK hP hD hS 2 0 rfl rfl (i := ((300 + (6 * (v_ro 8))) + 3)) (x := p_4) (vp_in_iff.mpr ⟨by omega, by omega⟩) dX12_wish_119 (fun H locs hP hD hS => ?_)
                    refine g5_rs [(b_o, (oc12 0 u_sa b_rf b_ro b_im b_ke u_fd b_tp u_td u_fr u_to u_so u_wo u_fa u_bd u_nc b_nl u_co b_op b_ar u_le b_pi b_pa u_pd u_od b_ws b_hw u_la b_se b_re u_bk u_va u_su u_ce u_ho u_wy u_bt u_ps b_pt u_tg u_sn b_ip u_ic b_ah b_be b_me u_wd b_tr b_ld u_st b_wn u_id)), (b_rf, (arI G 7 v_rf)), (b_ro, (arI G 5740 (upd (upd (upd (upd v_ro (300 + (6 * (v_ro 8))).toNatClampNeg p_1) ((300 + (6 * (v_ro 8))) + 1).toNatClampNeg p_2) ((300 + (6 * (v_ro 8))) + 2).toNatClampNeg p_3) ((300 + (6 * (v_ro 8))) + 3).toNatClampNeg p_4)))] hP hD (fun hP hD => ?_)
                    refine lv_aload_n hx hb dX12_wish_120 rfl (lv_at hl 2 rfl) ?_
                    refine va_get (D := G.1) (ci := 12) (v := .ref b_ro) (C := RX12) (T := TX12) (N := 52) hx hb hts inG_X12 hown hK hP 0 rfl rfl 3 (by decide) (hts _ fl_X12_13) (fun _ h9 => h9) rfl dX12_wish_121 ?_
                    refine lv_iload hx hb dX12_wish_124 (lv_at hl 0 rfl) ?_
                    refine lv_iconst (v := 4) hx hb dX12_wish_126 (by decide) ?_
                    refine lv_iadd hx hb dX12_wish_127 ?_
                    have t_28 : ((300 + (6 * (v_ro 8))) + 4).toInt = (300 + (6 * (v_ro 8))).toInt + 4 := g5_iadd (a := (300 + (6 * (v_ro 8))).toInt) (b := 4) (by rfl) (by decide) (by omega) (by omega)
                    refine lv_iload hx hb dX12_wish_128 (lv_at hl 7 rfl) ?_
                    refine va_iast hx hb hK hP hD hS 2 0 rfl rfl (i := ((300 + (6 * (v_ro 8))) + 4)) (x := p_5) (vp_in_iff.mpr ⟨by omega, by omega⟩) dX12_wish_130 (fun H locs hP hD hS => ?_)
                    refine g5_rs [(b_o, (oc12 0 u_sa b_rf b_ro b_im b_ke u_fd b_tp u_td u_fr u_to u_so u_wo u_fa u_bd u_nc b_nl u_co b_op b_ar u_le b_pi b_pa u_pd u_od b_ws b_hw u_la b_se b_re u_bk u_va u_su u_ce u_ho u_wy u_bt u_ps b_pt u_tg u_sn b_ip u_ic b_ah b_be b_me u_wd b_tr b_ld u_st b_wn u_id)), (b_rf, (arI G 7 v_rf)), (b_ro, (arI G 5740 (upd (upd (upd (upd (upd v_ro (300 + (6 * (v_ro 8))).toNatClampNeg p_1) ((300 + (6 * (v_ro 8))) + 1).toNatClampNeg p_2) ((300 + (6 * (v_ro 8))) + 2).toNatClampNeg p_3) ((300 + (6 * (v_ro 8))) + 3).toNatClampNeg p_4) ((300 + (6 * (v_ro 8))) + 4).toNatClampNeg p_5)))] hP hD (fun hP hD => ?_)
                    refine lv_aload_n hx hb dX12_wish_131 rfl (lv_at hl 2 rfl) ?_
                    refine va_get (D := G.1) (ci := 12) (v := .ref b_ro) (C := RX12) (T := TX12) (N := 52) hx hb hts inG_X12 hown hK hP 0 rfl rfl 3 (by decide) (hts _ fl_X12_13) (fun _ h9 => h9) rfl dX12_wish_132 ?_
                    refine lv_iload hx hb dX12_wish_135 (lv_at hl 0 rfl) ?_
                    refine lv_iconst (v := 5) hx hb dX12_wish_137 (by decide) ?_
                    refine lv_iadd hx hb dX12_wish_138 ?_
                    have t_29 : ((300 + (6 * (v_ro 8))) + 5).toInt = (300 + (6 * (v_ro 8))).toInt + 5 := g5_iadd (a := (300 + (6 * (v_ro 8))).toInt) (b := 5) (by rfl) (by decide) (by omega) (by omega)
                    refine lv_iload hx hb dX12_wish_139 (lv_at hl 8 rfl) ?_
                    refine va_iast hx hb hK hP hD hS 2 0 rfl rfl (i := ((300 + (6 * (v_ro 8))) + 5)) (x := p_6) (vp_in_iff.mpr ⟨by omega, by omega⟩) dX12_wish_141 (fun H locs hP hD hS => ?_)
                    refine g5_rs [(b_o, (oc12 0 u_sa b_rf b_ro b_im b_ke u_fd b_tp u_td u_fr u_to u_so u_wo u_fa u_bd u_nc b_nl u_co b_op b_ar u_le b_pi b_pa u_pd u_od b_ws b_hw u_la b_se b_re u_bk u_va u_su u_ce u_ho u_wy u_bt u_ps b_pt u_tg u_sn b_ip u_ic b_ah b_be b_me u_wd b_tr b_ld u_st b_wn u_id)), (b_rf, (arI G 7 v_rf)), (b_ro, (arI G 5740 (upd (upd (upd (upd (upd (upd v_ro (300 + (6 * (v_ro 8))).toNatClampNeg p_1) ((300 + (6 * (v_ro 8))) + 1).toNatClampNeg p_2) ((300 + (6 * (v_ro 8))) + 2).toNatClampNeg p_3) ((300 + (6 * (v_ro 8))) + 3).toNatClampNeg p_4) ((300 + (6 * (v_ro 8))) + 4).toNatClampNeg p_5) ((300 + (6 * (v_ro 8))) + 5).toNatClampNeg p_6)))] hP hD (fun hP hD => ?_)
                    refine lv_aload_n hx hb dX12_wish_142 rfl (lv_at hl 2 rfl) ?_
                    refine va_get (D := G.1) (ci := 12) (v := .ref b_ro) (C := RX12) (T := TX12) (N := 52) hx hb hts inG_X12 hown hK hP 0 rfl rfl 3 (by decide) (hts _ fl_X12_13) (fun _ h9 => h9) rfl dX12_wish_143 ?_
                    refine lv_bipush (v := 8) hx hb dX12_wish_146 (by decide) ?_
                    refine lv_dup2_11 hx hb dX12_wish_148 rfl rfl ?_
                    refine va_iald hx hb hK hP 2 0 rfl rfl (i := 8) (by unfold vp_in; decide) dX12_wish_149 ?_
                    refine g5_ti (v := ((upd (upd (upd (upd (upd (upd v_ro (300 + (6 * (v_ro 8))).toNatClampNeg p_1) ((300 + (6 * (v_ro 8))) + 1).toNatClampNeg p_2) ((300 + (6 * (v_ro 8))) + 2).toNatClampNeg p_3) ((300 + (6 * (v_ro 8))) + 3).toNatClampNeg p_4) ((300 + (6 * (v_ro 8))) + 4).toNatClampNeg p_5) ((300 + (6 * (v_ro 8))) + 5).toNatClampNeg p_6) 8)) rfl ?_
                    have hu_30 : ((upd (upd (upd (upd (upd (upd v_ro (300 + (6 * (v_ro 8))).toNatClampNeg p_1) ((300 + (6 * (v_ro 8))) + 1).toNatClampNeg p_2) ((300 + (6 * (v_ro 8))) + 2).toNatClampNeg p_3) ((300 + (6 * (v_ro 8))) + 3).toNatClampNeg p_4) ((300 + (6 * (v_ro 8))) + 4).toNatClampNeg p_5) ((300 + (6 * (v_ro 8))) + 5).toNatClampNeg p_6) 8) = (v_ro 8) := by unfold upd; rw [if_neg (by have zz := g5_clamp ((300 + (6 * (v_ro 8))) + 5); omega), if_neg (by have zz := g5_clamp ((300 + (6 * (v_ro 8))) + 4); omega), if_neg (by have zz := g5_clamp ((300 + (6 * (v_ro 8))) + 3); omega), if_neg (by have zz := g5_clamp ((300 + (6 * (v_ro 8))) + 2); omega), if_neg (by have zz := g5_clamp ((300 + (6 * (v_ro 8))) + 1); omega), if_neg (by have zz := g5_clamp (300 + (6 * (v_ro 8))); omega)]
                    refine g5_ti (v := (v_ro 8)) hu_30 ?_
                    have hr_31 : 0 ≤ (v_ro 8).toInt ∧ (v_ro 8).toInt ≤ 6 := mi_8 r_ro
                    refine lv_iconst (v := 1) hx hb dX12_wish_150 (by decide) ?_
                    refine lv_iadd hx hb dX12_wish_151 ?_
                    have t_32 : ((v_ro 8) + 1).toInt = (v_ro 8).toInt + 1 := g5_iadd (a := (v_ro 8).toInt) (b := 1) (by rfl) (by decide) (by omega) (by omega)
                    refine va_iast hx hb hK hP hD hS 2 0 rfl rfl (i := 8) (x := ((v_ro 8) + 1)) (by unfold vp_in; decide) dX12_wish_152 (fun H locs hP hD hS => ?_)
                    refine g5_rs [(b_o, (oc12 0 u_sa b_rf b_ro b_im b_ke u_fd b_tp u_td u_fr u_to u_so u_wo u_fa u_bd u_nc b_nl u_co b_op b_ar u_le b_pi b_pa u_pd u_od b_ws b_hw u_la b_se b_re u_bk u_va u_su u_ce u_ho u_wy u_bt u_ps b_pt u_tg u_sn b_ip u_ic b_ah b_be b_me u_wd b_tr b_ld u_st b_wn u_id)), (b_rf, (arI G 7 v_rf)), (b_ro, (arI G 5740 (upd (upd (upd (upd (upd (upd (upd v_ro (300 + (6 * (v_ro 8))).toNatClampNeg p_1) ((300 + (6 * (v_ro 8))) + 1).toNatClampNeg p_2) ((300 + (6 * (v_ro 8))) + 2).toNatClampNeg p_3) ((300 + (6 * (v_ro 8))) + 3).toNatClampNeg p_4) ((300 + (6 * (v_ro 8))) + 4).toNatClampNeg p_5) ((300 + (6 * (v_ro 8))) + 5).toNatClampNeg p_6) 8 ((v_ro 8) + 1))))] hP hD (fun hP hD => ?_)
                    refine lv_aload_n hx hb dX12_wish_153 rfl (lv_at hl 2 rfl) ?_
                    refine lv_iload hx hb dX12_wish_154 (lv_at hl 1 rfl) ?_
                    refine lv_iconst (v := 1) hx hb dX12_wish_156 (by decide) ?_
                    refine lv_iadd hx hb dX12_wish_157 ?_
                    have t_33 : ((v_ro 8) + 1).toInt = (v_ro 8).toInt + 1 := g5_iadd (a := (v_ro 8).toInt) (b := 1) (by rfl) (by decide) (by omega) (by omega)
                    obtain ⟨hPc, hDc, hFc⟩ := g5_sub3 (wc := [(b_o, (oc12 0 u_sa b_rf b_ro b_im b_ke u_fd b_tp u_td u_fr u_to u_so u_wo u_fa u_bd u_nc b_nl u_co b_op b_ar u_le b_pi b_pa u_pd u_od b_ws b_hw u_la b_se b_re u_bk u_va u_su u_ce u_ho u_wy u_bt u_ps b_pt u_tg u_sn b_ip u_ic b_ah b_be b_me u_wd b_tr b_ld u_st b_wn u_id)), (b_rf, (arI G 7 v_rf))]) hP hD hS hA [0, 1] (by decide) rfl
                    refine va_calli (va_runV (As := [.int ((v_ro 8) + 1)]) (rest := []) ⟨hx, hb, hml, hown, hts⟩ (n_tell l G b_o b_rf b_ro b_im b_ke b_tp b_nl b_op b_ar b_pi b_pa b_ws b_hw b_se b_re b_pt b_ip b_ah b_be b_me b_tr b_ld b_wn H.size 0 u_sa u_fd u_td u_fr u_to u_so u_fa u_bd u_nc u_co u_le u_pd u_od u_la u_bk u_ce u_ho u_wy u_bt u_ps u_tg u_sn u_ic u_wd u_id ((v_ro 8) + 1) u_wo u_va u_su u_st v_rf h_u_td h_u_fr h_u_to h_u_bd h_u_nc h_u_co h_u_pd h_u_la h_u_bk h_u_ce h_u_ho h_u_wy h_u_bt h_u_ps h_u_ic h_u_id ⟨by omega, by omega⟩) (cwV 1 hts gV_X12_125 rfl rfl rfl hv_X12_tell ⟨Nat.le_of_ble_eq_true rfl, Nat.le_of_ble_eq_true rfl⟩) (g5_preV hPc hK hDc hN hT hS hFc (ci := 12) (q0 := 0) rfl rfl) rfl rfl hl.1 rfl (lv_room (Nat.le_of_ble_eq_true rfl)) dX12_wish_158 ⟨Nat.le_of_ble_eq_true rfl, Nat.le_of_ble_eq_true rfl⟩) hS (fun q _ h => hFc q h) hFc (fun r u t H1 locs ht hvm hw hB hz1 hk1 hS => ?_)
                    obtain ⟨hP1, hD1⟩ := hB
                    rw [ht] at hP1
                    obtain ⟨z35, z36, z37, i_34, rfl, rfl⟩ := hw
                    have i_34 : 0 ≤ z36.toInt ∧ z36.toInt ≤ 1 := i_34
                    obtain ⟨hP, hD⟩ := va_join (wr := [(b_ro, (arI G 5740 (upd (upd (upd (upd (upd (upd (upd v_ro (300 + (6 * (v_ro 8))).toNatClampNeg p_1) ((300 + (6 * (v_ro 8))) + 1).toNatClampNeg p_2) ((300 + (6 * (v_ro 8))) + 2).toNatClampNeg p_3) ((300 + (6 * (v_ro 8))) + 3).toNatClampNeg p_4) ((300 + (6 * (v_ro 8))) + 4).toNatClampNeg p_5) ((300 + (6 * (v_ro 8))) + 5).toNatClampNeg p_6) 8 ((v_ro 8) + 1))))]) hP hD [0, 1] [2] rfl rfl (by decide) (by decide) hk1 hFc hP1 hD1
                    generalize H1 = H at hP hS ⊢
                    refine g5_rs [(b_ro, (arI G 5740 (upd (upd (upd (upd (upd (upd (upd v_ro (300 + (6 * (v_ro 8))).toNatClampNeg p_1) ((300 + (6 * (v_ro 8))) + 1).toNatClampNeg p_2) ((300 + (6 * (v_ro 8))) + 2).toNatClampNeg p_3) ((300 + (6 * (v_ro 8))) + 3).toNatClampNeg p_4) ((300 + (6 * (v_ro 8))) + 4).toNatClampNeg p_5) ((300 + (6 * (v_ro 8))) + 5).toNatClampNeg p_6) 8 ((v_ro 8) + 1)))), (b_o, (oc12 0 z35 b_rf b_ro b_im b_ke u_fd b_tp u_td u_fr u_to u_so u_wo u_fa u_bd u_nc b_nl u_co b_op b_ar u_le b_pi b_pa u_pd u_od b_ws b_hw u_la b_se b_re u_bk u_va u_su u_ce u_ho u_wy u_bt u_ps b_pt u_tg u_sn b_ip z36 b_ah b_be b_me u_wd b_tr b_ld u_st b_wn u_id)), (b_rf, (arI G 7 z37))] hP hD (fun hP hD => ?_)
                    exact W.iret (v := ((v_ro 8) + 1)) hx hb hr (fun t ht hW => ⟨⟨((v_ro 8) + 1), [(b_o, (oc12 0 z35 b_rf b_ro b_im b_ke u_fd b_tp u_td u_fr u_to u_so u_wo u_fa u_bd u_nc b_nl u_co b_op b_ar u_le b_pi b_pa u_pd u_od b_ws b_hw u_la b_se b_re u_bk u_va u_su u_ce u_ho u_wy u_bt u_ps b_pt u_tg u_sn b_ip z36 b_ah b_be b_me u_wd b_tr b_ld u_st b_wn u_id)), (b_rf, (arI G 7 z37)), (b_ro, (arI G 5740 (upd (upd (upd (upd (upd (upd (upd v_ro (300 + (6 * (v_ro 8))).toNatClampNeg p_1) ((300 + (6 * (v_ro 8))) + 1).toNatClampNeg p_2) ((300 + (6 * (v_ro 8))) + 2).toNatClampNeg p_3) ((300 + (6 * (v_ro 8))) + 3).toNatClampNeg p_4) ((300 + (6 * (v_ro 8))) + 4).toNatClampNeg p_5) ((300 + (6 * (v_ro 8))) + 5).toNatClampNeg p_6) 8 ((v_ro 8) + 1))))], rfl, ⟨((v_ro 8) + 1), 0, z35, z36, z37, (upd (upd (upd (upd (upd (upd (upd v_ro (300 + (6 * (v_ro 8))).toNatClampNeg p_1) ((300 + (6 * (v_ro 8))) + 1).toNatClampNeg p_2) ((300 + (6 * (v_ro 8))) + 2).toNatClampNeg p_3) ((300 + (6 * (v_ro 8))) + 3).toNatClampNeg p_4) ((300 + (6 * (v_ro 8))) + 4).toNatClampNeg p_5) ((300 + (6 * (v_ro 8))) + 5).toNatClampNeg p_6) 8 ((v_ro 8) + 1)), mi_upd (mi_upd (mi_upd (mi_upd (mi_upd (mi_upd (mi_upd r_ro (by have zz := g5_clamp (300 + (6 * (v_ro 8))); unfold rOK; refine ⟨?_, ?_, ?_, ?_, ?_, ?_, ?_, ?_, ?_, ?_, ?_, ?_, ?_, ?_, ?_, ?_, ?_, ?_, ?_, ?_, ?_, ?_, ?_⟩ <;> (intros; omega)) (by have zz := g5_clamp (300 + (6 * (v_ro 8))); omega) (by have zz := g5_clamp (300 + (6 * (v_ro 8))); omega) (by have zz := g5_clamp (300 + (6 * (v_ro 8))); omega) (by have zz := g5_clamp (300 + (6 * (v_ro 8))); omega) (by have zz := g5_clamp (300 + (6 * (v_ro 8))); omega)) (by have zz := g5_clamp ((300 + (6 * (v_ro 8))) + 1); unfold rOK; refine ⟨?_, ?_, ?_, ?_, ?_, ?_, ?_, ?_, ?_, ?_, ?_, ?_, ?_, ?_, ?_, ?_, ?_, ?_, ?_, ?_, ?_, ?_, ?_⟩ <;> (intros; omega)) (by have zz := g5_clamp ((300 + (6 * (v_ro 8))) + 1); omega) (by have zz := g5_clamp ((300 + (6 * (v_ro 8))) + 1); omega) (by have zz := g5_clamp ((300 + (6 * (v_ro 8))) + 1); omega) (by have zz := g5_clamp ((300 + (6 * (v_ro 8))) + 1); omega) (by have zz := g5_clamp ((300 + (6 * (v_ro 8))) + 1); omega)) (by have zz := g5_clamp ((300 + (6 * (v_ro 8))) + 2); unfold rOK; refine ⟨?_, ?_, ?_, ?_, ?_, ?_, ?_, ?_, ?_, ?_, ?_, ?_, ?_, ?_, ?_, ?_, ?_, ?_, ?_, ?_, ?_, ?_, ?_⟩ <;> (intros; omega)) (by have zz := g5_clamp ((300 + (6 * (v_ro 8))) + 2); omega) (by have zz := g5_clamp ((300 + (6 * (v_ro 8))) + 2); omega) (by have zz := g5_clamp ((300 + (6 * (v_ro 8))) + 2); omega) (by have zz := g5_clamp ((300 + (6 * (v_ro 8))) + 2); omega) (by have zz := g5_clamp ((300 + (6 * (v_ro 8))) + 2); omega)) (by have zz := g5_clamp ((300 + (6 * (v_ro 8))) + 3); unfold rOK; refine ⟨?_, ?_, ?_, ?_, ?_, ?_, ?_, ?_, ?_, ?_, ?_, ?_, ?_, ?_, ?_, ?_, ?_, ?_, ?_, ?_, ?_, ?_, ?_⟩ <;> (intros; omega)) (by have zz := g5_clamp ((300 + (6 * (v_ro 8))) + 3); omega) (by have zz := g5_clamp ((300 + (6 * (v_ro 8))) + 3); omega) (by have zz := g5_clamp ((300 + (6 * (v_ro 8))) + 3); omega) (by have zz := g5_clamp ((300 + (6 * (v_ro 8))) + 3); omega) (by have zz := g5_clamp ((300 + (6 * (v_ro 8))) + 3); omega)) (by have zz := g5_clamp ((300 + (6 * (v_ro 8))) + 4); unfold rOK; refine ⟨?_, ?_, ?_, ?_, ?_, ?_, ?_, ?_, ?_, ?_, ?_, ?_, ?_, ?_, ?_, ?_, ?_, ?_, ?_, ?_, ?_, ?_, ?_⟩ <;> (intros; omega)) (by have zz := g5_clamp ((300 + (6 * (v_ro 8))) + 4); omega) (by have zz := g5_clamp ((300 + (6 * (v_ro 8))) + 4); omega) (by have zz := g5_clamp ((300 + (6 * (v_ro 8))) + 4); omega) (by have zz := g5_clamp ((300 + (6 * (v_ro 8))) + 4); omega) (by have zz := g5_clamp ((300 + (6 * (v_ro 8))) + 4); omega)) (by have zz := g5_clamp ((300 + (6 * (v_ro 8))) + 5); unfold rOK; refine ⟨?_, ?_, ?_, ?_, ?_, ?_, ?_, ?_, ?_, ?_, ?_, ?_, ?_, ?_, ?_, ?_, ?_, ?_, ?_, ?_, ?_, ?_, ?_⟩ <;> (intros; omega)) (by have zz := g5_clamp ((300 + (6 * (v_ro 8))) + 5); omega) (by have zz := g5_clamp ((300 + (6 * (v_ro 8))) + 5); omega) (by have zz := g5_clamp ((300 + (6 * (v_ro 8))) + 5); omega) (by have zz := g5_clamp ((300 + (6 * (v_ro 8))) + 5); omega) (by have zz := g5_clamp ((300 + (6 * (v_ro 8))) + 5); omega)) (by unfold rOK; refine ⟨?_, ?_, ?_, ?_, ?_, ?_, ?_, ?_, ?_, ?_, ?_, ?_, ?_, ?_, ?_, ?_, ?_, ?_, ?_, ?_, ?_, ?_, ?_⟩ <;> (intros; omega)) (by omega) (by omega) (by omega) (by omega) (by omega), i_34, (wish_0 (f := v_ro) (c := p_1) (w := p_2) (h := p_3) (a := p_4) (t := p_5) (i := p_6) ⟨i_1, ⟨by omega, by omega⟩, ⟨by omega, by omega⟩, ⟨by omega, by omega⟩⟩ (by omega)).1.symm, (mr6 (f := v_ro) (ci := 8) (B := 300) (n := (v_ro 8).toInt.toNat) (by omega) (by have zz := g5_clamp (300 + (6 * (v_ro 8))); omega) (by have zz := g5_clamp ((300 + (6 * (v_ro 8))) + 1); omega) (by have zz := g5_clamp ((300 + (6 * (v_ro 8))) + 2); omega) (by have zz := g5_clamp ((300 + (6 * (v_ro 8))) + 3); omega) (by have zz := g5_clamp ((300 + (6 * (v_ro 8))) + 4); omega) (by have zz := g5_clamp ((300 + (6 * (v_ro 8))) + 5); omega)).trans (wish_0 (f := v_ro) (c := p_1) (w := p_2) (h := p_3) (a := p_4) (t := p_5) (i := p_6) ⟨i_1, ⟨by omega, by omega⟩, ⟨by omega, by omega⟩, ⟨by omega, by omega⟩⟩ (by omega)).2.symm, rfl, rfl⟩, by rw [ht]; exact hP.sub [1, 2, 0] rfl, hD.sub [1, 2, 0] (by decide) rfl⟩, hS.F ht⟩) hS.2.2 dX12_wish_161
                  ·
                    have i_22 : (v_ro 8).toInt = 6 := by have z := g5_neN (a := (v_ro 8).toInt) (b := 6) (by rfl) (by decide) c_22; omega
                    refine lv_aload_n hx hb dX12_wish_63 rfl (lv_at hl 1 rfl) ?_
                    refine lv_bipush (v := (-5)) hx hb dX12_wish_64 (by decide) ?_
                    obtain ⟨hPc, hDc, hFc⟩ := g5_sub3 (wc := [(b_o, (oc12 0 u_sa b_rf b_ro b_im b_ke u_fd b_tp u_td u_fr u_to u_so u_wo u_fa u_bd u_nc b_nl u_co b_op b_ar u_le b_pi b_pa u_pd u_od b_ws b_hw u_la b_se b_re u_bk u_va u_su u_ce u_ho u_wy u_bt u_ps b_pt u_tg u_sn b_ip u_ic b_ah b_be b_me u_wd b_tr b_ld u_st b_wn u_id)), (b_rf, (arI G 7 v_rf))]) hP hD hS hA [0, 1] (by decide) rfl
                    refine va_calli (va_runV (As := [.int (-5)]) (rest := []) ⟨hx, hb, hml, hown, hts⟩ (n_tell5 l G b_o b_rf b_ro b_im b_ke b_tp b_nl b_op b_ar b_pi b_pa b_ws b_hw b_se b_re b_pt b_ip b_ah b_be b_me b_tr b_ld b_wn H.size 0 u_sa u_fd u_td u_fr u_to u_so u_fa u_bd u_nc u_co u_le u_pd u_od u_la u_bk u_ce u_ho u_wy u_bt u_ps u_tg u_sn u_ic u_wd u_id u_wo u_va u_su u_st v_rf h_u_td h_u_fr h_u_to h_u_bd h_u_nc h_u_co h_u_pd h_u_la h_u_bk h_u_ce h_u_ho h_u_wy h_u_bt h_u_ps h_u_ic h_u_id) (cwV 1 hts gV_X12_125 rfl rfl rfl hv_X12_tell ⟨Nat.le_of_ble_eq_true rfl, Nat.le_of_ble_eq_true rfl⟩) (g5_preV hPc hK hDc hN hT hS hFc (ci := 12) (q0 := 0) rfl rfl) rfl rfl hl.1 rfl (lv_room (Nat.le_of_ble_eq_true rfl)) dX12_wish_66 ⟨Nat.le_of_ble_eq_true rfl, Nat.le_of_ble_eq_true rfl⟩) hS (fun q _ h => hFc q h) hFc (fun r u t H1 locs ht hvm hw hB hz1 hk1 hS => ?_)
                    obtain ⟨hP1, hD1⟩ := hB
                    rw [ht] at hP1
                    obtain ⟨z39, z40, z41, i_38, rfl, rfl⟩ := hw
                    have i_38 : 0 ≤ z40.toInt ∧ z40.toInt ≤ 1 := i_38
                    obtain ⟨hP, hD⟩ := va_join (wr := [(b_ro, (arI G 5740 v_ro))]) hP hD [0, 1] [2] rfl rfl (by decide) (by decide) hk1 hFc hP1 hD1
                    generalize H1 = H at hP hS ⊢
                    refine g5_rs [(b_ro, (arI G 5740 v_ro)), (b_o, (oc12 0 z39 b_rf b_ro b_im b_ke u_fd b_tp u_td u_fr u_to u_so u_wo u_fa u_bd u_nc b_nl u_co b_op b_ar u_le b_pi b_pa u_pd u_od b_ws b_hw u_la b_se b_re u_bk u_va u_su u_ce u_ho u_wy u_bt u_ps b_pt u_tg u_sn b_ip z40 b_ah b_be b_me u_wd b_tr b_ld u_st b_wn u_id)), (b_rf, (arI G 7 z41))] hP hD (fun hP hD => ?_)
                    exact W.iret (v := (-5)) hx hb hr (fun t ht hW => ⟨⟨(-5), [(b_o, (oc12 0 z39 b_rf b_ro b_im b_ke u_fd b_tp u_td u_fr u_to u_so u_wo u_fa u_bd u_nc b_nl u_co b_op b_ar u_le b_pi b_pa u_pd u_od b_ws b_hw u_la b_se b_re u_bk u_va u_su u_ce u_ho u_wy u_bt u_ps b_pt u_tg u_sn b_ip z40 b_ah b_be b_me u_wd b_tr b_ld u_st b_wn u_id)), (b_rf, (arI G 7 z41)), (b_ro, (arI G 5740 v_ro))], rfl, ⟨(-5), 0, z39, z40, z41, v_ro, r_ro, i_38, (wish_5 (f := v_ro) (c := p_1) (w := p_2) (h := p_3) (a := p_4) (t := p_5) (i := p_6) ⟨i_1, ⟨by omega, by omega⟩, ⟨by omega, by omega⟩, ⟨by omega, by omega⟩⟩ (by omega)).1.symm, (wish_5 (f := v_ro) (c := p_1) (w := p_2) (h := p_3) (a := p_4) (t := p_5) (i := p_6) ⟨i_1, ⟨by omega, by omega⟩, ⟨by omega, by omega⟩, ⟨by omega, by omega⟩⟩ (by omega)).2.symm, rfl, rfl⟩, by rw [ht]; exact hP.sub [1, 2, 0] rfl, hD.sub [1, 2, 0] (by decide) rfl⟩, hS.F ht⟩) hS.2.2 dX12_wish_69
                ·
                  exact absurd c_20 (by decide)
          ·
            have i_11 : p_5.toInt < 0 ∨ 23 < p_5.toInt := i_11
            have hP := g5_same hP hk1
            generalize H1 = H at hP hS ⊢
            refine lv_if_eq (tgt := 41) hx hb dX12_wish_27 (by decide) (fun c_42 => ?_) (fun c_42 => ?_)
            ·
              refine lv_aload_n hx hb dX12_wish_41 rfl (lv_at hl 0 rfl) ?_
              refine lv_iconst (v := (-1)) hx hb dX12_wish_42 (by decide) ?_
              obtain ⟨hPc, hDc, hFc⟩ := g5_sub3 (wc := [(b_o, (oc12 0 u_sa b_rf b_ro b_im b_ke u_fd b_tp u_td u_fr u_to u_so u_wo u_fa u_bd u_nc b_nl u_co b_op b_ar u_le b_pi b_pa u_pd u_od b_ws b_hw u_la b_se b_re u_bk u_va u_su u_ce u_ho u_wy u_bt u_ps b_pt u_tg u_sn b_ip u_ic b_ah b_be b_me u_wd b_tr b_ld u_st b_wn u_id)), (b_rf, (arI G 7 v_rf))]) hP hD hS hA [0, 1] (by decide) rfl
              refine va_calli (va_runV (As := [.int (-1)]) (rest := []) ⟨hx, hb, hml, hown, hts⟩ (n_tell1 l G b_o b_rf b_ro b_im b_ke b_tp b_nl b_op b_ar b_pi b_pa b_ws b_hw b_se b_re b_pt b_ip b_ah b_be b_me b_tr b_ld b_wn H.size 0 u_sa u_fd u_td u_fr u_to u_so u_fa u_bd u_nc u_co u_le u_pd u_od u_la u_bk u_ce u_ho u_wy u_bt u_ps u_tg u_sn u_ic u_wd u_id u_wo u_va u_su u_st v_rf h_u_td h_u_fr h_u_to h_u_bd h_u_nc h_u_co h_u_pd h_u_la h_u_bk h_u_ce h_u_ho h_u_wy h_u_bt h_u_ps h_u_ic h_u_id) (cwV 1 hts gV_X12_125 rfl rfl rfl hv_X12_tell ⟨Nat.le_of_ble_eq_true rfl, Nat.le_of_ble_eq_true rfl⟩) (g5_preV hPc hK hDc hN hT hS hFc (ci := 12) (q0 := 0) rfl rfl) rfl rfl hl.1 rfl (lv_room (Nat.le_of_ble_eq_true rfl)) dX12_wish_43 ⟨Nat.le_of_ble_eq_true rfl, Nat.le_of_ble_eq_true rfl⟩) hS (fun q _ h => hFc q h) hFc (fun r u t H1 locs ht hvm hw hB hz1 hk1 hS => ?_)
              obtain ⟨hP1, hD1⟩ := hB
              rw [ht] at hP1
              obtain ⟨z44, z45, z46, i_43, rfl, rfl⟩ := hw
              have i_43 : 0 ≤ z45.toInt ∧ z45.toInt ≤ 1 := i_43
              obtain ⟨hP, hD⟩ := va_join (wr := [(b_ro, (arI G 5740 v_ro))]) hP hD [0, 1] [2] rfl rfl (by decide) (by decide) hk1 hFc hP1 hD1
              generalize H1 = H at hP hS ⊢
              refine g5_rs [(b_ro, (arI G 5740 v_ro)), (b_o, (oc12 0 z44 b_rf b_ro b_im b_ke u_fd b_tp u_td u_fr u_to u_so u_wo u_fa u_bd u_nc b_nl u_co b_op b_ar u_le b_pi b_pa u_pd u_od b_ws b_hw u_la b_se b_re u_bk u_va u_su u_ce u_ho u_wy u_bt u_ps b_pt u_tg u_sn b_ip z45 b_ah b_be b_me u_wd b_tr b_ld u_st b_wn u_id)), (b_rf, (arI G 7 z46))] hP hD (fun hP hD => ?_)
              exact W.iret (v := (-1)) hx hb hr (fun t ht hW => ⟨⟨(-1), [(b_o, (oc12 0 z44 b_rf b_ro b_im b_ke u_fd b_tp u_td u_fr u_to u_so u_wo u_fa u_bd u_nc b_nl u_co b_op b_ar u_le b_pi b_pa u_pd u_od b_ws b_hw u_la b_se b_re u_bk u_va u_su u_ce u_ho u_wy u_bt u_ps b_pt u_tg u_sn b_ip z45 b_ah b_be b_me u_wd b_tr b_ld u_st b_wn u_id)), (b_rf, (arI G 7 z46)), (b_ro, (arI G 5740 v_ro))], rfl, ⟨(-1), 0, z44, z45, z46, v_ro, r_ro, i_43, (wish_1 (f := v_ro) (c := p_1) (w := p_2) (h := p_3) (a := p_4) (t := p_5) (i := p_6) (fun q => by have q2 := q.2; omega)).1.symm, (wish_1 (f := v_ro) (c := p_1) (w := p_2) (h := p_3) (a := p_4) (t := p_5) (i := p_6) (fun q => by have q2 := q.2; omega)).2.symm, rfl, rfl⟩, by rw [ht]; exact hP.sub [1, 2, 0] rfl, hD.sub [1, 2, 0] (by decide) rfl⟩, hS.F ht⟩) hS.2.2 dX12_wish_46
            ·
              exact absurd c_42 (by decide)
      ·
        have i_8 : p_4.toInt < 0 ∨ 63 < p_4.toInt := i_8
        have hP := g5_same hP hk1
        generalize H1 = H at hP hS ⊢
        refine lv_if_eq (tgt := 41) hx hb dX12_wish_19 (by decide) (fun c_47 => ?_) (fun c_47 => ?_)
        ·
          refine lv_aload_n hx hb dX12_wish_41 rfl (lv_at hl 0 rfl) ?_
          refine lv_iconst (v := (-1)) hx hb dX12_wish_42 (by decide) ?_
          obtain ⟨hPc, hDc, hFc⟩ := g5_sub3 (wc := [(b_o, (oc12 0 u_sa b_rf b_ro b_im b_ke u_fd b_tp u_td u_fr u_to u_so u_wo u_fa u_bd u_nc b_nl u_co b_op b_ar u_le b_pi b_pa u_pd u_od b_ws b_hw u_la b_se b_re u_bk u_va u_su u_ce u_ho u_wy u_bt u_ps b_pt u_tg u_sn b_ip u_ic b_ah b_be b_me u_wd b_tr b_ld u_st b_wn u_id)), (b_rf, (arI G 7 v_rf))]) hP hD hS hA [0, 1] (by decide) rfl
          refine va_calli (va_runV (As := [.int (-1)]) (rest := []) ⟨hx, hb, hml, hown, hts⟩ (n_tell1 l G b_o b_rf b_ro b_im b_ke b_tp b_nl b_op b_ar b_pi b_pa b_ws b_hw b_se b_re b_pt b_ip b_ah b_be b_me b_tr b_ld b_wn H.size 0 u_sa u_fd u_td u_fr u_to u_so u_fa u_bd u_nc u_co u_le u_pd u_od u_la u_bk u_ce u_ho u_wy u_bt u_ps u_tg u_sn u_ic u_wd u_id u_wo u_va u_su u_st v_rf h_u_td h_u_fr h_u_to h_u_bd h_u_nc h_u_co h_u_pd h_u_la h_u_bk h_u_ce h_u_ho h_u_wy h_u_bt h_u_ps h_u_ic h_u_id) (cwV 1 hts gV_X12_125 rfl rfl rfl hv_X12_tell ⟨Nat.le_of_ble_eq_true rfl, Nat.le_of_ble_eq_true rfl⟩) (g5_preV hPc hK hDc hN hT hS hFc (ci := 12) (q0 := 0) rfl rfl) rfl rfl hl.1 rfl (lv_room (Nat.le_of_ble_eq_true rfl)) dX12_wish_43 ⟨Nat.le_of_ble_eq_true rfl, Nat.le_of_ble_eq_true rfl⟩) hS (fun q _ h => hFc q h) hFc (fun r u t H1 locs ht hvm hw hB hz1 hk1 hS => ?_)
          obtain ⟨hP1, hD1⟩ := hB
          rw [ht] at hP1
          obtain ⟨z49, z50, z51, i_48, rfl, rfl⟩ := hw
          have i_48 : 0 ≤ z50.toInt ∧ z50.toInt ≤ 1 := i_48
          obtain ⟨hP, hD⟩ := va_join (wr := [(b_ro, (arI G 5740 v_ro))]) hP hD [0, 1] [2] rfl rfl (by decide) (by decide) hk1 hFc hP1 hD1
          generalize H1 = H at hP hS ⊢
          refine g5_rs [(b_ro, (arI G 5740 v_ro)), (b_o, (oc12 0 z49 b_rf b_ro b_im b_ke u_fd b_tp u_td u_fr u_to u_so u_wo u_fa u_bd u_nc b_nl u_co b_op b_ar u_le b_pi b_pa u_pd u_od b_ws b_hw u_la b_se b_re u_bk u_va u_su u_ce u_ho u_wy u_bt u_ps b_pt u_tg u_sn b_ip z50 b_ah b_be b_me u_wd b_tr b_ld u_st b_wn u_id)), (b_rf, (arI G 7 z51))] hP hD (fun hP hD => ?_)
          exact W.iret (v := (-1)) hx hb hr (fun t ht hW => ⟨⟨(-1), [(b_o, (oc12 0 z49 b_rf b_ro b_im b_ke u_fd b_tp u_td u_fr u_to u_so u_wo u_fa u_bd u_nc b_nl u_co b_op b_ar u_le b_pi b_pa u_pd u_od b_ws b_hw u_la b_se b_re u_bk u_va u_su u_ce u_ho u_wy u_bt u_ps b_pt u_tg u_sn b_ip z50 b_ah b_be b_me u_wd b_tr b_ld u_st b_wn u_id)), (b_rf, (arI G 7 z51)), (b_ro, (arI G 5740 v_ro))], rfl, ⟨(-1), 0, z49, z50, z51, v_ro, r_ro, i_48, (wish_1 (f := v_ro) (c := p_1) (w := p_2) (h := p_3) (a := p_4) (t := p_5) (i := p_6) (fun q => by have q2 := q.2; omega)).1.symm, (wish_1 (f := v_ro) (c := p_1) (w := p_2) (h := p_3) (a := p_4) (t := p_5) (i := p_6) (fun q => by have q2 := q.2; omega)).2.symm, rfl, rfl⟩, by rw [ht]; exact hP.sub [1, 2, 0] rfl, hD.sub [1, 2, 0] (by decide) rfl⟩, hS.F ht⟩) hS.2.2 dX12_wish_46
        ·
          exact absurd c_47 (by decide)
  ·
    have i_5 : ¬ okL p_1 p_2 p_3 := i_5
    have hP := g5_same hP hk1
    generalize H1 = H at hP hS ⊢
    refine lv_if_eq (tgt := 41) hx hb dX12_wish_11 (by decide) (fun c_52 => ?_) (fun c_52 => ?_)
    ·
      refine lv_aload_n hx hb dX12_wish_41 rfl (lv_at hl 0 rfl) ?_
      refine lv_iconst (v := (-1)) hx hb dX12_wish_42 (by decide) ?_
      obtain ⟨hPc, hDc, hFc⟩ := g5_sub3 (wc := [(b_o, (oc12 0 u_sa b_rf b_ro b_im b_ke u_fd b_tp u_td u_fr u_to u_so u_wo u_fa u_bd u_nc b_nl u_co b_op b_ar u_le b_pi b_pa u_pd u_od b_ws b_hw u_la b_se b_re u_bk u_va u_su u_ce u_ho u_wy u_bt u_ps b_pt u_tg u_sn b_ip u_ic b_ah b_be b_me u_wd b_tr b_ld u_st b_wn u_id)), (b_rf, (arI G 7 v_rf))]) hP hD hS hA [0, 1] (by decide) rfl
      refine va_calli (va_runV (As := [.int (-1)]) (rest := []) ⟨hx, hb, hml, hown, hts⟩ (n_tell1 l G b_o b_rf b_ro b_im b_ke b_tp b_nl b_op b_ar b_pi b_pa b_ws b_hw b_se b_re b_pt b_ip b_ah b_be b_me b_tr b_ld b_wn H.size 0 u_sa u_fd u_td u_fr u_to u_so u_fa u_bd u_nc u_co u_le u_pd u_od u_la u_bk u_ce u_ho u_wy u_bt u_ps u_tg u_sn u_ic u_wd u_id u_wo u_va u_su u_st v_rf h_u_td h_u_fr h_u_to h_u_bd h_u_nc h_u_co h_u_pd h_u_la h_u_bk h_u_ce h_u_ho h_u_wy h_u_bt h_u_ps h_u_ic h_u_id) (cwV 1 hts gV_X12_125 rfl rfl rfl hv_X12_tell ⟨Nat.le_of_ble_eq_true rfl, Nat.le_of_ble_eq_true rfl⟩) (g5_preV hPc hK hDc hN hT hS hFc (ci := 12) (q0 := 0) rfl rfl) rfl rfl hl.1 rfl (lv_room (Nat.le_of_ble_eq_true rfl)) dX12_wish_43 ⟨Nat.le_of_ble_eq_true rfl, Nat.le_of_ble_eq_true rfl⟩) hS (fun q _ h => hFc q h) hFc (fun r u t H1 locs ht hvm hw hB hz1 hk1 hS => ?_)
      obtain ⟨hP1, hD1⟩ := hB
      rw [ht] at hP1
      obtain ⟨z54, z55, z56, i_53, rfl, rfl⟩ := hw
      have i_53 : 0 ≤ z55.toInt ∧ z55.toInt ≤ 1 := i_53
      obtain ⟨hP, hD⟩ := va_join (wr := [(b_ro, (arI G 5740 v_ro))]) hP hD [0, 1] [2] rfl rfl (by decide) (by decide) hk1 hFc hP1 hD1
      generalize H1 = H at hP hS ⊢
      refine g5_rs [(b_ro, (arI G 5740 v_ro)), (b_o, (oc12 0 z54 b_rf b_ro b_im b_ke u_fd b_tp u_td u_fr u_to u_so u_wo u_fa u_bd u_nc b_nl u_co b_op b_ar u_le b_pi b_pa u_pd u_od b_ws b_hw u_la b_se b_re u_bk u_va u_su u_ce u_ho u_wy u_bt u_ps b_pt u_tg u_sn b_ip z55 b_ah b_be b_me u_wd b_tr b_ld u_st b_wn u_id)), (b_rf, (arI G 7 z56))] hP hD (fun hP hD => ?_)
      exact W.iret (v := (-1)) hx hb hr (fun t ht hW => ⟨⟨(-1), [(b_o, (oc12 0 z54 b_rf b_ro b_im b_ke u_fd b_tp u_td u_fr u_to u_so u_wo u_fa u_bd u_nc b_nl u_co b_op b_ar u_le b_pi b_pa u_pd u_od b_ws b_hw u_la b_se b_re u_bk u_va u_su u_ce u_ho u_wy u_bt u_ps b_pt u_tg u_sn b_ip z55 b_ah b_be b_me u_wd b_tr b_ld u_st b_wn u_id)), (b_rf, (arI G 7 z56)), (b_ro, (arI G 5740 v_ro))], rfl, ⟨(-1), 0, z54, z55, z56, v_ro, r_ro, i_53, (wish_1 (f := v_ro) (c := p_1) (w := p_2) (h := p_3) (a := p_4) (t := p_5) (i := p_6) (fun q => i_5 q.1)).1.symm, (wish_1 (f := v_ro) (c := p_1) (w := p_2) (h := p_3) (a := p_4) (t := p_5) (i := p_6) (fun q => i_5 q.1)).2.symm, rfl, rfl⟩, by rw [ht]; exact hP.sub [1, 2, 0] rfl, hD.sub [1, 2, 0] (by decide) rfl⟩, hS.F ht⟩) hS.2.2 dX12_wish_46
    ·
      exact absurd c_52 (by decide)
