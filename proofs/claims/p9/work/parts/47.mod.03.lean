set_option maxHeartbeats 4000000 in
set_option maxRecDepth 100000 in
theorem n_sooner (l : Launch) (G : g5_G) (b_o b_ro b_se b_re b_pt b_tr b_ld b_rf b_im b_ke b_tp b_nl b_op b_ar b_pi b_pa b_ws b_hw b_ip b_ah b_be b_me b_wn : Nat) (sz : Nat) (u_th : Int32) (u_sa : Int32) (u_fd : Int32) (u_td : Int32) (u_fr : Int32) (u_to : Int32) (u_so : Int32) (u_fa : Int32) (u_bd : Int32) (u_nc : Int32) (u_co : Int32) (u_le : Int32) (u_pd : Int32) (u_od : Int32) (u_la : Int32) (u_bk : Int32) (u_ce : Int32) (u_ho : Int32) (u_wy : Int32) (u_bt : Int32) (u_ps : Int32) (u_tg : Int32) (u_sn : Int32) (u_ic : Int32) (u_wd : Int32) (u_id : Int32) (p_1 : Int32) (p_2 : Int32) (p_3 : Int32) (p_4 : Int32) (u_wo : Int64) (u_va : Int64) (u_su : Int64) (u_st : Int64) (v_ro : Nat → Int32) (v_se : Nat → Int64) (v_re : Nat → Int64) (v_pt : Nat → Int32) (v_tr : Nat → Int32) (v_ld : Nat → Int32) (h_u_td : 0 ≤ u_td.toInt ∧ u_td.toInt ≤ 400) (h_u_fr : 0 ≤ u_fr.toInt ∧ u_fr.toInt ≤ 400) (h_u_to : 0 ≤ u_to.toInt ∧ u_to.toInt ≤ 400) (h_u_bd : 0 ≤ u_bd.toInt ∧ u_bd.toInt ≤ 1) (h_u_nc : 0 ≤ u_nc.toInt ∧ u_nc.toInt ≤ 12) (h_u_co : 0 ≤ u_co.toInt ∧ u_co.toInt ≤ 400) (h_u_pd : 0 ≤ u_pd.toInt ∧ u_pd.toInt ≤ 400) (h_u_la : 0 ≤ u_la.toInt ∧ u_la.toInt ≤ 4840) (h_u_bk : 0 ≤ u_bk.toInt ∧ u_bk.toInt ≤ 1) (h_u_ce : 0 ≤ u_ce.toInt ∧ u_ce.toInt ≤ 63) (h_u_ho : 0 ≤ u_ho.toInt ∧ u_ho.toInt ≤ 23) (h_u_wy : 0 ≤ u_wy.toInt ∧ u_wy.toInt ≤ 3) (h_u_bt : 0 ≤ u_bt.toInt ∧ u_bt.toInt ≤ 1000000) (h_u_ps : 0 ≤ u_ps.toInt ∧ u_ps.toInt ≤ 200) (h_u_ic : 0 ≤ u_ic.toInt ∧ u_ic.toInt ≤ 1) (h_u_id : 0 ≤ u_id.toInt ∧ u_id.toInt ≤ 1) (r_ro : MI v_ro) (r_pt : PTI v_pt) : Met l yX12_sooner (wsG yX12_sooner cX12_sooner 12 (some .int)) ({ frames := 9, cells := 0, slots := 0, locals := 228 }) (va_Pc [.ref b_o, .int p_1, .int p_2, .int p_3, .int p_4] (g5_P G [(b_o, (oc12 u_th u_sa b_rf b_ro b_im b_ke u_fd b_tp u_td u_fr u_to u_so u_wo u_fa u_bd u_nc b_nl u_co b_op b_ar u_le b_pi b_pa u_pd u_od b_ws b_hw u_la b_se b_re u_bk u_va u_su u_ce u_ho u_wy u_bt u_ps b_pt u_tg u_sn b_ip u_ic b_ah b_be b_me u_wd b_tr b_ld u_st b_wn u_id)), (b_ro, (arI G 5740 v_ro)), (b_se, (arJ G 13 v_se)), (b_re, (arJ G 400 v_re)), (b_pt, (arI G 200 v_pt)), (b_tr, (arZ G 1536 v_tr)), (b_ld, (arZ G 1536 v_ld))] sz)) (va_Qi (fun (r : Int32) (u : va_W) => (∃ (o_r : Int32) (o_th : Int32) (o_la : Int32) (o_bk : Int32) (o_va : Int64) (o_su : Int64) (o_ce : Int32) (o_ho : Int32) (o_wy : Int32) (o_bt : Int32) (o_ps : Int32) (o_tg : Int32) (o_sn : Int32) (o_ro : Nat → Int32) (o_se : Nat → Int64) (o_re : Nat → Int64) (o_pt : Nat → Int32) (o_tr : Nat → Int32) (o_ld : Nat → Int32), (MI o_ro) ∧ (0 ≤ o_la.toInt ∧ o_la.toInt ≤ 4840) ∧ (0 ≤ o_bk.toInt ∧ o_bk.toInt ≤ 1) ∧ (0 ≤ o_ce.toInt ∧ o_ce.toInt ≤ 63) ∧ (0 ≤ o_ho.toInt ∧ o_ho.toInt ≤ 23) ∧ (0 ≤ o_wy.toInt ∧ o_wy.toInt ≤ 3) ∧ (0 ≤ o_bt.toInt ∧ o_bt.toInt ≤ 1000000) ∧ (0 ≤ o_ps.toInt ∧ o_ps.toInt ≤ 200) ∧ (PTI o_pt) ∧ (o_ro = v_ro) ∧ (r = o_r) ∧ (u = [(b_o, (oc12 o_th u_sa b_rf b_ro b_im b_ke u_fd b_tp u_td u_fr u_to u_so u_wo u_fa u_bd u_nc b_nl u_co b_op b_ar u_le b_pi b_pa u_pd u_od b_ws b_hw o_la b_se b_re o_bk o_va o_su o_ce o_ho o_wy o_bt o_ps b_pt o_tg o_sn b_ip u_ic b_ah b_be b_me u_wd b_tr b_ld u_st b_wn u_id)), (b_ro, (arI G 5740 o_ro)), (b_se, (arJ G 13 o_se)), (b_re, (arJ G 400 o_re)), (b_pt, (arI G 200 o_pt)), (b_tr, (arZ G 1536 o_tr)), (b_ld, (arZ G 1536 o_ld))]))) (g5_B G (va_A [(b_o, (oc12 u_th u_sa b_rf b_ro b_im b_ke u_fd b_tp u_td u_fr u_to u_so u_wo u_fa u_bd u_nc b_nl u_co b_op b_ar u_le b_pi b_pa u_pd u_od b_ws b_hw u_la b_se b_re u_bk u_va u_su u_ce u_ho u_wy u_bt u_ps b_pt u_tg u_sn b_ip u_ic b_ah b_be b_me u_wd b_tr b_ld u_st b_wn u_id)), (b_ro, (arI G 5740 v_ro)), (b_se, (arJ G 13 v_se)), (b_re, (arJ G 400 v_re)), (b_pt, (arI G 200 v_pt)), (b_tr, (arZ G 1536 v_tr)), (b_ld, (arZ G 1536 v_ld))] sz)) (va_A [(b_o, (oc12 u_th u_sa b_rf b_ro b_im b_ke u_fd b_tp u_td u_fr u_to u_so u_wo u_fa u_bd u_nc b_nl u_co b_op b_ar u_le b_pi b_pa u_pd u_od b_ws b_hw u_la b_se b_re u_bk u_va u_su u_ce u_ho u_wy u_bt u_ps b_pt u_tg u_sn b_ip u_ic b_ah b_be b_me u_wd b_tr b_ld u_st b_wn u_id)), (b_ro, (arI G 5740 v_ro)), (b_se, (arJ G 13 v_se)), (b_re, (arJ G 400 v_re)), (b_pt, (arI G 200 v_pt)), (b_tr, (arZ G 1536 v_tr)), (b_ld, (arZ G 1536 v_ld))] sz)) 0 0 (va_A [(b_o, (oc12 u_th u_sa b_rf b_ro b_im b_ke u_fd b_tp u_td u_fr u_to u_so u_wo u_fa u_bd u_nc b_nl u_co b_op b_ar u_le b_pi b_pa u_pd u_od b_ws b_hw u_la b_se b_re u_bk u_va u_su u_ce u_ho u_wy u_bt u_ps b_pt u_tg u_sn b_ip u_ic b_ah b_be b_me u_wd b_tr b_ld u_st b_wn u_id)), (b_ro, (arI G 5740 v_ro)), (b_se, (arJ G 13 v_se)), (b_re, (arJ G 400 v_re)), (b_pt, (arI G 200 v_pt)), (b_tr, (arZ G 1536 v_tr)), (b_ld, (arZ G 1536 v_ld))] sz) := by
  refine Met.ofW (cc := cX12_sooner) (maxL := 12) (ret := (some .int)) (by decide) rfl ?_
  intro p e s m args below meth c s₁ B hml hv
  obtain ⟨rfl, hsz, hP, hK, hD0, hN, hT⟩ := hv
  have hx := B.exec
  have hb := B.bytes
  have hr := B.returns
  have hts : ∀ w ∈ tblG, w.before _ s = true := fun w h => atoms_spec (ws := (wsG yX12_sooner cX12_sooner 12 (some .int))) B.pre w (List.mem_cons_of_mem _ h)
  have hown : s.vm.findClass RX12 = some m.cls := findClass_of_methodNamed B.named
  have hlocks := B.notSynchronized
  subst hsz
  have hD := hD0.self (sz := s.heap.size)
  generalize hAe : va_A [(b_o, (oc12 u_th u_sa b_rf b_ro b_im b_ke u_fd b_tp u_td u_fr u_to u_so u_wo u_fa u_bd u_nc b_nl u_co b_op b_ar u_le b_pi b_pa u_pd u_od b_ws b_hw u_la b_se b_re u_bk u_va u_su u_ce u_ho u_wy u_bt u_ps b_pt u_tg u_sn b_ip u_ic b_ah b_be b_me u_wd b_tr b_ld u_st b_wn u_id)), (b_ro, (arI G 5740 v_ro)), (b_se, (arJ G 13 v_se)), (b_re, (arJ G 400 v_re)), (b_pt, (arI G 200 v_pt)), (b_tr, (arZ G 1536 v_tr)), (b_ld, (arZ G 1536 v_ld))] s.heap.size = A at hD hT ⊢
  have hA : ∀ q : Nat, s.heap.size ≤ q → A q := fun q h => by rw [← hAe]; exact Or.inr h
  have hS : va_S A s.heap s.heap [] := va_S.rf
  have hP : va_P G.1 vwCl [(b_o, (oc12 u_th u_sa b_rf b_ro b_im b_ke u_fd b_tp u_td u_fr u_to u_so u_wo u_fa u_bd u_nc b_nl u_co b_op b_ar u_le b_pi b_pa u_pd u_od b_ws b_hw u_la b_se b_re u_bk u_va u_su u_ce u_ho u_wy u_bt u_ps b_pt u_tg u_sn b_ip u_ic b_ah b_be b_me u_wd b_tr b_ld u_st b_wn u_id)), (b_ro, (arI G 5740 v_ro)), (b_se, (arJ G 13 v_se)), (b_re, (arJ G 400 v_re)), (b_pt, (arI G 200 v_pt)), (b_tr, (arZ G 1536 v_tr)), (b_ld, (arZ G 1536 v_ld))] s.heap := hP
  have hl := lv_entry ([.ref b_o, .int p_1, .int p_2, .int p_3, .int p_4]) (n := 12) (Nat.le_of_ble_eq_true rfl)
  rw [lg_entry_eq]
  generalize (lg_sl ([.ref b_o, .int p_1, .int p_2, .int p_3, .int p_4]) ++ List.replicate (12 - (lg_sl ([.ref b_o, .int p_1, .int p_2, .int p_3, .int p_4])).length) Slot.unset).toArray = ls at hl ⊢
  have hl : lv_has ls 12 [(0, .ref b_o), (1, .int p_1), (2, .int p_2), (3, .int p_3), (4, .int p_4)] := hl
  refine lv_aload_n hx hb dX12_sooner_0 rfl (lv_at hl 0 rfl) ?_
  refine lv_iconst (v := 0) hx hb dX12_sooner_1 (by decide) ?_
  refine va_put (D := G.1) (ci := 12) (v := .int 0) (ty := .int) (C := RX12) (T := TX12) (N := 52) hx hb hts inG_X12 tyX12 tyX12_ok nmX12 hown hK hP hD hS 0 rfl rfl 0 (by decide) (hts _ fl_X12_107) (fun _ h9 => h9) rfl (by decide +kernel) rfl rfl (Nat.le_of_ble_eq_true rfl) dX12_sooner_2 (fun H locs hP hD hS => ?_)
  refine g5_rs [(b_o, (oc12 0 u_sa b_rf b_ro b_im b_ke u_fd b_tp u_td u_fr u_to u_so u_wo u_fa u_bd u_nc b_nl u_co b_op b_ar u_le b_pi b_pa u_pd u_od b_ws b_hw u_la b_se b_re u_bk u_va u_su u_ce u_ho u_wy u_bt u_ps b_pt u_tg u_sn b_ip u_ic b_ah b_be b_me u_wd b_tr b_ld u_st b_wn u_id)), (b_ro, (arI G 5740 v_ro)), (b_se, (arJ G 13 v_se)), (b_re, (arJ G 400 v_re)), (b_pt, (arI G 200 v_pt)), (b_tr, (arZ G 1536 v_tr)), (b_ld, (arZ G 1536 v_ld))] hP hD (fun hP hD => ?_)
  refine lv_aload_n hx hb dX12_sooner_5 rfl (lv_at hl 0 rfl) ?_
  refine lv_iload_n hx hb dX12_sooner_6 rfl (lv_at hl 1 rfl) ?_
  obtain ⟨hPc, hDc, hFc⟩ := g5_sub3 (wc := [(b_o, (oc12 0 u_sa b_rf b_ro b_im b_ke u_fd b_tp u_td u_fr u_to u_so u_wo u_fa u_bd u_nc b_nl u_co b_op b_ar u_le b_pi b_pa u_pd u_od b_ws b_hw u_la b_se b_re u_bk u_va u_su u_ce u_ho u_wy u_bt u_ps b_pt u_tg u_sn b_ip u_ic b_ah b_be b_me u_wd b_tr b_ld u_st b_wn u_id)), (b_ro, (arI G 5740 v_ro))]) hP hD hS hA [0, 1] (by decide) rfl
  refine va_calli (va_runV (As := [.int p_1]) (rest := []) ⟨hx, hb, hml, hown, hts⟩ (n_isBody l G b_o b_ro b_rf b_im b_ke b_tp b_nl b_op b_ar b_pi b_pa b_ws b_hw b_se b_re b_pt b_ip b_ah b_be b_me b_tr b_ld b_wn H.size 0 u_sa u_fd u_td u_fr u_to u_so u_fa u_bd u_nc u_co u_le u_pd u_od u_la u_bk u_ce u_ho u_wy u_bt u_ps u_tg u_sn u_ic u_wd u_id p_1 u_wo u_va u_su u_st v_ro h_u_td h_u_fr h_u_to h_u_bd h_u_nc h_u_co h_u_pd h_u_la h_u_bk h_u_ce h_u_ho h_u_wy h_u_bt h_u_ps h_u_ic h_u_id (r_ro)) (cwV 1 hts gV_X12_180 rfl rfl rfl hv_X12_isBody ⟨Nat.le_of_ble_eq_true rfl, Nat.le_of_ble_eq_true rfl⟩) (g5_preV hPc hK hDc hN hT hS hFc (ci := 12) (q0 := 0) rfl rfl) rfl rfl hl.1 rfl (lv_room (Nat.le_of_ble_eq_true rfl)) dX12_sooner_7 ⟨Nat.le_of_ble_eq_true rfl, Nat.le_of_ble_eq_true rfl⟩) hS (fun q _ h => hFc q h) hFc (fun r u t H1 locs ht hvm hw hB hz1 hk1 hS => ?_)
  obtain ⟨hP1, hD1⟩ := hB
  rw [ht] at hP1
  rcases hw with ⟨i_1, rfl, rfl⟩ | ⟨rfl, rfl⟩
  ·
    have i_1 : 0 ≤ p_1.toInt ∧ p_1.toInt ≤ 4 := i_1
    obtain ⟨hP, hD⟩ := va_join (wr := [(b_se, (arJ G 13 v_se)), (b_re, (arJ G 400 v_re)), (b_pt, (arI G 200 v_pt)), (b_tr, (arZ G 1536 v_tr)), (b_ld, (arZ G 1536 v_ld))]) hP hD [0, 1] [2, 3, 4, 5, 6] rfl rfl (by decide) (by decide) hk1 hFc hP1 hD1
    generalize H1 = H at hP hS ⊢
    refine g5_rs [(b_se, (arJ G 13 v_se)), (b_re, (arJ G 400 v_re)), (b_pt, (arI G 200 v_pt)), (b_tr, (arZ G 1536 v_tr)), (b_ld, (arZ G 1536 v_ld)), (b_o, (oc12 0 u_sa b_rf b_ro b_im b_ke u_fd b_tp u_td u_fr u_to u_so u_wo u_fa u_bd u_nc b_nl u_co b_op b_ar u_le b_pi b_pa u_pd u_od b_ws b_hw u_la b_se b_re u_bk u_va u_su u_ce u_ho u_wy u_bt u_ps b_pt u_tg u_sn b_ip u_ic b_ah b_be b_me u_wd b_tr b_ld u_st b_wn u_id)), (b_ro, (arI G 5740 v_ro))] hP hD (fun hP hD => ?_)
    refine lv_if_eq (tgt := 59) hx hb dX12_sooner_10 (by decide) (fun c_2 => ?_) (fun c_2 => ?_)
    ·
      exact absurd c_2 (by decide)
    ·
      refine lv_iload_n hx hb dX12_sooner_13 rfl (lv_at hl 2 rfl) ?_
      obtain ⟨hPc, hDc, hFc⟩ := g5_sub3 (wc := []) hP hD hS hA [] (by decide) rfl
      refine va_calli (va_runS (As := [.int p_2]) (rest := []) ⟨hx, hb, hml, hown, hts⟩ (n_isCell l G H.size p_2) (va_cwS 1 hts gS_X12_138 rfl rfl rfl hs_X12_isCell ⟨Nat.le_of_ble_eq_true rfl, Nat.le_of_ble_eq_true rfl⟩) (g5_preS hPc hK hDc hN hT hS hFc) rfl rfl hl.1 rfl (lv_room (Nat.le_of_ble_eq_true rfl)) dX12_sooner_14 ⟨Nat.le_of_ble_eq_true rfl, Nat.le_of_ble_eq_true rfl⟩) hS (fun q _ h => hFc q h) hFc (fun r u t H1 locs ht hvm hw hB hz1 hk1 hS => ?_)
      obtain ⟨hP1, hD1⟩ := hB
      rw [ht] at hP1
      rcases hw with ⟨i_3, rfl, rfl⟩ | ⟨rfl, rfl⟩
      ·
        have i_3 : 0 ≤ p_2.toInt ∧ p_2.toInt ≤ 63 := i_3
        have hP := g5_same hP hk1
        generalize H1 = H at hP hS ⊢
        refine lv_if_eq (tgt := 59) hx hb dX12_sooner_17 (by decide) (fun c_4 => ?_) (fun c_4 => ?_)
        ·
          exact absurd c_4 (by decide)
        ·
          refine lv_iload_n hx hb dX12_sooner_20 rfl (lv_at hl 3 rfl) ?_
          obtain ⟨hPc, hDc, hFc⟩ := g5_sub3 (wc := []) hP hD hS hA [] (by decide) rfl
          refine va_calli (va_runS (As := [.int p_3]) (rest := []) ⟨hx, hb, hml, hown, hts⟩ (n_isHour l G H.size p_3) (va_cwS 1 hts gS_X12_175 rfl rfl rfl hs_X12_isHour ⟨Nat.le_of_ble_eq_true rfl, Nat.le_of_ble_eq_true rfl⟩) (g5_preS hPc hK hDc hN hT hS hFc) rfl rfl hl.1 rfl (lv_room (Nat.le_of_ble_eq_true rfl)) dX12_sooner_21 ⟨Nat.le_of_ble_eq_true rfl, Nat.le_of_ble_eq_true rfl⟩) hS (fun q _ h => hFc q h) hFc (fun r u t H1 locs ht hvm hw hB hz1 hk1 hS => ?_)
          obtain ⟨hP1, hD1⟩ := hB
          rw [ht] at hP1
          rcases hw with ⟨i_5, rfl, rfl⟩ | ⟨rfl, rfl⟩
          ·
            have i_5 : 0 ≤ p_3.toInt ∧ p_3.toInt ≤ 23 := i_5
            have hP := g5_same hP hk1
            generalize H1 = H at hP hS ⊢
            refine lv_if_eq (tgt := 59) hx hb dX12_sooner_24 (by decide) (fun c_6 => ?_) (fun c_6 => ?_)
            ·
              exact absurd c_6 (by decide)
            ·
              refine lv_iload hx hb dX12_sooner_27 (lv_at hl 4 rfl) ?_
              refine lv_i2l (v := p_4.toInt64) hx hb dX12_sooner_29 rfl ?_
              refine lv_lconst (v := 0) hx hb dX12_sooner_30 (by decide) ?_
              refine lv_ldc2 (v := 2) hx hb hown (hts _ kl_X12_411) dX12_sooner_31 ?_
              obtain ⟨hPc, hDc, hFc⟩ := g5_sub3 (wc := []) hP hD hS hA [] (by decide) rfl
              refine va_calli (va_runS (As := [.long p_4.toInt64, .long 0, .long 2]) (rest := []) ⟨hx, hb, hml, hown, hts⟩ (n_in_0_2 l G H.size p_4) (va_cwS 3 hts gS_X12_121 rfl rfl rfl hs_X12_in ⟨Nat.le_of_ble_eq_true rfl, Nat.le_of_ble_eq_true rfl⟩) (g5_preS hPc hK hDc hN hT hS hFc) rfl rfl hl.1 rfl (lv_room (Nat.le_of_ble_eq_true rfl)) dX12_sooner_34 ⟨Nat.le_of_ble_eq_true rfl, Nat.le_of_ble_eq_true rfl⟩) hS (fun q _ h => hFc q h) hFc (fun r u t H1 locs ht hvm hw hB hz1 hk1 hS => ?_)
              obtain ⟨hP1, hD1⟩ := hB
              rw [ht] at hP1
              rcases hw with ⟨i_7, rfl, rfl⟩ | ⟨i_8, rfl, rfl⟩
              ·
                have i_7 : p_4.toInt < 0 ∨ 2 < p_4.toInt := i_7
                have hP := g5_same hP hk1
                generalize H1 = H at hP hS ⊢
                refine lv_if_eq (tgt := 59) hx hb dX12_sooner_37 (by decide) (fun c_9 => ?_) (fun c_9 => ?_)
                ·
                  refine lv_iconst (v := (-1)) hx hb dX12_sooner_59 (by decide) ?_
                  exact W.iret (v := (-1)) hx hb hr (fun t ht hW => ⟨⟨(-1), [(b_o, (oc12 0 u_sa b_rf b_ro b_im b_ke u_fd b_tp u_td u_fr u_to u_so u_wo u_fa u_bd u_nc b_nl u_co b_op b_ar u_le b_pi b_pa u_pd u_od b_ws b_hw u_la b_se b_re u_bk u_va u_su u_ce u_ho u_wy u_bt u_ps b_pt u_tg u_sn b_ip u_ic b_ah b_be b_me u_wd b_tr b_ld u_st b_wn u_id)), (b_ro, (arI G 5740 v_ro)), (b_se, (arJ G 13 v_se)), (b_re, (arJ G 400 v_re)), (b_pt, (arI G 200 v_pt)), (b_tr, (arZ G 1536 v_tr)), (b_ld, (arZ G 1536 v_ld))], rfl, ⟨(-1), 0, u_la, u_bk, u_va, u_su, u_ce, u_ho, u_wy, u_bt, u_ps, u_tg, u_sn, v_ro, v_se, v_re, v_pt, v_tr, v_ld, r_ro, h_u_la, h_u_bk, h_u_ce, h_u_ho, h_u_wy, h_u_bt, h_u_ps, r_pt, rfl, rfl, rfl⟩, by rw [ht]; exact hP.sub [5, 6, 0, 1, 2, 3, 4] rfl, hD.sub [5, 6, 0, 1, 2, 3, 4] (by decide) rfl⟩, hS.F ht⟩) hS.2.2 dX12_sooner_60
                ·
                  exact absurd c_9 (by decide)
              ·
                have i_8 : 0 ≤ p_4.toInt ∧ p_4.toInt ≤ 2 := i_8
                have hP := g5_same hP hk1
                generalize H1 = H at hP hS ⊢
                refine lv_if_eq (tgt := 59) hx hb dX12_sooner_37 (by decide) (fun c_10 => ?_) (fun c_10 => ?_)
                ·
                  exact absurd c_10 (by decide)
                ·
                  refine lv_aload_n hx hb dX12_sooner_40 rfl (lv_at hl 0 rfl) ?_
                  refine lv_iload_n hx hb dX12_sooner_41 rfl (lv_at hl 2 rfl) ?_
                  obtain ⟨hPc, hDc, hFc⟩ := g5_sub3 (wc := []) hP hD hS hA [] (by decide) rfl
                  refine va_calli (va_runS (As := [.int p_2]) (rest := [.ref b_o]) ⟨hx, hb, hml, hown, hts⟩ (n_isCell l G H.size p_2) (va_cwS 1 hts gS_X12_138 rfl rfl rfl hs_X12_isCell ⟨Nat.le_of_ble_eq_true rfl, Nat.le_of_ble_eq_true rfl⟩) (g5_preS hPc hK hDc hN hT hS hFc) rfl rfl hl.1 rfl (lv_room (Nat.le_of_ble_eq_true rfl)) dX12_sooner_42 ⟨Nat.le_of_ble_eq_true rfl, Nat.le_of_ble_eq_true rfl⟩) hS (fun q _ h => hFc q h) hFc (fun r u t H1 locs ht hvm hw hB hz1 hk1 hS => ?_)
                  obtain ⟨hP1, hD1⟩ := hB
                  rw [ht] at hP1
                  rcases hw with ⟨i_11, rfl, rfl⟩ | ⟨rfl, rfl⟩
                  ·
                    have i_11 : 0 ≤ p_2.toInt ∧ p_2.toInt ≤ 63 := i_11
                    have hP := g5_same hP hk1
                    generalize H1 = H at hP hS ⊢
                    refine lv_if_eq (tgt := 52) hx hb dX12_sooner_45 (by decide) (fun c_12 => ?_) (fun c_12 => ?_)
                    ·
                      exact absurd c_12 (by decide)
                    ·
                      refine lv_iload_n hx hb dX12_sooner_48 rfl (lv_at hl 2 rfl) ?_
                      refine lv_goto (tgt := 53) hx hb dX12_sooner_49 (by decide) ?_
                      obtain ⟨hPc, hDc, hFc⟩ := g5_sub3 (wc := [(b_o, (oc12 0 u_sa b_rf b_ro b_im b_ke u_fd b_tp u_td u_fr u_to u_so u_wo u_fa u_bd u_nc b_nl u_co b_op b_ar u_le b_pi b_pa u_pd u_od b_ws b_hw u_la b_se b_re u_bk u_va u_su u_ce u_ho u_wy u_bt u_ps b_pt u_tg u_sn b_ip u_ic b_ah b_be b_me u_wd b_tr b_ld u_st b_wn u_id)), (b_ro, (arI G 5740 v_ro))]) hP hD hS hA [5, 6] (by decide) rfl
                      refine va_calli (va_runV (As := [.int p_2]) (rest := []) ⟨hx, hb, hml, hown, hts⟩ (n_isWall l G b_o b_ro b_rf b_im b_ke b_tp b_nl b_op b_ar b_pi b_pa b_ws b_hw b_se b_re b_pt b_ip b_ah b_be b_me b_tr b_ld b_wn H.size 0 u_sa u_fd u_td u_fr u_to u_so u_fa u_bd u_nc u_co u_le u_pd u_od u_la u_bk u_ce u_ho u_wy u_bt u_ps u_tg u_sn u_ic u_wd u_id p_2 u_wo u_va u_su u_st v_ro h_u_td h_u_fr h_u_to h_u_bd h_u_nc h_u_co h_u_pd h_u_la h_u_bk h_u_ce h_u_ho h_u_wy h_u_bt h_u_ps h_u_ic h_u_id i_11 (r_ro)) (cwV 1 hts gV_X12_160 rfl rfl rfl hv_X12_isWall ⟨Nat.le_of_ble_eq_true rfl, Nat.le_of_ble_eq_true rfl⟩) (g5_preV hPc hK hDc hN hT hS hFc (ci := 12) (q0 := 0) rfl rfl) rfl rfl hl.1 rfl (lv_room (Nat.le_of_ble_eq_true rfl)) dX12_sooner_53 ⟨Nat.le_of_ble_eq_true rfl, Nat.le_of_ble_eq_true rfl⟩) hS (fun q _ h => hFc q h) hFc (fun r u t H1 locs ht hvm hw hB hz1 hk1 hS => ?_)
                      obtain ⟨hP1, hD1⟩ := hB
                      rw [ht] at hP1
                      obtain ⟨z14, i_13, y15, rfl⟩ := hw
                      have i_13 : 0 ≤ z14.toInt ∧ z14.toInt ≤ 1 := i_13
                      obtain ⟨hP, hD⟩ := va_join (wr := [(b_se, (arJ G 13 v_se)), (b_re, (arJ G 400 v_re)), (b_pt, (arI G 200 v_pt)), (b_tr, (arZ G 1536 v_tr)), (b_ld, (arZ G 1536 v_ld))]) hP hD [5, 6] [0, 1, 2, 3, 4] rfl rfl (by decide) (by decide) hk1 hFc hP1 hD1
                      generalize H1 = H at hP hS ⊢
                      refine g5_rs [(b_se, (arJ G 13 v_se)), (b_re, (arJ G 400 v_re)), (b_pt, (arI G 200 v_pt)), (b_tr, (arZ G 1536 v_tr)), (b_ld, (arZ G 1536 v_ld)), (b_o, (oc12 0 u_sa b_rf b_ro b_im b_ke u_fd b_tp u_td u_fr u_to u_so u_wo u_fa u_bd u_nc b_nl u_co b_op b_ar u_le b_pi b_pa u_pd u_od b_ws b_hw u_la b_se b_re u_bk u_va u_su u_ce u_ho u_wy u_bt u_ps b_pt u_tg u_sn b_ip u_ic b_ah b_be b_me u_wd b_tr b_ld u_st b_wn u_id)), (b_ro, (arI G 5740 v_ro))] hP hD (fun hP hD => ?_)
                      refine g5_ti (v := z14) y15 ?_
                      refine lv_if_eq (tgt := 61) hx hb dX12_sooner_56 (by decide) (fun c_16 => ?_) (fun c_16 => ?_)
                      ·
                        have i_16 : z14.toInt = 0 := by have z := g5_eq (a := z14.toInt) (b := 0) (by rfl) (by decide) c_16; omega
                        refine lv_aload_n hx hb dX12_sooner_61 rfl (lv_at hl 0 rfl) ?_
                        refine lv_iload_n hx hb dX12_sooner_62 rfl (lv_at hl 1 rfl) ?_
                        refine lv_iload_n hx hb dX12_sooner_63 rfl (lv_at hl 2 rfl) ?_
                        refine lv_iload_n hx hb dX12_sooner_64 rfl (lv_at hl 3 rfl) ?_
                        obtain ⟨hPc, hDc, hFc⟩ := g5_sub3 (wc := [(b_o, (oc12 0 u_sa b_rf b_ro b_im b_ke u_fd b_tp u_td u_fr u_to u_so u_wo u_fa u_bd u_nc b_nl u_co b_op b_ar u_le b_pi b_pa u_pd u_od b_ws b_hw u_la b_se b_re u_bk u_va u_su u_ce u_ho u_wy u_bt u_ps b_pt u_tg u_sn b_ip u_ic b_ah b_be b_me u_wd b_tr b_ld u_st b_wn u_id)), (b_ro, (arI G 5740 v_ro)), (b_se, (arJ G 13 v_se)), (b_re, (arJ G 400 v_re)), (b_pt, (arI G 200 v_pt)), (b_tr, (arZ G 1536 v_tr)), (b_ld, (arZ G 1536 v_ld))]) hP hD hS hA [5, 6, 0, 1, 2, 3, 4] (by decide) rfl
                        refine va_calli (va_runV (As := [.int p_1, .int p_2, .int p_3]) (rest := []) ⟨hx, hb, hml, hown, hts⟩ (n_findSoonest l G b_o b_ro b_se b_re b_pt b_tr b_ld b_rf b_im b_ke b_tp b_nl b_op b_ar b_pi b_pa b_ws b_hw b_ip b_ah b_be b_me b_wn H.size 0 u_sa u_fd u_td u_fr u_to u_so u_fa u_bd u_nc u_co u_le u_pd u_od u_la u_bk u_ce u_ho u_wy u_bt u_ps u_tg u_sn u_ic u_wd u_id p_1 p_2 p_3 u_wo u_va u_su u_st v_ro v_se v_re v_pt v_tr v_ld h_u_td h_u_fr h_u_to h_u_bd h_u_nc h_u_co h_u_pd h_u_la h_u_bk h_u_ce h_u_ho h_u_wy h_u_bt h_u_ps h_u_ic h_u_id i_11 i_5 (r_ro) (r_pt)) (cwV 3 hts gV_X12_466 rfl rfl rfl hv_X12_findSoonest ⟨Nat.le_of_ble_eq_true rfl, Nat.le_of_ble_eq_true rfl⟩) (g5_preV hPc hK hDc hN hT hS hFc (ci := 12) (q0 := 0) rfl rfl) rfl rfl hl.1 rfl (lv_room (Nat.le_of_ble_eq_true rfl)) dX12_sooner_65 ⟨Nat.le_of_ble_eq_true rfl, Nat.le_of_ble_eq_true rfl⟩) hS (fun q _ h => hFc q h) hFc (fun r u t H1 locs ht hvm hw hB hz1 hk1 hS => ?_)
                        obtain ⟨hP1, hD1⟩ := hB
                        rw [ht] at hP1
                        obtain ⟨z26, z27, z28, z29, z30, z31, z32, z33, z34, z35, z36, z37, z38, z39, z40, z41, z42, i_17, i_18, i_19, i_20, i_21, i_22, i_23, i_24, i_25, y43, rfl⟩ := hw
                        have i_17 : (-1) ≤ z26.toInt ∧ z26.toInt ≤ 23 := i_17
                        have i_18 : 0 ≤ z27.toInt ∧ z27.toInt ≤ 4840 := i_18
                        have i_19 : 0 ≤ z28.toInt ∧ z28.toInt ≤ 1 := i_19
                        have i_20 : 0 ≤ z31.toInt ∧ z31.toInt ≤ 63 := i_20
                        have i_21 : 0 ≤ z32.toInt ∧ z32.toInt ≤ 23 := i_21
                        have i_22 : 0 ≤ z33.toInt ∧ z33.toInt ≤ 3 := i_22
                        have i_23 : 0 ≤ z34.toInt ∧ z34.toInt ≤ 1000000 := i_23
                        have i_24 : 0 ≤ z35.toInt ∧ z35.toInt ≤ 200 := i_24
                        have i_25 : PTI z40 := i_25
                        obtain ⟨hP, hD⟩ := va_join (wr := []) hP hD [5, 6, 0, 1, 2, 3, 4] [] rfl rfl (by decide) (by decide) hk1 hFc hP1 hD1
                        generalize H1 = H at hP hS ⊢
                        refine g5_rs [(b_o, (oc12 0 u_sa b_rf b_ro b_im b_ke u_fd b_tp u_td u_fr u_to u_so u_wo u_fa u_bd u_nc b_nl u_co b_op b_ar u_le b_pi b_pa u_pd u_od b_ws b_hw z27 b_se b_re z28 z29 z30 z31 z32 z33 z34 z35 b_pt z36 z37 b_ip u_ic b_ah b_be b_me u_wd b_tr b_ld u_st b_wn u_id)), (b_ro, (arI G 5740 v_ro)), (b_se, (arJ G 13 z38)), (b_re, (arJ G 400 z39)), (b_pt, (arI G 200 z40)), (b_tr, (arZ G 1536 z41)), (b_ld, (arZ G 1536 z42))] hP hD (fun hP hD => ?_)
                        refine g5_ti (v := z26) y43 ?_
                        refine lv_istore (lv' := [(5, .int z26), (0, .ref b_o), (1, .int p_1), (2, .int p_2), (3, .int p_3), (4, .int p_4)]) hx hb dX12_sooner_68 hl (by decide) rfl (fun ls hl => ?_)
                        refine lv_iload hx hb dX12_sooner_70 (lv_at hl 0 rfl) ?_
                        refine lv_iconst (v := (-1)) hx hb dX12_sooner_72 (by decide) ?_
                        refine lv_icmp_ne (tgt := 81) hx hb dX12_sooner_73 (by decide) (fun c_44 => ?_) (fun c_44 => ?_)
                        ·
                          have n_44 : gNe (z26.toInt) ((-1)) := by have z := g5_ne (a := z26.toInt) (b := (-1)) (by rfl) (by decide) c_44; unfold gNe; omega
                          have i_44 : z26.toInt ≥ 0 := by have z := g5_ne (a := z26.toInt) (b := (-1)) (by rfl) (by decide) c_44; omega
                          refine lv_iload hx hb dX12_sooner_81 (lv_at hl 0 rfl) ?_
                          refine lv_istore (lv' := [(6, .int z26), (5, .int z26), (0, .ref b_o), (1, .int p_1), (2, .int p_2), (3, .int p_3), (4, .int p_4)]) hx hb dX12_sooner_83 hl (by decide) rfl (fun ls hl => ?_)
                          refine lv_iconst (v := (-1)) hx hb dX12_sooner_85 (by decide) ?_
                          refine lv_istore (lv' := [(7, .int (-1)), (6, .int z26), (5, .int z26), (0, .ref b_o), (1, .int p_1), (2, .int p_2), (3, .int p_3), (4, .int p_4)]) hx hb dX12_sooner_86 hl (by decide) rfl (fun ls hl => ?_)
                          refine lv_iconst (v := 0) hx hb dX12_sooner_88 (by decide) ?_
                          refine lv_istore (lv' := [(8, .int 0), (7, .int (-1)), (6, .int z26), (5, .int z26), (0, .ref b_o), (1, .int p_1), (2, .int p_2), (3, .int p_3), (4, .int p_4)]) hx hb dX12_sooner_89 hl (by decide) rfl (fun ls hl => ?_)
                          refine g5_loop (α := (Int32) × (Int32) × (Int32) × (Int32) × (Int32) × (Int64) × (Int64) × (Int32) × (Int32) × (Int32) × (Int32) × (Int32) × (Int32) × (Int32) × (Nat → Int32) × (Nat → Int64) × (Nat → Int64) × (Nat → Int32) × (Nat → Int32) × (Nat → Int32)) (fun (q : (Int32) × (Int32) × (Int32) × (Int32) × (Int32) × (Int64) × (Int64) × (Int32) × (Int32) × (Int32) × (Int32) × (Int32) × (Int32) × (Int32) × (Nat → Int32) × (Nat → Int64) × (Nat → Int64) × (Nat → Int32) × (Nat → Int32) × (Nat → Int32)) (ls : Array Slot) (H : Heap) (locs : List Loc) => match q with | (k91_8, k91_7, k91_6, k91_la, k91_bk, k91_va, k91_su, k91_ce, k91_ho, k91_wy, k91_bt, k91_ps, k91_tg, k91_sn, k91_ro, k91_se, k91_re, k91_pt, k91_tr, k91_ld) => lv_has ls 12 [(6, .int k91_6), (7, .int k91_7), (8, .int k91_8), (5, .int z26), (0, .ref b_o), (1, .int p_1), (2, .int p_2), (3, .int p_3), (4, .int p_4)] ∧ va_P G.1 vwCl [(b_o, (oc12 0 u_sa b_rf b_ro b_im b_ke u_fd b_tp u_td u_fr u_to u_so u_wo u_fa u_bd u_nc b_nl u_co b_op b_ar u_le b_pi b_pa u_pd u_od b_ws b_hw k91_la b_se b_re k91_bk k91_va k91_su k91_ce k91_ho k91_wy k91_bt k91_ps b_pt k91_tg k91_sn b_ip u_ic b_ah b_be b_me u_wd b_tr b_ld u_st b_wn u_id)), (b_ro, (arI G 5740 k91_ro)), (b_se, (arJ G 13 k91_se)), (b_re, (arJ G 400 k91_re)), (b_pt, (arI G 200 k91_pt)), (b_tr, (arZ G 1536 k91_tr)), (b_ld, (arZ G 1536 k91_ld))] H ∧ va_D A [(b_o, (oc12 0 u_sa b_rf b_ro b_im b_ke u_fd b_tp u_td u_fr u_to u_so u_wo u_fa u_bd u_nc b_nl u_co b_op b_ar u_le b_pi b_pa u_pd u_od b_ws b_hw k91_la b_se b_re k91_bk k91_va k91_su k91_ce k91_ho k91_wy k91_bt k91_ps b_pt k91_tg k91_sn b_ip u_ic b_ah b_be b_me u_wd b_tr b_ld u_st b_wn u_id)), (b_ro, (arI G 5740 k91_ro)), (b_se, (arJ G 13 k91_se)), (b_re, (arJ G 400 k91_re)), (b_pt, (arI G 200 k91_pt)), (b_tr, (arZ G 1536 k91_tr)), (b_ld, (arZ G 1536 k91_ld))] ∧ va_S A s.heap H locs ∧ (0 ≤ k91_8.toInt ∧ k91_8.toInt ≤ 6) ∧ (0 ≤ k91_6.toInt ∧ k91_6.toInt ≤ 24) ∧ (0 ≤ k91_la.toInt ∧ k91_la.toInt ≤ 4840) ∧ (0 ≤ k91_bk.toInt ∧ k91_bk.toInt ≤ 1) ∧ (0 ≤ k91_ce.toInt ∧ k91_ce.toInt ≤ 63) ∧ (0 ≤ k91_ho.toInt ∧ k91_ho.toInt ≤ 23) ∧ (0 ≤ k91_wy.toInt ∧ k91_wy.toInt ≤ 3) ∧ (0 ≤ k91_bt.toInt ∧ k91_bt.toInt ≤ 1000000) ∧ (0 ≤ k91_ps.toInt ∧ k91_ps.toInt ≤ 200) ∧ (MI k91_ro) ∧ (PTI k91_pt) ∧ (k91_ro = v_ro)) (fun (q : (Int32) × (Int32) × (Int32) × (Int32) × (Int32) × (Int64) × (Int64) × (Int32) × (Int32) × (Int32) × (Int32) × (Int32) × (Int32) × (Int32) × (Nat → Int32) × (Nat → Int64) × (Nat → Int64) × (Nat → Int32) × (Nat → Int32) × (Nat → Int32)) => match q with | (k91_8, k91_7, k91_6, k91_la, k91_bk, k91_va, k91_su, k91_ce, k91_ho, k91_wy, k91_bt, k91_ps, k91_tg, k91_sn, k91_ro, k91_se, k91_re, k91_pt, k91_tr, k91_ld) => Int.toNat (6 - k91_8.toInt)) (0, (-1), z26, z27, z28, z29, z30, z31, z32, z33, z34, z35, z36, z37, v_ro, z38, z39, z40, z41, z42) ⟨lv_sub hl [2, 1, 0, 3, 4, 5, 6, 7, 8] rfl, hP, hD, hS, ⟨by decide, by decide⟩, ⟨by omega, by omega⟩, i_18, i_19, i_20, i_21, i_22, i_23, i_24, r_ro, i_25, rfl⟩ ?_
                          rintro ⟨k91_8, k91_7, k91_6, k91_la, k91_bk, k91_va, k91_su, k91_ce, k91_ho, k91_wy, k91_bt, k91_ps, k91_tg, k91_sn, k91_ro, k91_se, k91_re, k91_pt, k91_tr, k91_ld⟩ ls H locs ⟨hl, hP, hD, hS, i_45, i_46, i_47, i_48, i_49, i_50, i_51, i_52, i_53, i_54, i_55, i_56⟩ ih_91_57
                          have hl : lv_has ls 12 [(6, .int k91_6), (7, .int k91_7), (8, .int k91_8), (5, .int z26), (0, .ref b_o), (1, .int p_1), (2, .int p_2), (3, .int p_3), (4, .int p_4)] := hl
                          have i_45 : 0 ≤ k91_8.toInt ∧ k91_8.toInt ≤ 6 := i_45
                          have i_46 : 0 ≤ k91_6.toInt ∧ k91_6.toInt ≤ 24 := i_46
                          have i_47 : 0 ≤ k91_la.toInt ∧ k91_la.toInt ≤ 4840 := i_47
                          have i_48 : 0 ≤ k91_bk.toInt ∧ k91_bk.toInt ≤ 1 := i_48
                          have i_49 : 0 ≤ k91_ce.toInt ∧ k91_ce.toInt ≤ 63 := i_49
                          have i_50 : 0 ≤ k91_ho.toInt ∧ k91_ho.toInt ≤ 23 := i_50
                          have i_51 : 0 ≤ k91_wy.toInt ∧ k91_wy.toInt ≤ 3 := i_51
                          have i_52 : 0 ≤ k91_bt.toInt ∧ k91_bt.toInt ≤ 1000000 := i_52
                          have i_53 : 0 ≤ k91_ps.toInt ∧ k91_ps.toInt ≤ 200 := i_53
                          have i_54 : MI k91_ro := i_54
                          have i_55 : PTI k91_pt := i_55
                          have i_56 : k91_ro = v_ro := i_56
                          refine g5_rs [(b_o, (oc12 0 u_sa b_rf b_ro b_im b_ke u_fd b_tp u_td u_fr u_to u_so u_wo u_fa u_bd u_nc b_nl u_co b_op b_ar u_le b_pi b_pa u_pd u_od b_ws b_hw k91_la b_se b_re k91_bk k91_va k91_su k91_ce k91_ho k91_wy k91_bt k91_ps b_pt k91_tg k91_sn b_ip u_ic b_ah b_be b_me u_wd b_tr b_ld u_st b_wn u_id)), (b_ro, (arI G 5740 k91_ro)), (b_se, (arJ G 13 k91_se)), (b_re, (arJ G 400 k91_re)), (b_pt, (arI G 200 k91_pt)), (b_tr, (arZ G 1536 k91_tr)), (b_ld, (arZ G 1536 k91_ld))] hP hD (fun hP hD => ?_)
                          refine lv_iload hx hb dX12_sooner_91 (lv_at hl 2 rfl) ?_
                          refine lv_aload_n hx hb dX12_sooner_93 rfl (lv_at hl 4 rfl) ?_
                          refine va_get (D := G.1) (ci := 12) (v := .ref b_ro) (C := RX12) (T := TX12) (N := 52) hx hb hts inG_X12 hown hK hP 0 rfl rfl 3 (by decide) (hts _ fl_X12_13) (fun _ h9 => h9) rfl dX12_sooner_94 ?_
                          refine lv_iconst (v := 0) hx hb dX12_sooner_97 (by decide) ?_
                          refine va_iald hx hb hK hP 1 0 rfl rfl (i := 0) (by unfold vp_in; decide) dX12_sooner_98 ?_
                          refine g5_ti (v := (k91_ro 0)) rfl ?_
                          have hr_58 : 0 ≤ (k91_ro 0).toInt ∧ (k91_ro 0).toInt ≤ 6 := mi_0 i_54
                          refine lv_icmp_ge (tgt := 235) hx hb dX12_sooner_99 (by decide) (fun c_59 => ?_) (fun c_59 => ?_)
                          ·
                            have i_59 : k91_8.toInt ≥ (k91_ro 0).toInt := by have z := g5_ge (a := k91_8.toInt) (b := (k91_ro 0).toInt) (by rfl) (by rfl) c_59; omega
                            refine lv_iload hx hb dX12_sooner_235 (lv_at hl 1 rfl) ?_
                            refine lv_iconst (v := (-1)) hx hb dX12_sooner_237 (by decide) ?_
                            refine lv_icmp_ne (tgt := 245) hx hb dX12_sooner_238 (by decide) (fun c_60 => ?_) (fun c_60 => ?_)
                            ·
                              have n_60 : gNe (k91_7.toInt) ((-1)) := by have z := g5_ne (a := k91_7.toInt) (b := (-1)) (by rfl) (by decide) c_60; unfold gNe; omega
                              refine lv_iload hx hb dX12_sooner_245 (lv_at hl 8 rfl) ?_
                              refine lv_if_ne (tgt := 255) hx hb dX12_sooner_247 (by decide) (fun c_61 => ?_) (fun c_61 => ?_)
                              ·
                                have n_61 : gNe (p_4.toInt) (0) := by have z := g5_ne (a := p_4.toInt) (b := 0) (by rfl) (by decide) c_61; unfold gNe; omega
                                have i_61 : p_4.toInt ≥ 1 := by have z := g5_ne (a := p_4.toInt) (b := 0) (by rfl) (by decide) c_61; omega
                                refine lv_iload hx hb dX12_sooner_255 (lv_at hl 8 rfl) ?_
                                refine lv_iconst (v := 1) hx hb dX12_sooner_257 (by decide) ?_
                                refine lv_icmp_ne (tgt := 269) hx hb dX12_sooner_258 (by decide) (fun c_62 => ?_) (fun c_62 => ?_)
                                ·
                                  have n_62 : gNe (p_4.toInt) (1) := by have z := g5_ne (a := p_4.toInt) (b := 1) (by rfl) (by decide) c_62; unfold gNe; omega
                                  have i_62 : p_4.toInt ≥ 2 := by have z := g5_ne (a := p_4.toInt) (b := 1) (by rfl) (by decide) c_62; omega
                                  refine lv_iload hx hb dX12_sooner_269 (lv_at hl 1 rfl) ?_
                                  refine lv_bipush (v := 6) hx hb dX12_sooner_271 (by decide) ?_
                                  refine lv_irem hx hb dX12_sooner_273 (by decide) ?_
                                  exact W.iret (v := (k91_7 - k91_7 / 6 * 6)) hx hb hr (fun t ht hW => ⟨⟨(k91_7 - k91_7 / 6 * 6), [(b_o, (oc12 0 u_sa b_rf b_ro b_im b_ke u_fd b_tp u_td u_fr u_to u_so u_wo u_fa u_bd u_nc b_nl u_co b_op b_ar u_le b_pi b_pa u_pd u_od b_ws b_hw k91_la b_se b_re k91_bk k91_va k91_su k91_ce k91_ho k91_wy k91_bt k91_ps b_pt k91_tg k91_sn b_ip u_ic b_ah b_be b_me u_wd b_tr b_ld u_st b_wn u_id)), (b_ro, (arI G 5740 k91_ro)), (b_se, (arJ G 13 k91_se)), (b_re, (arJ G 400 k91_re)), (b_pt, (arI G 200 k91_pt)), (b_tr, (arZ G 1536 k91_tr)), (b_ld, (arZ G 1536 k91_ld))], rfl, ⟨(k91_7 - k91_7 / 6 * 6), 0, k91_la, k91_bk, k91_va, k91_su, k91_ce, k91_ho, k91_wy, k91_bt, k91_ps, k91_tg, k91_sn, k91_ro, k91_se, k91_re, k91_pt, k91_tr, k91_ld, i_54, i_47, i_48, i_49, i_50, i_51, i_52, i_53, i_55, i_56, rfl, rfl⟩, by rw [ht]; exact hP.sub [0, 1, 2, 3, 4, 5, 6] rfl, hD.sub [0, 1, 2, 3, 4, 5, 6] (by decide) rfl⟩, hS.F ht⟩) hS.2.2 dX12_sooner_274
                                ·
                                  have i_62 : p_4.toInt = 1 := by have z := g5_neN (a := p_4.toInt) (b := 1) (by rfl) (by decide) c_62; omega
                                  refine lv_iload hx hb dX12_sooner_261 (lv_at hl 1 rfl) ?_
                                  refine lv_bipush (v := 6) hx hb dX12_sooner_263 (by decide) ?_
                                  refine lv_idiv hx hb dX12_sooner_265 (by decide) ?_
                                  refine lv_goto (tgt := 274) hx hb dX12_sooner_266 (by decide) ?_
                                  exact W.iret (v := (k91_7 / 6)) hx hb hr (fun t ht hW => ⟨⟨(k91_7 / 6), [(b_o, (oc12 0 u_sa b_rf b_ro b_im b_ke u_fd b_tp u_td u_fr u_to u_so u_wo u_fa u_bd u_nc b_nl u_co b_op b_ar u_le b_pi b_pa u_pd u_od b_ws b_hw k91_la b_se b_re k91_bk k91_va k91_su k91_ce k91_ho k91_wy k91_bt k91_ps b_pt k91_tg k91_sn b_ip u_ic b_ah b_be b_me u_wd b_tr b_ld u_st b_wn u_id)), (b_ro, (arI G 5740 k91_ro)), (b_se, (arJ G 13 k91_se)), (b_re, (arJ G 400 k91_re)), (b_pt, (arI G 200 k91_pt)), (b_tr, (arZ G 1536 k91_tr)), (b_ld, (arZ G 1536 k91_ld))], rfl, ⟨(k91_7 / 6), 0, k91_la, k91_bk, k91_va, k91_su, k91_ce, k91_ho, k91_wy, k91_bt, k91_ps, k91_tg, k91_sn, k91_ro, k91_se, k91_re, k91_pt, k91_tr, k91_ld, i_54, i_47, i_48, i_49, i_50, i_51, i_52, i_53, i_55, i_56, rfl, rfl⟩, by rw [ht]; exact hP.sub [0, 1, 2, 3, 4, 5, 6] rfl, hD.sub [0, 1, 2, 3, 4, 5, 6] (by decide) rfl⟩, hS.F ht⟩) hS.2.2 dX12_sooner_274
                              ·
                                have i_61 : p_4.toInt = 0 := by have z := g5_neN (a := p_4.toInt) (b := 0) (by rfl) (by decide) c_61; omega
                                refine lv_iload hx hb dX12_sooner_250 (lv_at hl 0 rfl) ?_
                                refine lv_goto (tgt := 274) hx hb dX12_sooner_252 (by decide) ?_
                                exact W.iret (v := k91_6) hx hb hr (fun t ht hW => ⟨⟨k91_6, [(b_o, (oc12 0 u_sa b_rf b_ro b_im b_ke u_fd b_tp u_td u_fr u_to u_so u_wo u_fa u_bd u_nc b_nl u_co b_op b_ar u_le b_pi b_pa u_pd u_od b_ws b_hw k91_la b_se b_re k91_bk k91_va k91_su k91_ce k91_ho k91_wy k91_bt k91_ps b_pt k91_tg k91_sn b_ip u_ic b_ah b_be b_me u_wd b_tr b_ld u_st b_wn u_id)), (b_ro, (arI G 5740 k91_ro)), (b_se, (arJ G 13 k91_se)), (b_re, (arJ G 400 k91_re)), (b_pt, (arI G 200 k91_pt)), (b_tr, (arZ G 1536 k91_tr)), (b_ld, (arZ G 1536 k91_ld))], rfl, ⟨k91_6, 0, k91_la, k91_bk, k91_va, k91_su, k91_ce, k91_ho, k91_wy, k91_bt, k91_ps, k91_tg, k91_sn, k91_ro, k91_se, k91_re, k91_pt, k91_tr, k91_ld, i_54, i_47, i_48, i_49, i_50, i_51, i_52, i_53, i_55, i_56, rfl, rfl⟩, by rw [ht]; exact hP.sub [0, 1, 2, 3, 4, 5, 6] rfl, hD.sub [0, 1, 2, 3, 4, 5, 6] (by decide) rfl⟩, hS.F ht⟩) hS.2.2 dX12_sooner_274
                            ·
                              have i_60 : k91_7.toInt = (-1) := by have z := g5_neN (a := k91_7.toInt) (b := (-1)) (by rfl) (by decide) c_60; omega
                              refine lv_iconst (v := (-1)) hx hb dX12_sooner_241 (by decide) ?_
                              refine lv_goto (tgt := 274) hx hb dX12_sooner_242 (by decide) ?_
                              exact W.iret (v := (-1)) hx hb hr (fun t ht hW => ⟨⟨(-1), [(b_o, (oc12 0 u_sa b_rf b_ro b_im b_ke u_fd b_tp u_td u_fr u_to u_so u_wo u_fa u_bd u_nc b_nl u_co b_op b_ar u_le b_pi b_pa u_pd u_od b_ws b_hw k91_la b_se b_re k91_bk k91_va k91_su k91_ce k91_ho k91_wy k91_bt k91_ps b_pt k91_tg k91_sn b_ip u_ic b_ah b_be b_me u_wd b_tr b_ld u_st b_wn u_id)), (b_ro, (arI G 5740 k91_ro)), (b_se, (arJ G 13 k91_se)), (b_re, (arJ G 400 k91_re)), (b_pt, (arI G 200 k91_pt)), (b_tr, (arZ G 1536 k91_tr)), (b_ld, (arZ G 1536 k91_ld))], rfl, ⟨(-1), 0, k91_la, k91_bk, k91_va, k91_su, k91_ce, k91_ho, k91_wy, k91_bt, k91_ps, k91_tg, k91_sn, k91_ro, k91_se, k91_re, k91_pt, k91_tr, k91_ld, i_54, i_47, i_48, i_49, i_50, i_51, i_52, i_53, i_55, i_56, rfl, rfl⟩, by rw [ht]; exact hP.sub [0, 1, 2, 3, 4, 5, 6] rfl, hD.sub [0, 1, 2, 3, 4, 5, 6] (by decide) rfl⟩, hS.F ht⟩) hS.2.2 dX12_sooner_274
                          ·
                            have i_59 : k91_8.toInt < (k91_ro 0).toInt := by have z := g5_geN (a := k91_8.toInt) (b := (k91_ro 0).toInt) (by rfl) (by rfl) c_59; omega
                            refine lv_aload_n hx hb dX12_sooner_102 rfl (lv_at hl 4 rfl) ?_
                            refine lv_iload hx hb dX12_sooner_103 (lv_at hl 2 rfl) ?_
                            refine lv_iconst (v := 1) hx hb dX12_sooner_105 (by decide) ?_
                            obtain ⟨hPc, hDc, hFc⟩ := g5_sub3 (wc := [(b_o, (oc12 0 u_sa b_rf b_ro b_im b_ke u_fd b_tp u_td u_fr u_to u_so u_wo u_fa u_bd u_nc b_nl u_co b_op b_ar u_le b_pi b_pa u_pd u_od b_ws b_hw k91_la b_se b_re k91_bk k91_va k91_su k91_ce k91_ho k91_wy k91_bt k91_ps b_pt k91_tg k91_sn b_ip u_ic b_ah b_be b_me u_wd b_tr b_ld u_st b_wn u_id)), (b_ro, (arI G 5740 k91_ro))]) hP hD hS hA [0, 1] (by decide) rfl
                            refine va_calli (va_runV (As := [.int k91_8, .int 1]) (rest := []) ⟨hx, hb, hml, hown, hts⟩ (n_ofGlass1S l G b_o b_ro b_rf b_im b_ke b_tp b_nl b_op b_ar b_pi b_pa b_ws b_hw b_se b_re b_pt b_ip b_ah b_be b_me b_tr b_ld b_wn H.size 0 u_sa u_fd u_td u_fr u_to u_so u_fa u_bd u_nc u_co u_le u_pd u_od k91_la k91_bk k91_ce k91_ho k91_wy k91_bt k91_ps k91_tg k91_sn u_ic u_wd u_id k91_8 u_wo k91_va k91_su u_st k91_ro h_u_td h_u_fr h_u_to h_u_bd h_u_nc h_u_co h_u_pd i_47 i_48 i_49 i_50 i_51 i_52 i_53 h_u_ic h_u_id ⟨by omega, by omega⟩ (i_54)) (cwV 2 hts gV_X12_134 rfl rfl rfl hv_X12_ofGlass ⟨Nat.le_of_ble_eq_true rfl, Nat.le_of_ble_eq_true rfl⟩) (g5_preV hPc hK hDc hN hT hS hFc (ci := 12) (q0 := 0) rfl rfl) rfl rfl hl.1 rfl (lv_room (Nat.le_of_ble_eq_true rfl)) dX12_sooner_106 ⟨Nat.le_of_ble_eq_true rfl, Nat.le_of_ble_eq_true rfl⟩) hS (fun q _ h => hFc q h) hFc (fun r u t H1 locs ht hvm hw hB hz1 hk1 hS => ?_)
                            obtain ⟨hP1, hD1⟩ := hB
                            rw [ht] at hP1
                            obtain ⟨z65, i_63, i_64, y66, rfl⟩ := hw
                            have i_63 : 0 ≤ z65.toInt ∧ z65.toInt ≤ 5 := i_63
                            have i_64 : z65 = k91_ro (80 + 5 * k91_8.toInt.toNat + 1) := i_64
                            obtain ⟨hP, hD⟩ := va_join (wr := [(b_se, (arJ G 13 k91_se)), (b_re, (arJ G 400 k91_re)), (b_pt, (arI G 200 k91_pt)), (b_tr, (arZ G 1536 k91_tr)), (b_ld, (arZ G 1536 k91_ld))]) hP hD [0, 1] [2, 3, 4, 5, 6] rfl rfl (by decide) (by decide) hk1 hFc hP1 hD1
                            generalize H1 = H at hP hS ⊢
                            refine g5_rs [(b_se, (arJ G 13 k91_se)), (b_re, (arJ G 400 k91_re)), (b_pt, (arI G 200 k91_pt)), (b_tr, (arZ G 1536 k91_tr)), (b_ld, (arZ G 1536 k91_ld)), (b_o, (oc12 0 u_sa b_rf b_ro b_im b_ke u_fd b_tp u_td u_fr u_to u_so u_wo u_fa u_bd u_nc b_nl u_co b_op b_ar u_le b_pi b_pa u_pd u_od b_ws b_hw k91_la b_se b_re k91_bk k91_va k91_su k91_ce k91_ho k91_wy k91_bt k91_ps b_pt k91_tg k91_sn b_ip u_ic b_ah b_be b_me u_wd b_tr b_ld u_st b_wn u_id)), (b_ro, (arI G 5740 k91_ro))] hP hD (fun hP hD => ?_)
                            refine g5_ti (v := z65) y66 ?_
                            refine lv_istore (lv' := [(9, .int z65), (6, .int k91_6), (7, .int k91_7), (8, .int k91_8), (5, .int z26), (0, .ref b_o), (1, .int p_1), (2, .int p_2), (3, .int p_3), (4, .int p_4)]) hx hb dX12_sooner_109 hl (by decide) rfl (fun ls hl => ?_)
                            refine lv_iconst (v := 0) hx hb dX12_sooner_111 (by decide) ?_
                            refine lv_istore (lv' := [(10, .int 0), (9, .int z65), (6, .int k91_6), (7, .int k91_7), (8, .int k91_8), (5, .int z26), (0, .ref b_o), (1, .int p_1), (2, .int p_2), (3, .int p_3), (4, .int p_4)]) hx hb dX12_sooner_112 hl (by decide) rfl (fun ls hl => ?_)
                            refine g5_loop (α := (Int32) × (Int32) × (Int32) × (Int32) × (Int32) × (Int64) × (Int64) × (Int32) × (Int32) × (Int32) × (Int32) × (Int32) × (Int32) × (Int32) × (Nat → Int32) × (Nat → Int64) × (Nat → Int64) × (Nat → Int32) × (Nat → Int32) × (Nat → Int32)) (fun (q : (Int32) × (Int32) × (Int32) × (Int32) × (Int32) × (Int64) × (Int64) × (Int32) × (Int32) × (Int32) × (Int32) × (Int32) × (Int32) × (Int32) × (Nat → Int32) × (Nat → Int64) × (Nat → Int64) × (Nat → Int32) × (Nat → Int32) × (Nat → Int32)) (ls : Array Slot) (H : Heap) (locs : List Loc) => match q with | (k114_10, k114_6, k114_7, k114_la, k114_bk, k114_va, k114_su, k114_ce, k114_ho, k114_wy, k114_bt, k114_ps, k114_tg, k114_sn, k114_ro, k114_se, k114_re, k114_pt, k114_tr, k114_ld) => lv_has ls 12 [(6, .int k114_6), (7, .int k114_7), (10, .int k114_10), (9, .int z65), (8, .int k91_8), (5, .int z26), (0, .ref b_o), (1, .int p_1), (2, .int p_2), (3, .int p_3), (4, .int p_4)] ∧ va_P G.1 vwCl [(b_se, (arJ G 13 k114_se)), (b_re, (arJ G 400 k114_re)), (b_pt, (arI G 200 k114_pt)), (b_tr, (arZ G 1536 k114_tr)), (b_ld, (arZ G 1536 k114_ld)), (b_o, (oc12 0 u_sa b_rf b_ro b_im b_ke u_fd b_tp u_td u_fr u_to u_so u_wo u_fa u_bd u_nc b_nl u_co b_op b_ar u_le b_pi b_pa u_pd u_od b_ws b_hw k114_la b_se b_re k114_bk k114_va k114_su k114_ce k114_ho k114_wy k114_bt k114_ps b_pt k114_tg k114_sn b_ip u_ic b_ah b_be b_me u_wd b_tr b_ld u_st b_wn u_id)), (b_ro, (arI G 5740 k114_ro))] H ∧ va_D A [(b_se, (arJ G 13 k114_se)), (b_re, (arJ G 400 k114_re)), (b_pt, (arI G 200 k114_pt)), (b_tr, (arZ G 1536 k114_tr)), (b_ld, (arZ G 1536 k114_ld)), (b_o, (oc12 0 u_sa b_rf b_ro b_im b_ke u_fd b_tp u_td u_fr u_to u_so u_wo u_fa u_bd u_nc b_nl u_co b_op b_ar u_le b_pi b_pa u_pd u_od b_ws b_hw k114_la b_se b_re k114_bk k114_va k114_su k114_ce k114_ho k114_wy k114_bt k114_ps b_pt k114_tg k114_sn b_ip u_ic b_ah b_be b_me u_wd b_tr b_ld u_st b_wn u_id)), (b_ro, (arI G 5740 k114_ro))] ∧ va_S A s.heap H locs ∧ (0 ≤ k114_10.toInt ∧ k114_10.toInt ≤ 6) ∧ (0 ≤ k114_6.toInt ∧ k114_6.toInt ≤ 24) ∧ (0 ≤ k114_la.toInt ∧ k114_la.toInt ≤ 4840) ∧ (0 ≤ k114_bk.toInt ∧ k114_bk.toInt ≤ 1) ∧ (0 ≤ k114_ce.toInt ∧ k114_ce.toInt ≤ 63) ∧ (0 ≤ k114_ho.toInt ∧ k114_ho.toInt ≤ 23) ∧ (0 ≤ k114_wy.toInt ∧ k114_wy.toInt ≤ 3) ∧ (0 ≤ k114_bt.toInt ∧ k114_bt.toInt ≤ 1000000) ∧ (0 ≤ k114_ps.toInt ∧ k114_ps.toInt ≤ 200) ∧ (MI k114_ro) ∧ (PTI k114_pt) ∧ (∀ j : Nat, j ≠ (81 + 5 * k91_8.toInt.toNat) → k114_ro j = v_ro j)) (fun (q : (Int32) × (Int32) × (Int32) × (Int32) × (Int32) × (Int64) × (Int64) × (Int32) × (Int32) × (Int32) × (Int32) × (Int32) × (Int32) × (Int32) × (Nat → Int32) × (Nat → Int64) × (Nat → Int64) × (Nat → Int32) × (Nat → Int32) × (Nat → Int32)) => match q with | (k114_10, k114_6, k114_7, k114_la, k114_bk, k114_va, k114_su, k114_ce, k114_ho, k114_wy, k114_bt, k114_ps, k114_tg, k114_sn, k114_ro, k114_se, k114_re, k114_pt, k114_tr, k114_ld) => Int.toNat (6 - k114_10.toInt)) (0, k91_6, k91_7, k91_la, k91_bk, k91_va, k91_su, k91_ce, k91_ho, k91_wy, k91_bt, k91_ps, k91_tg, k91_sn, k91_ro, k91_se, k91_re, k91_pt, k91_tr, k91_ld) ⟨lv_sub hl [2, 3, 0, 1, 4, 5, 6, 7, 8, 9, 10] rfl, hP, hD, hS, ⟨by decide, by decide⟩, i_46, i_47, i_48, i_49, i_50, i_51, i_52, i_53, i_54, i_55, fun j _ => by rw [i_56]⟩ ?_
                            rintro ⟨k114_10, k114_6, k114_7, k114_la, k114_bk, k114_va, k114_su, k114_ce, k114_ho, k114_wy, k114_bt, k114_ps, k114_tg, k114_sn, k114_ro, k114_se, k114_re, k114_pt, k114_tr, k114_ld⟩ ls H locs ⟨hl, hP, hD, hS, i_67, i_68, i_69, i_70, i_71, i_72, i_73, i_74, i_75, i_76, i_77, i_78⟩ ih_114_79
                            have hl : lv_has ls 12 [(6, .int k114_6), (7, .int k114_7), (10, .int k114_10), (9, .int z65), (8, .int k91_8), (5, .int z26), (0, .ref b_o), (1, .int p_1), (2, .int p_2), (3, .int p_3), (4, .int p_4)] := hl
                            have i_67 : 0 ≤ k114_10.toInt ∧ k114_10.toInt ≤ 6 := i_67
                            have i_68 : 0 ≤ k114_6.toInt ∧ k114_6.toInt ≤ 24 := i_68
                            have i_69 : 0 ≤ k114_la.toInt ∧ k114_la.toInt ≤ 4840 := i_69
                            have i_70 : 0 ≤ k114_bk.toInt ∧ k114_bk.toInt ≤ 1 := i_70
                            have i_71 : 0 ≤ k114_ce.toInt ∧ k114_ce.toInt ≤ 63 := i_71
                            have i_72 : 0 ≤ k114_ho.toInt ∧ k114_ho.toInt ≤ 23 := i_72
                            have i_73 : 0 ≤ k114_wy.toInt ∧ k114_wy.toInt ≤ 3 := i_73
                            have i_74 : 0 ≤ k114_bt.toInt ∧ k114_bt.toInt ≤ 1000000 := i_74
                            have i_75 : 0 ≤ k114_ps.toInt ∧ k114_ps.toInt ≤ 200 := i_75
                            have i_76 : MI k114_ro := i_76
                            have i_77 : PTI k114_pt := i_77
                            have i_78 : ∀ j : Nat, j ≠ (81 + 5 * k91_8.toInt.toNat) → k114_ro j = v_ro j := i_78
                            refine g5_rs [(b_se, (arJ G 13 k114_se)), (b_re, (arJ G 400 k114_re)), (b_pt, (arI G 200 k114_pt)), (b_tr, (arZ G 1536 k114_tr)), (b_ld, (arZ G 1536 k114_ld)), (b_o, (oc12 0 u_sa b_rf b_ro b_im b_ke u_fd b_tp u_td u_fr u_to u_so u_wo u_fa u_bd u_nc b_nl u_co b_op b_ar u_le b_pi b_pa u_pd u_od b_ws b_hw k114_la b_se b_re k114_bk k114_va k114_su k114_ce k114_ho k114_wy k114_bt k114_ps b_pt k114_tg k114_sn b_ip u_ic b_ah b_be b_me u_wd b_tr b_ld u_st b_wn u_id)), (b_ro, (arI G 5740 k114_ro))] hP hD (fun hP hD => ?_)
                            refine lv_iload hx hb dX12_sooner_114 (lv_at hl 2 rfl) ?_
                            refine lv_bipush (v := 6) hx hb dX12_sooner_116 (by decide) ?_
                            refine lv_icmp_ge (tgt := 213) hx hb dX12_sooner_118 (by decide) (fun c_80 => ?_) (fun c_80 => ?_)
                            ·
                              have i_80 : k114_10.toInt ≥ 6 := by have z := g5_ge (a := k114_10.toInt) (b := 6) (by rfl) (by decide) c_80; omega
                              refine lv_aload_n hx hb dX12_sooner_213 rfl (lv_at hl 6 rfl) ?_
                              refine va_get (D := G.1) (ci := 12) (v := .ref b_ro) (C := RX12) (T := TX12) (N := 52) hx hb hts inG_X12 hown hK hP 5 rfl rfl 3 (by decide) (hts _ fl_X12_13) (fun _ h9 => h9) rfl dX12_sooner_214 ?_
                              refine lv_bipush (v := 80) hx hb dX12_sooner_217 (by decide) ?_
                              refine lv_iconst (v := 5) hx hb dX12_sooner_219 (by decide) ?_
                              refine lv_iload hx hb dX12_sooner_220 (lv_at hl 4 rfl) ?_
                              refine lv_imul hx hb dX12_sooner_222 ?_
                              have t_81 : (5 * k91_8).toInt = 5 * k91_8.toInt := g5_imul (a := 5) (b := k91_8.toInt) (by decide) (by rfl) (by omega) (by omega)
                              refine lv_iadd hx hb dX12_sooner_223 ?_
                              have t_82 : (80 + (5 * k91_8)).toInt = 80 + (5 * k91_8).toInt := g5_iadd (a := 80) (b := (5 * k91_8).toInt) (by decide) (by rfl) (by omega) (by omega)
                              refine lv_iconst (v := 1) hx hb dX12_sooner_224 (by decide) ?_
                              refine lv_iadd hx hb dX12_sooner_225 ?_
                              have t_83 : ((80 + (5 * k91_8)) + 1).toInt = (80 + (5 * k91_8)).toInt + 1 := g5_iadd (a := (80 + (5 * k91_8)).toInt) (b := 1) (by rfl) (by decide) (by omega) (by omega)
                              refine lv_iload hx hb dX12_sooner_226 (lv_at hl 3 rfl) ?_
                              refine va_iast hx hb hK hP hD hS 6 0 rfl rfl (i := ((80 + (5 * k91_8)) + 1)) (x := z65) (vp_in_iff.mpr ⟨by omega, by omega⟩) dX12_sooner_228 (fun H locs hP hD hS => ?_)
                              refine g5_rs [(b_se, (arJ G 13 k114_se)), (b_re, (arJ G 400 k114_re)), (b_pt, (arI G 200 k114_pt)), (b_tr, (arZ G 1536 k114_tr)), (b_ld, (arZ G 1536 k114_ld)), (b_o, (oc12 0 u_sa b_rf b_ro b_im b_ke u_fd b_tp u_td u_fr u_to u_so u_wo u_fa u_bd u_nc b_nl u_co b_op b_ar u_le b_pi b_pa u_pd u_od b_ws b_hw k114_la b_se b_re k114_bk k114_va k114_su k114_ce k114_ho k114_wy k114_bt k114_ps b_pt k114_tg k114_sn b_ip u_ic b_ah b_be b_me u_wd b_tr b_ld u_st b_wn u_id)), (b_ro, (arI G 5740 (upd k114_ro ((80 + (5 * k91_8)) + 1).toNatClampNeg z65)))] hP hD (fun hP hD => ?_)
                              refine lv_iinc (v := (k91_8 + 1)) (lv' := [(8, .int (k91_8 + 1)), (6, .int k114_6), (7, .int k114_7), (10, .int k114_10), (9, .int z65), (5, .int z26), (0, .ref b_o), (1, .int p_1), (2, .int p_2), (3, .int p_3), (4, .int p_4)]) hx hb dX12_sooner_229 hl (k := 4) rfl rfl (by decide) rfl (fun ls hl => ?_)
                              have t_84 : (k91_8 + 1).toInt = k91_8.toInt + 1 := g5_iadd (a := k91_8.toInt) (b := 1) rfl (by decide) (by omega) (by omega)
                              refine lv_goto (tgt := 91) hx hb dX12_sooner_232 (by decide) ?_
                              exact ih_91_57 ((k91_8 + 1), k114_7, k114_6, k114_la, k114_bk, k114_va, k114_su, k114_ce, k114_ho, k114_wy, k114_bt, k114_ps, k114_tg, k114_sn, (upd k114_ro ((80 + (5 * k91_8)) + 1).toNatClampNeg z65), k114_se, k114_re, k114_pt, k114_tr, k114_ld) ls H locs (show Int.toNat (6 - (k91_8 + 1).toInt) < Int.toNat (6 - k91_8.toInt) from g_up (show k91_8.toInt < (k91_8 + 1).toInt by omega) (show k91_8.toInt < 6 by omega)) ⟨lv_sub hl [1, 2, 0, 5, 6, 7, 8, 9, 10] rfl, hP.sub [5, 6, 0, 1, 2, 3, 4] rfl, hD.sub [5, 6, 0, 1, 2, 3, 4] (by decide) rfl, hS, ⟨by omega, by omega⟩, i_68, i_69, i_70, i_71, i_72, i_73, i_74, i_75, mi_upd i_76 (by have zz := g5_clamp ((80 + (5 * k91_8)) + 1); unfold rOK; refine ⟨?_, ?_, ?_, ?_, ?_, ?_, ?_, ?_, ?_, ?_, ?_, ?_, ?_, ?_, ?_, ?_, ?_, ?_, ?_, ?_, ?_, ?_, ?_⟩ <;> (intros; omega)) (by have zz := g5_clamp ((80 + (5 * k91_8)) + 1); omega) (by have zz := g5_clamp ((80 + (5 * k91_8)) + 1); omega) (by have zz := g5_clamp ((80 + (5 * k91_8)) + 1); omega) (by have zz := g5_clamp ((80 + (5 * k91_8)) + 1); omega) (by have zz := g5_clamp ((80 + (5 * k91_8)) + 1); omega), i_77, by rw [show ((80 + (5 * k91_8)) + 1).toNatClampNeg = (81 + 5 * k91_8.toInt.toNat) by have zz := g5_clamp ((80 + (5 * k91_8)) + 1); omega]; exact upd_but_self i_78 (by rw [i_64, i_56]; congr 1; omega)⟩
                            ·
                              have i_80 : k114_10.toInt < 6 := by have z := g5_geN (a := k114_10.toInt) (b := 6) (by rfl) (by decide) c_80; omega
                              refine lv_aload_n hx hb dX12_sooner_121 rfl (lv_at hl 6 rfl) ?_
                              refine va_get (D := G.1) (ci := 12) (v := .ref b_ro) (C := RX12) (T := TX12) (N := 52) hx hb hts inG_X12 hown hK hP 5 rfl rfl 3 (by decide) (hts _ fl_X12_13) (fun _ h9 => h9) rfl dX12_sooner_122 ?_
                              refine lv_bipush (v := 80) hx hb dX12_sooner_125 (by decide) ?_
                              refine lv_iconst (v := 5) hx hb dX12_sooner_127 (by decide) ?_
                              refine lv_iload hx hb dX12_sooner_128 (lv_at hl 4 rfl) ?_
                              refine lv_imul hx hb dX12_sooner_130 ?_
                              have t_85 : (5 * k91_8).toInt = 5 * k91_8.toInt := g5_imul (a := 5) (b := k91_8.toInt) (by decide) (by rfl) (by omega) (by omega)
                              refine lv_iadd hx hb dX12_sooner_131 ?_
                              have t_86 : (80 + (5 * k91_8)).toInt = 80 + (5 * k91_8).toInt := g5_iadd (a := 80) (b := (5 * k91_8).toInt) (by decide) (by rfl) (by omega) (by omega)
                              refine lv_iconst (v := 1) hx hb dX12_sooner_132 (by decide) ?_
                              refine lv_iadd hx hb dX12_sooner_133 ?_
                              have t_87 : ((80 + (5 * k91_8)) + 1).toInt = (80 + (5 * k91_8)).toInt + 1 := g5_iadd (a := (80 + (5 * k91_8)).toInt) (b := 1) (by rfl) (by decide) (by omega) (by omega)
                              refine lv_iload hx hb dX12_sooner_134 (lv_at hl 2 rfl) ?_
                              refine va_iast hx hb hK hP hD hS 6 0 rfl rfl (i := ((80 + (5 * k91_8)) + 1)) (x := k114_10) (vp_in_iff.mpr ⟨by omega, by omega⟩) dX12_sooner_136 (fun H locs hP hD hS => ?_)
                              refine g5_rs [(b_se, (arJ G 13 k114_se)), (b_re, (arJ G 400 k114_re)), (b_pt, (arI G 200 k114_pt)), (b_tr, (arZ G 1536 k114_tr)), (b_ld, (arZ G 1536 k114_ld)), (b_o, (oc12 0 u_sa b_rf b_ro b_im b_ke u_fd b_tp u_td u_fr u_to u_so u_wo u_fa u_bd u_nc b_nl u_co b_op b_ar u_le b_pi b_pa u_pd u_od b_ws b_hw k114_la b_se b_re k114_bk k114_va k114_su k114_ce k114_ho k114_wy k114_bt k114_ps b_pt k114_tg k114_sn b_ip u_ic b_ah b_be b_me u_wd b_tr b_ld u_st b_wn u_id)), (b_ro, (arI G 5740 (upd k114_ro ((80 + (5 * k91_8)) + 1).toNatClampNeg k114_10)))] hP hD (fun hP hD => ?_)
                              have hmi_88 : MI (upd k114_ro ((80 + (5 * k91_8)) + 1).toNatClampNeg k114_10) := mi_upd i_76 (by have zz := g5_clamp ((80 + (5 * k91_8)) + 1); unfold rOK; refine ⟨?_, ?_, ?_, ?_, ?_, ?_, ?_, ?_, ?_, ?_, ?_, ?_, ?_, ?_, ?_, ?_, ?_, ?_, ?_, ?_, ?_, ?_, ?_⟩ <;> (intros; omega)) (by have zz := g5_clamp ((80 + (5 * k91_8)) + 1); omega) (by have zz := g5_clamp ((80 + (5 * k91_8)) + 1); omega) (by have zz := g5_clamp ((80 + (5 * k91_8)) + 1); omega) (by have zz := g5_clamp ((80 + (5 * k91_8)) + 1); omega) (by have zz := g5_clamp ((80 + (5 * k91_8)) + 1); omega)
                              refine lv_iload hx hb dX12_sooner_137 (lv_at hl 2 rfl) ?_
                              refine lv_iload hx hb dX12_sooner_139 (lv_at hl 3 rfl) ?_
                              refine lv_icmp_ne (tgt := 148) hx hb dX12_sooner_141 (by decide) (fun c_89 => ?_) (fun c_89 => ?_)
                              ·
                                have n_89 : gNe (k114_10.toInt) (z65.toInt) := by have z := g5_ne (a := k114_10.toInt) (b := z65.toInt) (by rfl) (by rfl) c_89; unfold gNe; omega
                                refine lv_aload_n hx hb dX12_sooner_148 rfl (lv_at hl 6 rfl) ?_
                                refine lv_iload_n hx hb dX12_sooner_149 rfl (lv_at hl 7 rfl) ?_
                                refine lv_iload_n hx hb dX12_sooner_150 rfl (lv_at hl 8 rfl) ?_
                                refine lv_iload_n hx hb dX12_sooner_151 rfl (lv_at hl 9 rfl) ?_
                                obtain ⟨hPc, hDc, hFc⟩ := g5_sub3 (wc := [(b_o, (oc12 0 u_sa b_rf b_ro b_im b_ke u_fd b_tp u_td u_fr u_to u_so u_wo u_fa u_bd u_nc b_nl u_co b_op b_ar u_le b_pi b_pa u_pd u_od b_ws b_hw k114_la b_se b_re k114_bk k114_va k114_su k114_ce k114_ho k114_wy k114_bt k114_ps b_pt k114_tg k114_sn b_ip u_ic b_ah b_be b_me u_wd b_tr b_ld u_st b_wn u_id)), (b_ro, (arI G 5740 (upd k114_ro ((80 + (5 * k91_8)) + 1).toNatClampNeg k114_10))), (b_se, (arJ G 13 k114_se)), (b_re, (arJ G 400 k114_re)), (b_pt, (arI G 200 k114_pt)), (b_tr, (arZ G 1536 k114_tr)), (b_ld, (arZ G 1536 k114_ld))]) hP hD hS hA [5, 6, 0, 1, 2, 3, 4] (by decide) rfl
                                refine va_calli (va_runV (As := [.int p_1, .int p_2, .int p_3]) (rest := []) ⟨hx, hb, hml, hown, hts⟩ (n_findSoonest l G b_o b_ro b_se b_re b_pt b_tr b_ld b_rf b_im b_ke b_tp b_nl b_op b_ar b_pi b_pa b_ws b_hw b_ip b_ah b_be b_me b_wn H.size 0 u_sa u_fd u_td u_fr u_to u_so u_fa u_bd u_nc u_co u_le u_pd u_od k114_la k114_bk k114_ce k114_ho k114_wy k114_bt k114_ps k114_tg k114_sn u_ic u_wd u_id p_1 p_2 p_3 u_wo k114_va k114_su u_st (upd k114_ro ((80 + (5 * k91_8)) + 1).toNatClampNeg k114_10) k114_se k114_re k114_pt k114_tr k114_ld h_u_td h_u_fr h_u_to h_u_bd h_u_nc h_u_co h_u_pd i_69 i_70 i_71 i_72 i_73 i_74 i_75 h_u_ic h_u_id i_11 i_5 (hmi_88) (i_77)) (cwV 3 hts gV_X12_466 rfl rfl rfl hv_X12_findSoonest ⟨Nat.le_of_ble_eq_true rfl, Nat.le_of_ble_eq_true rfl⟩) (g5_preV hPc hK hDc hN hT hS hFc (ci := 12) (q0 := 0) rfl rfl) rfl rfl hl.1 rfl (lv_room (Nat.le_of_ble_eq_true rfl)) dX12_sooner_152 ⟨Nat.le_of_ble_eq_true rfl, Nat.le_of_ble_eq_true rfl⟩) hS (fun q _ h => hFc q h) hFc (fun r u t H1 locs ht hvm hw hB hz1 hk1 hS => ?_)
                                obtain ⟨hP1, hD1⟩ := hB
                                rw [ht] at hP1
                                obtain ⟨z99, z100, z101, z102, z103, z104, z105, z106, z107, z108, z109, z110, z111, z112, z113, z114, z115, i_90, i_91, i_92, i_93, i_94, i_95, i_96, i_97, i_98, y116, rfl⟩ := hw
                                have i_90 : (-1) ≤ z99.toInt ∧ z99.toInt ≤ 23 := i_90
                                have i_91 : 0 ≤ z100.toInt ∧ z100.toInt ≤ 4840 := i_91
                                have i_92 : 0 ≤ z101.toInt ∧ z101.toInt ≤ 1 := i_92
                                have i_93 : 0 ≤ z104.toInt ∧ z104.toInt ≤ 63 := i_93
                                have i_94 : 0 ≤ z105.toInt ∧ z105.toInt ≤ 23 := i_94
                                have i_95 : 0 ≤ z106.toInt ∧ z106.toInt ≤ 3 := i_95
                                have i_96 : 0 ≤ z107.toInt ∧ z107.toInt ≤ 1000000 := i_96
                                have i_97 : 0 ≤ z108.toInt ∧ z108.toInt ≤ 200 := i_97
                                have i_98 : PTI z113 := i_98
                                obtain ⟨hP, hD⟩ := va_join (wr := []) hP hD [5, 6, 0, 1, 2, 3, 4] [] rfl rfl (by decide) (by decide) hk1 hFc hP1 hD1
                                generalize H1 = H at hP hS ⊢
                                refine g5_rs [(b_o, (oc12 0 u_sa b_rf b_ro b_im b_ke u_fd b_tp u_td u_fr u_to u_so u_wo u_fa u_bd u_nc b_nl u_co b_op b_ar u_le b_pi b_pa u_pd u_od b_ws b_hw z100 b_se b_re z101 z102 z103 z104 z105 z106 z107 z108 b_pt z109 z110 b_ip u_ic b_ah b_be b_me u_wd b_tr b_ld u_st b_wn u_id)), (b_ro, (arI G 5740 (upd k114_ro ((80 + (5 * k91_8)) + 1).toNatClampNeg k114_10))), (b_se, (arJ G 13 z111)), (b_re, (arJ G 400 z112)), (b_pt, (arI G 200 z113)), (b_tr, (arZ G 1536 z114)), (b_ld, (arZ G 1536 z115))] hP hD (fun hP hD => ?_)
                                refine g5_ti (v := z99) y116 ?_
                                refine lv_istore (lv' := [(11, .int z99), (6, .int k114_6), (7, .int k114_7), (10, .int k114_10), (9, .int z65), (8, .int k91_8), (5, .int z26), (0, .ref b_o), (1, .int p_1), (2, .int p_2), (3, .int p_3), (4, .int p_4)]) hx hb dX12_sooner_155 hl (by decide) rfl (fun ls hl => ?_)
                                refine lv_iload hx hb dX12_sooner_157 (lv_at hl 0 rfl) ?_
                                refine lv_iconst (v := (-1)) hx hb dX12_sooner_159 (by decide) ?_
                                refine lv_icmp_eq (tgt := 181) hx hb dX12_sooner_160 (by decide) (fun c_117 => ?_) (fun c_117 => ?_)
                                ·
                                  have i_117 : z99.toInt = (-1) := by have z := g5_eq (a := z99.toInt) (b := (-1)) (by rfl) (by decide) c_117; omega
                                  refine lv_iload hx hb dX12_sooner_181 (lv_at hl 2 rfl) ?_
                                  refine lv_istore (lv' := [(7, .int k114_7), (11, .int z99), (6, .int k114_6), (10, .int k114_10), (9, .int z65), (8, .int k91_8), (5, .int z26), (0, .ref b_o), (1, .int p_1), (2, .int p_2), (3, .int p_3), (4, .int p_4)]) hx hb dX12_sooner_183 hl (by decide) rfl (fun ls hl => ?_)
                                  refine lv_iload hx hb dX12_sooner_185 (lv_at hl 1 rfl) ?_
                                  refine lv_iconst (v := (-1)) hx hb dX12_sooner_187 (by decide) ?_
                                  refine lv_icmp_eq (tgt := 203) hx hb dX12_sooner_188 (by decide) (fun c_118 => ?_) (fun c_118 => ?_)
                                  ·
                                    have i_118 : z99.toInt = (-1) := by have z := g5_eq (a := z99.toInt) (b := (-1)) (by rfl) (by decide) c_118; omega
                                    refine lv_iload hx hb dX12_sooner_203 (lv_at hl 2 rfl) ?_
                                    refine lv_istore (lv' := [(6, .int k114_6), (7, .int k114_7), (11, .int z99), (10, .int k114_10), (9, .int z65), (8, .int k91_8), (5, .int z26), (0, .ref b_o), (1, .int p_1), (2, .int p_2), (3, .int p_3), (4, .int p_4)]) hx hb dX12_sooner_205 hl (by decide) rfl (fun ls hl => ?_)
                                    refine lv_iinc (v := (k114_10 + 1)) (lv' := [(10, .int (k114_10 + 1)), (6, .int k114_6), (7, .int k114_7), (11, .int z99), (9, .int z65), (8, .int k91_8), (5, .int z26), (0, .ref b_o), (1, .int p_1), (2, .int p_2), (3, .int p_3), (4, .int p_4)]) hx hb dX12_sooner_207 hl (k := 3) rfl rfl (by decide) rfl (fun ls hl => ?_)
                                    have t_119 : (k114_10 + 1).toInt = k114_10.toInt + 1 := g5_iadd (a := k114_10.toInt) (b := 1) rfl (by decide) (by omega) (by omega)
                                    refine lv_goto (tgt := 114) hx hb dX12_sooner_210 (by decide) ?_
                                    exact ih_114_79 ((k114_10 + 1), k114_6, k114_7, z100, z101, z102, z103, z104, z105, z106, z107, z108, z109, z110, (upd k114_ro ((80 + (5 * k91_8)) + 1).toNatClampNeg k114_10), z111, z112, z113, z114, z115) ls H locs (show Int.toNat (6 - (k114_10 + 1).toInt) < Int.toNat (6 - k114_10.toInt) from g_up (show k114_10.toInt < (k114_10 + 1).toInt by omega) (show k114_10.toInt < 6 by omega)) ⟨lv_sub hl [1, 2, 0, 4, 5, 6, 7, 8, 9, 10, 11] rfl, hP.sub [2, 3, 4, 5, 6, 0, 1] rfl, hD.sub [2, 3, 4, 5, 6, 0, 1] (by decide) rfl, hS, ⟨by omega, by omega⟩, i_68, i_91, i_92, i_93, i_94, i_95, i_96, i_97, hmi_88, i_98, fun j hj => by rw [upd_ne (by rw [show ((80 + (5 * k91_8)) + 1).toNatClampNeg = (81 + 5 * k91_8.toInt.toNat) by have zz := g5_clamp ((80 + (5 * k91_8)) + 1); omega]; exact hj)]; exact i_78 j hj⟩
                                  ·
                                    have i_118 : z99.toInt ≠ (-1) := by have z := g5_eqN (a := z99.toInt) (b := (-1)) (by rfl) (by decide) c_118; omega
                                    omega
                                ·
                                  have n_117 : gNe (z99.toInt) ((-1)) := by have z := g5_eqN (a := z99.toInt) (b := (-1)) (by rfl) (by decide) c_117; unfold gNe; omega
                                  have i_117 : z99.toInt ≥ 0 := by have z := g5_eqN (a := z99.toInt) (b := (-1)) (by rfl) (by decide) c_117; omega
                                  refine lv_iload hx hb dX12_sooner_163 (lv_at hl 0 rfl) ?_
                                  refine lv_iload hx hb dX12_sooner_165 (lv_at hl 1 rfl) ?_
                                  refine lv_icmp_ge (tgt := 181) hx hb dX12_sooner_167 (by decide) (fun c_120 => ?_) (fun c_120 => ?_)
                                  ·
                                    have i_120 : z99.toInt ≥ k114_6.toInt := by have z := g5_ge (a := z99.toInt) (b := k114_6.toInt) (by rfl) (by rfl) c_120; omega
                                    refine lv_iload hx hb dX12_sooner_181 (lv_at hl 2 rfl) ?_
                                    refine lv_istore (lv' := [(7, .int k114_7), (11, .int z99), (6, .int k114_6), (10, .int k114_10), (9, .int z65), (8, .int k91_8), (5, .int z26), (0, .ref b_o), (1, .int p_1), (2, .int p_2), (3, .int p_3), (4, .int p_4)]) hx hb dX12_sooner_183 hl (by decide) rfl (fun ls hl => ?_)
                                    refine lv_iload hx hb dX12_sooner_185 (lv_at hl 1 rfl) ?_
                                    refine lv_iconst (v := (-1)) hx hb dX12_sooner_187 (by decide) ?_
                                    refine lv_icmp_eq (tgt := 203) hx hb dX12_sooner_188 (by decide) (fun c_121 => ?_) (fun c_121 => ?_)
                                    ·
                                      have i_121 : z99.toInt = (-1) := by have z := g5_eq (a := z99.toInt) (b := (-1)) (by rfl) (by decide) c_121; omega
                                      omega
                                    ·
                                      have n_121 : gNe (z99.toInt) ((-1)) := by have z := g5_eqN (a := z99.toInt) (b := (-1)) (by rfl) (by decide) c_121; unfold gNe; omega
                                      refine lv_iload hx hb dX12_sooner_191 (lv_at hl 1 rfl) ?_
                                      refine lv_iload hx hb dX12_sooner_193 (lv_at hl 2 rfl) ?_
                                      refine lv_icmp_ge (tgt := 203) hx hb dX12_sooner_195 (by decide) (fun c_122 => ?_) (fun c_122 => ?_)
                                      ·
                                        have i_122 : z99.toInt ≥ k114_6.toInt := by have z := g5_ge (a := z99.toInt) (b := k114_6.toInt) (by rfl) (by rfl) c_122; omega
                                        refine lv_iload hx hb dX12_sooner_203 (lv_at hl 2 rfl) ?_
                                        refine lv_istore (lv' := [(6, .int k114_6), (7, .int k114_7), (11, .int z99), (10, .int k114_10), (9, .int z65), (8, .int k91_8), (5, .int z26), (0, .ref b_o), (1, .int p_1), (2, .int p_2), (3, .int p_3), (4, .int p_4)]) hx hb dX12_sooner_205 hl (by decide) rfl (fun ls hl => ?_)
                                        refine lv_iinc (v := (k114_10 + 1)) (lv' := [(10, .int (k114_10 + 1)), (6, .int k114_6), (7, .int k114_7), (11, .int z99), (9, .int z65), (8, .int k91_8), (5, .int z26), (0, .ref b_o), (1, .int p_1), (2, .int p_2), (3, .int p_3), (4, .int p_4)]) hx hb dX12_sooner_207 hl (k := 3) rfl rfl (by decide) rfl (fun ls hl => ?_)
                                        have t_123 : (k114_10 + 1).toInt = k114_10.toInt + 1 := g5_iadd (a := k114_10.toInt) (b := 1) rfl (by decide) (by omega) (by omega)
                                        refine lv_goto (tgt := 114) hx hb dX12_sooner_210 (by decide) ?_
                                        exact ih_114_79 ((k114_10 + 1), k114_6, k114_7, z100, z101, z102, z103, z104, z105, z106, z107, z108, z109, z110, (upd k114_ro ((80 + (5 * k91_8)) + 1).toNatClampNeg k114_10), z111, z112, z113, z114, z115) ls H locs (show Int.toNat (6 - (k114_10 + 1).toInt) < Int.toNat (6 - k114_10.toInt) from g_up (show k114_10.toInt < (k114_10 + 1).toInt by omega) (show k114_10.toInt < 6 by omega)) ⟨lv_sub hl [1, 2, 0, 4, 5, 6, 7, 8, 9, 10, 11] rfl, hP.sub [2, 3, 4, 5, 6, 0, 1] rfl, hD.sub [2, 3, 4, 5, 6, 0, 1] (by decide) rfl, hS, ⟨by omega, by omega⟩, i_68, i_91, i_92, i_93, i_94, i_95, i_96, i_97, hmi_88, i_98, fun j hj => by rw [upd_ne (by rw [show ((80 + (5 * k91_8)) + 1).toNatClampNeg = (81 + 5 * k91_8.toInt.toNat) by have zz := g5_clamp ((80 + (5 * k91_8)) + 1); omega]; exact hj)]; exact i_78 j hj⟩
                                      ·
                                        have i_122 : z99.toInt < k114_6.toInt := by have z := g5_geN (a := z99.toInt) (b := k114_6.toInt) (by rfl) (by rfl) c_122; omega
                                        refine lv_iload hx hb dX12_sooner_198 (lv_at hl 1 rfl) ?_
                                        refine lv_goto (tgt := 205) hx hb dX12_sooner_200 (by decide) ?_
                                        refine lv_istore (lv' := [(6, .int z99), (7, .int k114_7), (11, .int z99), (10, .int k114_10), (9, .int z65), (8, .int k91_8), (5, .int z26), (0, .ref b_o), (1, .int p_1), (2, .int p_2), (3, .int p_3), (4, .int p_4)]) hx hb dX12_sooner_205 hl (by decide) rfl (fun ls hl => ?_)
                                        refine lv_iinc (v := (k114_10 + 1)) (lv' := [(10, .int (k114_10 + 1)), (6, .int z99), (7, .int k114_7), (11, .int z99), (9, .int z65), (8, .int k91_8), (5, .int z26), (0, .ref b_o), (1, .int p_1), (2, .int p_2), (3, .int p_3), (4, .int p_4)]) hx hb dX12_sooner_207 hl (k := 3) rfl rfl (by decide) rfl (fun ls hl => ?_)
                                        have t_124 : (k114_10 + 1).toInt = k114_10.toInt + 1 := g5_iadd (a := k114_10.toInt) (b := 1) rfl (by decide) (by omega) (by omega)
                                        refine lv_goto (tgt := 114) hx hb dX12_sooner_210 (by decide) ?_
                                        exact ih_114_79 ((k114_10 + 1), z99, k114_7, z100, z101, z102, z103, z104, z105, z106, z107, z108, z109, z110, (upd k114_ro ((80 + (5 * k91_8)) + 1).toNatClampNeg k114_10), z111, z112, z113, z114, z115) ls H locs (show Int.toNat (6 - (k114_10 + 1).toInt) < Int.toNat (6 - k114_10.toInt) from g_up (show k114_10.toInt < (k114_10 + 1).toInt by omega) (show k114_10.toInt < 6 by omega)) ⟨lv_sub hl [1, 2, 0, 4, 5, 6, 7, 8, 9, 10, 11] rfl, hP.sub [2, 3, 4, 5, 6, 0, 1] rfl, hD.sub [2, 3, 4, 5, 6, 0, 1] (by decide) rfl, hS, ⟨by omega, by omega⟩, ⟨by omega, by omega⟩, i_91, i_92, i_93, i_94, i_95, i_96, i_97, hmi_88, i_98, fun j hj => by rw [upd_ne (by rw [show ((80 + (5 * k91_8)) + 1).toNatClampNeg = (81 + 5 * k91_8.toInt.toNat) by have zz := g5_clamp ((80 + (5 * k91_8)) + 1); omega]; exact hj)]; exact i_78 j hj⟩
                                  ·
                                    have i_120 : z99.toInt < k114_6.toInt := by have z := g5_geN (a := z99.toInt) (b := k114_6.toInt) (by rfl) (by rfl) c_120; omega
                                    refine lv_bipush (v := 6) hx hb dX12_sooner_170 (by decide) ?_
                                    refine lv_iload hx hb dX12_sooner_172 (lv_at hl 5 rfl) ?_
                                    refine lv_imul hx hb dX12_sooner_174 ?_
                                    have t_125 : (6 * k91_8).toInt = 6 * k91_8.toInt := g5_imul (a := 6) (b := k91_8.toInt) (by decide) (by rfl) (by omega) (by omega)
                                    refine lv_iload hx hb dX12_sooner_175 (lv_at hl 3 rfl) ?_
                                    refine lv_iadd hx hb dX12_sooner_177 ?_
                                    have t_126 : ((6 * k91_8) + k114_10).toInt = (6 * k91_8).toInt + k114_10.toInt := g5_iadd (a := (6 * k91_8).toInt) (b := k114_10.toInt) (by rfl) (by rfl) (by omega) (by omega)
                                    refine lv_goto (tgt := 183) hx hb dX12_sooner_178 (by decide) ?_
                                    refine lv_istore (lv' := [(7, .int ((6 * k91_8) + k114_10)), (11, .int z99), (6, .int k114_6), (10, .int k114_10), (9, .int z65), (8, .int k91_8), (5, .int z26), (0, .ref b_o), (1, .int p_1), (2, .int p_2), (3, .int p_3), (4, .int p_4)]) hx hb dX12_sooner_183 hl (by decide) rfl (fun ls hl => ?_)
                                    refine lv_iload hx hb dX12_sooner_185 (lv_at hl 1 rfl) ?_
                                    refine lv_iconst (v := (-1)) hx hb dX12_sooner_187 (by decide) ?_
                                    refine lv_icmp_eq (tgt := 203) hx hb dX12_sooner_188 (by decide) (fun c_127 => ?_) (fun c_127 => ?_)
                                    ·
                                      have i_127 : z99.toInt = (-1) := by have z := g5_eq (a := z99.toInt) (b := (-1)) (by rfl) (by decide) c_127; omega
                                      omega
                                    ·
                                      have n_127 : gNe (z99.toInt) ((-1)) := by have z := g5_eqN (a := z99.toInt) (b := (-1)) (by rfl) (by decide) c_127; unfold gNe; omega
                                      refine lv_iload hx hb dX12_sooner_191 (lv_at hl 1 rfl) ?_
                                      refine lv_iload hx hb dX12_sooner_193 (lv_at hl 2 rfl) ?_
                                      refine lv_icmp_ge (tgt := 203) hx hb dX12_sooner_195 (by decide) (fun c_128 => ?_) (fun c_128 => ?_)
                                      ·
                                        have i_128 : z99.toInt ≥ k114_6.toInt := by have z := g5_ge (a := z99.toInt) (b := k114_6.toInt) (by rfl) (by rfl) c_128; omega
                                        refine lv_iload hx hb dX12_sooner_203 (lv_at hl 2 rfl) ?_
                                        refine lv_istore (lv' := [(6, .int k114_6), (7, .int ((6 * k91_8) + k114_10)), (11, .int z99), (10, .int k114_10), (9, .int z65), (8, .int k91_8), (5, .int z26), (0, .ref b_o), (1, .int p_1), (2, .int p_2), (3, .int p_3), (4, .int p_4)]) hx hb dX12_sooner_205 hl (by decide) rfl (fun ls hl => ?_)
                                        refine lv_iinc (v := (k114_10 + 1)) (lv' := [(10, .int (k114_10 + 1)), (6, .int k114_6), (7, .int ((6 * k91_8) + k114_10)), (11, .int z99), (9, .int z65), (8, .int k91_8), (5, .int z26), (0, .ref b_o), (1, .int p_1), (2, .int p_2), (3, .int p_3), (4, .int p_4)]) hx hb dX12_sooner_207 hl (k := 3) rfl rfl (by decide) rfl (fun ls hl => ?_)
                                        have t_129 : (k114_10 + 1).toInt = k114_10.toInt + 1 := g5_iadd (a := k114_10.toInt) (b := 1) rfl (by decide) (by omega) (by omega)
                                        refine lv_goto (tgt := 114) hx hb dX12_sooner_210 (by decide) ?_
                                        exact ih_114_79 ((k114_10 + 1), k114_6, ((6 * k91_8) + k114_10), z100, z101, z102, z103, z104, z105, z106, z107, z108, z109, z110, (upd k114_ro ((80 + (5 * k91_8)) + 1).toNatClampNeg k114_10), z111, z112, z113, z114, z115) ls H locs (show Int.toNat (6 - (k114_10 + 1).toInt) < Int.toNat (6 - k114_10.toInt) from g_up (show k114_10.toInt < (k114_10 + 1).toInt by omega) (show k114_10.toInt < 6 by omega)) ⟨lv_sub hl [1, 2, 0, 4, 5, 6, 7, 8, 9, 10, 11] rfl, hP.sub [2, 3, 4, 5, 6, 0, 1] rfl, hD.sub [2, 3, 4, 5, 6, 0, 1] (by decide) rfl, hS, ⟨by omega, by omega⟩, i_68, i_91, i_92, i_93, i_94, i_95, i_96, i_97, hmi_88, i_98, fun j hj => by rw [upd_ne (by rw [show ((80 + (5 * k91_8)) + 1).toNatClampNeg = (81 + 5 * k91_8.toInt.toNat) by have zz := g5_clamp ((80 + (5 * k91_8)) + 1); omega]; exact hj)]; exact i_78 j hj⟩
                                      ·
                                        have i_128 : z99.toInt < k114_6.toInt := by have z := g5_geN (a := z99.toInt) (b := k114_6.toInt) (by rfl) (by rfl) c_128; omega
                                        refine lv_iload hx hb dX12_sooner_198 (lv_at hl 1 rfl) ?_
                                        refine lv_goto (tgt := 205) hx hb dX12_sooner_200 (by decide) ?_
                                        refine lv_istore (lv' := [(6, .int z99), (7, .int ((6 * k91_8) + k114_10)), (11, .int z99), (10, .int k114_10), (9, .int z65), (8, .int k91_8), (5, .int z26), (0, .ref b_o), (1, .int p_1), (2, .int p_2), (3, .int p_3), (4, .int p_4)]) hx hb dX12_sooner_205 hl (by decide) rfl (fun ls hl => ?_)
                                        refine lv_iinc (v := (k114_10 + 1)) (lv' := [(10, .int (k114_10 + 1)), (6, .int z99), (7, .int ((6 * k91_8) + k114_10)), (11, .int z99), (9, .int z65), (8, .int k91_8), (5, .int z26), (0, .ref b_o), (1, .int p_1), (2, .int p_2), (3, .int p_3), (4, .int p_4)]) hx hb dX12_sooner_207 hl (k := 3) rfl rfl (by decide) rfl (fun ls hl => ?_)
                                        have t_130 : (k114_10 + 1).toInt = k114_10.toInt + 1 := g5_iadd (a := k114_10.toInt) (b := 1) rfl (by decide) (by omega) (by omega)
                                        refine lv_goto (tgt := 114) hx hb dX12_sooner_210 (by decide) ?_
                                        exact ih_114_79 ((k114_10 + 1), z99, ((6 * k91_8) + k114_10), z100, z101, z102, z103, z104, z105, z106, z107, z108, z109, z110, (upd k114_ro ((80 + (5 * k91_8)) + 1).toNatClampNeg k114_10), z111, z112, z113, z114, z115) ls H locs (show Int.toNat (6 - (k114_10 + 1).toInt) < Int.toNat (6 - k114_10.toInt) from g_up (show k114_10.toInt < (k114_10 + 1).toInt by omega) (show k114_10.toInt < 6 by omega)) ⟨lv_sub hl [1, 2, 0, 4, 5, 6, 7, 8, 9, 10, 11] rfl, hP.sub [2, 3, 4, 5, 6, 0, 1] rfl, hD.sub [2, 3, 4, 5, 6, 0, 1] (by decide) rfl, hS, ⟨by omega, by omega⟩, ⟨by omega, by omega⟩, i_91, i_92, i_93, i_94, i_95, i_96, i_97, hmi_88, i_98, fun j hj => by rw [upd_ne (by rw [show ((80 + (5 * k91_8)) + 1).toNatClampNeg = (81 + 5 * k91_8.toInt.toNat) by have zz := g5_clamp ((80 + (5 * k91_8)) + 1); omega]; exact hj)]; exact i_78 j hj⟩
                              ·
                                have i_89 : k114_10.toInt = z65.toInt := by have z := g5_neN (a := k114_10.toInt) (b := z65.toInt) (by rfl) (by rfl) c_89; omega
                                refine lv_iconst (v := (-1)) hx hb dX12_sooner_144 (by decide) ?_
                                refine lv_goto (tgt := 155) hx hb dX12_sooner_145 (by decide) ?_
                                refine lv_istore (lv' := [(11, .int (-1)), (6, .int k114_6), (7, .int k114_7), (10, .int k114_10), (9, .int z65), (8, .int k91_8), (5, .int z26), (0, .ref b_o), (1, .int p_1), (2, .int p_2), (3, .int p_3), (4, .int p_4)]) hx hb dX12_sooner_155 hl (by decide) rfl (fun ls hl => ?_)
                                refine lv_iload hx hb dX12_sooner_157 (lv_at hl 0 rfl) ?_
                                refine lv_iconst (v := (-1)) hx hb dX12_sooner_159 (by decide) ?_
                                refine lv_icmp_eq (tgt := 181) hx hb dX12_sooner_160 (by decide) (fun c_131 => ?_) (fun c_131 => ?_)
                                ·
                                  refine lv_iload hx hb dX12_sooner_181 (lv_at hl 2 rfl) ?_
                                  refine lv_istore (lv' := [(7, .int k114_7), (11, .int (-1)), (6, .int k114_6), (10, .int k114_10), (9, .int z65), (8, .int k91_8), (5, .int z26), (0, .ref b_o), (1, .int p_1), (2, .int p_2), (3, .int p_3), (4, .int p_4)]) hx hb dX12_sooner_183 hl (by decide) rfl (fun ls hl => ?_)
                                  refine lv_iload hx hb dX12_sooner_185 (lv_at hl 1 rfl) ?_
                                  refine lv_iconst (v := (-1)) hx hb dX12_sooner_187 (by decide) ?_
                                  refine lv_icmp_eq (tgt := 203) hx hb dX12_sooner_188 (by decide) (fun c_132 => ?_) (fun c_132 => ?_)
                                  ·
                                    refine lv_iload hx hb dX12_sooner_203 (lv_at hl 2 rfl) ?_
                                    refine lv_istore (lv' := [(6, .int k114_6), (7, .int k114_7), (11, .int (-1)), (10, .int k114_10), (9, .int z65), (8, .int k91_8), (5, .int z26), (0, .ref b_o), (1, .int p_1), (2, .int p_2), (3, .int p_3), (4, .int p_4)]) hx hb dX12_sooner_205 hl (by decide) rfl (fun ls hl => ?_)
                                    refine lv_iinc (v := (k114_10 + 1)) (lv' := [(10, .int (k114_10 + 1)), (6, .int k114_6), (7, .int k114_7), (11, .int (-1)), (9, .int z65), (8, .int k91_8), (5, .int z26), (0, .ref b_o), (1, .int p_1), (2, .int p_2), (3, .int p_3), (4, .int p_4)]) hx hb dX12_sooner_207 hl (k := 3) rfl rfl (by decide) rfl (fun ls hl => ?_)
                                    have t_133 : (k114_10 + 1).toInt = k114_10.toInt + 1 := g5_iadd (a := k114_10.toInt) (b := 1) rfl (by decide) (by omega) (by omega)
                                    refine lv_goto (tgt := 114) hx hb dX12_sooner_210 (by decide) ?_
                                    exact ih_114_79 ((k114_10 + 1), k114_6, k114_7, k114_la, k114_bk, k114_va, k114_su, k114_ce, k114_ho, k114_wy, k114_bt, k114_ps, k114_tg, k114_sn, (upd k114_ro ((80 + (5 * k91_8)) + 1).toNatClampNeg k114_10), k114_se, k114_re, k114_pt, k114_tr, k114_ld) ls H locs (show Int.toNat (6 - (k114_10 + 1).toInt) < Int.toNat (6 - k114_10.toInt) from g_up (show k114_10.toInt < (k114_10 + 1).toInt by omega) (show k114_10.toInt < 6 by omega)) ⟨lv_sub hl [1, 2, 0, 4, 5, 6, 7, 8, 9, 10, 11] rfl, hP, hD, hS, ⟨by omega, by omega⟩, i_68, i_69, i_70, i_71, i_72, i_73, i_74, i_75, hmi_88, i_77, fun j hj => by rw [upd_ne (by rw [show ((80 + (5 * k91_8)) + 1).toNatClampNeg = (81 + 5 * k91_8.toInt.toNat) by have zz := g5_clamp ((80 + (5 * k91_8)) + 1); omega]; exact hj)]; exact i_78 j hj⟩
                                  ·
                                    exact absurd c_132 (by decide)
                                ·
                                  exact absurd c_131 (by decide)
                        ·
                          have i_44 : z26.toInt = (-1) := by have z := g5_neN (a := z26.toInt) (b := (-1)) (by rfl) (by decide) c_44; omega
                          refine lv_bipush (v := 24) hx hb dX12_sooner_76 (by decide) ?_
                          refine lv_goto (tgt := 83) hx hb dX12_sooner_78 (by decide) ?_
                          refine lv_istore (lv' := [(6, .int 24), (5, .int z26), (0, .ref b_o), (1, .int p_1), (2, .int p_2), (3, .int p_3), (4, .int p_4)]) hx hb dX12_sooner_83 hl (by decide) rfl (fun ls hl => ?_)
                          refine lv_iconst (v := (-1)) hx hb dX12_sooner_85 (by decide) ?_
                          refine lv_istore (lv' := [(7, .int (-1)), (6, .int 24), (5, .int z26), (0, .ref b_o), (1, .int p_1), (2, .int p_2), (3, .int p_3), (4, .int p_4)]) hx hb dX12_sooner_86 hl (by decide) rfl (fun ls hl => ?_)
                          refine lv_iconst (v := 0) hx hb dX12_sooner_88 (by decide) ?_
                          refine lv_istore (lv' := [(8, .int 0), (7, .int (-1)), (6, .int 24), (5, .int z26), (0, .ref b_o), (1, .int p_1), (2, .int p_2), (3, .int p_3), (4, .int p_4)]) hx hb dX12_sooner_89 hl (by decide) rfl (fun ls hl => ?_)
                          refine g5_loop (α := (Int32) × (Int32) × (Int32) × (Int32) × (Int32) × (Int64) × (Int64) × (Int32) × (Int32) × (Int32) × (Int32) × (Int32) × (Int32) × (Int32) × (Nat → Int32) × (Nat → Int64) × (Nat → Int64) × (Nat → Int32) × (Nat → Int32) × (Nat → Int32)) (fun (q : (Int32) × (Int32) × (Int32) × (Int32) × (Int32) × (Int64) × (Int64) × (Int32) × (Int32) × (Int32) × (Int32) × (Int32) × (Int32) × (Int32) × (Nat → Int32) × (Nat → Int64) × (Nat → Int64) × (Nat → Int32) × (Nat → Int32) × (Nat → Int32)) (ls : Array Slot) (H : Heap) (locs : List Loc) => match q with | (k91_8, k91_7, k91_6, k91_la, k91_bk, k91_va, k91_su, k91_ce, k91_ho, k91_wy, k91_bt, k91_ps, k91_tg, k91_sn, k91_ro, k91_se, k91_re, k91_pt, k91_tr, k91_ld) => lv_has ls 12 [(6, .int k91_6), (7, .int k91_7), (8, .int k91_8), (5, .int z26), (0, .ref b_o), (1, .int p_1), (2, .int p_2), (3, .int p_3), (4, .int p_4)] ∧ va_P G.1 vwCl [(b_o, (oc12 0 u_sa b_rf b_ro b_im b_ke u_fd b_tp u_td u_fr u_to u_so u_wo u_fa u_bd u_nc b_nl u_co b_op b_ar u_le b_pi b_pa u_pd u_od b_ws b_hw k91_la b_se b_re k91_bk k91_va k91_su k91_ce k91_ho k91_wy k91_bt k91_ps b_pt k91_tg k91_sn b_ip u_ic b_ah b_be b_me u_wd b_tr b_ld u_st b_wn u_id)), (b_ro, (arI G 5740 k91_ro)), (b_se, (arJ G 13 k91_se)), (b_re, (arJ G 400 k91_re)), (b_pt, (arI G 200 k91_pt)), (b_tr, (arZ G 1536 k91_tr)), (b_ld, (arZ G 1536 k91_ld))] H ∧ va_D A [(b_o, (oc12 0 u_sa b_rf b_ro b_im b_ke u_fd b_tp u_td u_fr u_to u_so u_wo u_fa u_bd u_nc b_nl u_co b_op b_ar u_le b_pi b_pa u_pd u_od b_ws b_hw k91_la b_se b_re k91_bk k91_va k91_su k91_ce k91_ho k91_wy k91_bt k91_ps b_pt k91_tg k91_sn b_ip u_ic b_ah b_be b_me u_wd b_tr b_ld u_st b_wn u_id)), (b_ro, (arI G 5740 k91_ro)), (b_se, (arJ G 13 k91_se)), (b_re, (arJ G 400 k91_re)), (b_pt, (arI G 200 k91_pt)), (b_tr, (arZ G 1536 k91_tr)), (b_ld, (arZ G 1536 k91_ld))] ∧ va_S A s.heap H locs ∧ (0 ≤ k91_8.toInt ∧ k91_8.toInt ≤ 6) ∧ (0 ≤ k91_6.toInt ∧ k91_6.toInt ≤ 24) ∧ (0 ≤ k91_la.toInt ∧ k91_la.toInt ≤ 4840) ∧ (0 ≤ k91_bk.toInt ∧ k91_bk.toInt ≤ 1) ∧ (0 ≤ k91_ce.toInt ∧ k91_ce.toInt ≤ 63) ∧ (0 ≤ k91_ho.toInt ∧ k91_ho.toInt ≤ 23) ∧ (0 ≤ k91_wy.toInt ∧ k91_wy.toInt ≤ 3) ∧ (0 ≤ k91_bt.toInt ∧ k91_bt.toInt ≤ 1000000) ∧ (0 ≤ k91_ps.toInt ∧ k91_ps.toInt ≤ 200) ∧ (MI k91_ro) ∧ (PTI k91_pt) ∧ (k91_ro = v_ro)) (fun (q : (Int32) × (Int32) × (Int32) × (Int32) × (Int32) × (Int64) × (Int64) × (Int32) × (Int32) × (Int32) × (Int32) × (Int32) × (Int32) × (Int32) × (Nat → Int32) × (Nat → Int64) × (Nat → Int64) × (Nat → Int32) × (Nat → Int32) × (Nat → Int32)) => match q with | (k91_8, k91_7, k91_6, k91_la, k91_bk, k91_va, k91_su, k91_ce, k91_ho, k91_wy, k91_bt, k91_ps, k91_tg, k91_sn, k91_ro, k91_se, k91_re, k91_pt, k91_tr, k91_ld) => Int.toNat (6 - k91_8.toInt)) (0, (-1), 24, z27, z28, z29, z30, z31, z32, z33, z34, z35, z36, z37, v_ro, z38, z39, z40, z41, z42) ⟨lv_sub hl [2, 1, 0, 3, 4, 5, 6, 7, 8] rfl, hP, hD, hS, ⟨by decide, by decide⟩, ⟨by decide, by decide⟩, i_18, i_19, i_20, i_21, i_22, i_23, i_24, r_ro, i_25, rfl⟩ ?_
                          rintro ⟨k91_8, k91_7, k91_6, k91_la, k91_bk, k91_va, k91_su, k91_ce, k91_ho, k91_wy, k91_bt, k91_ps, k91_tg, k91_sn, k91_ro, k91_se, k91_re, k91_pt, k91_tr, k91_ld⟩ ls H locs ⟨hl, hP, hD, hS, i_134, i_135, i_136, i_137, i_138, i_139, i_140, i_141, i_142, i_143, i_144, i_145⟩ ih_91_146
                          have hl : lv_has ls 12 [(6, .int k91_6), (7, .int k91_7), (8, .int k91_8), (5, .int z26), (0, .ref b_o), (1, .int p_1), (2, .int p_2), (3, .int p_3), (4, .int p_4)] := hl
                          have i_134 : 0 ≤ k91_8.toInt ∧ k91_8.toInt ≤ 6 := i_134
                          have i_135 : 0 ≤ k91_6.toInt ∧ k91_6.toInt ≤ 24 := i_135
                          have i_136 : 0 ≤ k91_la.toInt ∧ k91_la.toInt ≤ 4840 := i_136
                          have i_137 : 0 ≤ k91_bk.toInt ∧ k91_bk.toInt ≤ 1 := i_137
                          have i_138 : 0 ≤ k91_ce.toInt ∧ k91_ce.toInt ≤ 63 := i_138
                          have i_139 : 0 ≤ k91_ho.toInt ∧ k91_ho.toInt ≤ 23 := i_139
                          have i_140 : 0 ≤ k91_wy.toInt ∧ k91_wy.toInt ≤ 3 := i_140
                          have i_141 : 0 ≤ k91_bt.toInt ∧ k91_bt.toInt ≤ 1000000 := i_141
                          have i_142 : 0 ≤ k91_ps.toInt ∧ k91_ps.toInt ≤ 200 := i_142
                          have i_143 : MI k91_ro := i_143
                          have i_144 : PTI k91_pt := i_144
                          have i_145 : k91_ro = v_ro := i_145
                          refine g5_rs [(b_o, (oc12 0 u_sa b_rf b_ro b_im b_ke u_fd b_tp u_td u_fr u_to u_so u_wo u_fa u_bd u_nc b_nl u_co b_op b_ar u_le b_pi b_pa u_pd u_od b_ws b_hw k91_la b_se b_re k91_bk k91_va k91_su k91_ce k91_ho k91_wy k91_bt k91_ps b_pt k91_tg k91_sn b_ip u_ic b_ah b_be b_me u_wd b_tr b_ld u_st b_wn u_id)), (b_ro, (arI G 5740 k91_ro)), (b_se, (arJ G 13 k91_se)), (b_re, (arJ G 400 k91_re)), (b_pt, (arI G 200 k91_pt)), (b_tr, (arZ G 1536 k91_tr)), (b_ld, (arZ G 1536 k91_ld))] hP hD (fun hP hD => ?_)
                          refine lv_iload hx hb dX12_sooner_91 (lv_at hl 2 rfl) ?_
                          refine lv_aload_n hx hb dX12_sooner_93 rfl (lv_at hl 4 rfl) ?_
                          refine va_get (D := G.1) (ci := 12) (v := .ref b_ro) (C := RX12) (T := TX12) (N := 52) hx hb hts inG_X12 hown hK hP 0 rfl rfl 3 (by decide) (hts _ fl_X12_13) (fun _ h9 => h9) rfl dX12_sooner_94 ?_
                          refine lv_iconst (v := 0) hx hb dX12_sooner_97 (by decide) ?_
                          refine va_iald hx hb hK hP 1 0 rfl rfl (i := 0) (by unfold vp_in; decide) dX12_sooner_98 ?_
                          refine g5_ti (v := (k91_ro 0)) rfl ?_
                          have hr_147 : 0 ≤ (k91_ro 0).toInt ∧ (k91_ro 0).toInt ≤ 6 := mi_0 i_143
                          refine lv_icmp_ge (tgt := 235) hx hb dX12_sooner_99 (by decide) (fun c_148 => ?_) (fun c_148 => ?_)
                          ·
                            have i_148 : k91_8.toInt ≥ (k91_ro 0).toInt := by have z := g5_ge (a := k91_8.toInt) (b := (k91_ro 0).toInt) (by rfl) (by rfl) c_148; omega
                            refine lv_iload hx hb dX12_sooner_235 (lv_at hl 1 rfl) ?_
                            refine lv_iconst (v := (-1)) hx hb dX12_sooner_237 (by decide) ?_
                            refine lv_icmp_ne (tgt := 245) hx hb dX12_sooner_238 (by decide) (fun c_149 => ?_) (fun c_149 => ?_)
                            ·
                              have n_149 : gNe (k91_7.toInt) ((-1)) := by have z := g5_ne (a := k91_7.toInt) (b := (-1)) (by rfl) (by decide) c_149; unfold gNe; omega
                              refine lv_iload hx hb dX12_sooner_245 (lv_at hl 8 rfl) ?_
                              refine lv_if_ne (tgt := 255) hx hb dX12_sooner_247 (by decide) (fun c_150 => ?_) (fun c_150 => ?_)
                              ·
                                have n_150 : gNe (p_4.toInt) (0) := by have z := g5_ne (a := p_4.toInt) (b := 0) (by rfl) (by decide) c_150; unfold gNe; omega
                                have i_150 : p_4.toInt ≥ 1 := by have z := g5_ne (a := p_4.toInt) (b := 0) (by rfl) (by decide) c_150; omega
                                refine lv_iload hx hb dX12_sooner_255 (lv_at hl 8 rfl) ?_
                                refine lv_iconst (v := 1) hx hb dX12_sooner_257 (by decide) ?_
                                refine lv_icmp_ne (tgt := 269) hx hb dX12_sooner_258 (by decide) (fun c_151 => ?_) (fun c_151 => ?_)
                                ·
                                  have n_151 : gNe (p_4.toInt) (1) := by have z := g5_ne (a := p_4.toInt) (b := 1) (by rfl) (by decide) c_151; unfold gNe; omega
                                  have i_151 : p_4.toInt ≥ 2 := by have z := g5_ne (a := p_4.toInt) (b := 1) (by rfl) (by decide) c_151; omega
                                  refine lv_iload hx hb dX12_sooner_269 (lv_at hl 1 rfl) ?_
                                  refine lv_bipush (v := 6) hx hb dX12_sooner_271 (by decide) ?_
                                  refine lv_irem hx hb dX12_sooner_273 (by decide) ?_
                                  exact W.iret (v := (k91_7 - k91_7 / 6 * 6)) hx hb hr (fun t ht hW => ⟨⟨(k91_7 - k91_7 / 6 * 6), [(b_o, (oc12 0 u_sa b_rf b_ro b_im b_ke u_fd b_tp u_td u_fr u_to u_so u_wo u_fa u_bd u_nc b_nl u_co b_op b_ar u_le b_pi b_pa u_pd u_od b_ws b_hw k91_la b_se b_re k91_bk k91_va k91_su k91_ce k91_ho k91_wy k91_bt k91_ps b_pt k91_tg k91_sn b_ip u_ic b_ah b_be b_me u_wd b_tr b_ld u_st b_wn u_id)), (b_ro, (arI G 5740 k91_ro)), (b_se, (arJ G 13 k91_se)), (b_re, (arJ G 400 k91_re)), (b_pt, (arI G 200 k91_pt)), (b_tr, (arZ G 1536 k91_tr)), (b_ld, (arZ G 1536 k91_ld))], rfl, ⟨(k91_7 - k91_7 / 6 * 6), 0, k91_la, k91_bk, k91_va, k91_su, k91_ce, k91_ho, k91_wy, k91_bt, k91_ps, k91_tg, k91_sn, k91_ro, k91_se, k91_re, k91_pt, k91_tr, k91_ld, i_143, i_136, i_137, i_138, i_139, i_140, i_141, i_142, i_144, i_145, rfl, rfl⟩, by rw [ht]; exact hP.sub [0, 1, 2, 3, 4, 5, 6] rfl, hD.sub [0, 1, 2, 3, 4, 5, 6] (by decide) rfl⟩, hS.F ht⟩) hS.2.2 dX12_sooner_274
                                ·
                                  have i_151 : p_4.toInt = 1 := by have z := g5_neN (a := p_4.toInt) (b := 1) (by rfl) (by decide) c_151; omega
                                  refine lv_iload hx hb dX12_sooner_261 (lv_at hl 1 rfl) ?_
                                  refine lv_bipush (v := 6) hx hb dX12_sooner_263 (by decide) ?_
                                  refine lv_idiv hx hb dX12_sooner_265 (by decide) ?_
                                  refine lv_goto (tgt := 274) hx hb dX12_sooner_266 (by decide) ?_
                                  exact W.iret (v := (k91_7 / 6)) hx hb hr (fun t ht hW => ⟨⟨(k91_7 / 6), [(b_o, (oc12 0 u_sa b_rf b_ro b_im b_ke u_fd b_tp u_td u_fr u_to u_so u_wo u_fa u_bd u_nc b_nl u_co b_op b_ar u_le b_pi b_pa u_pd u_od b_ws b_hw k91_la b_se b_re k91_bk k91_va k91_su k91_ce k91_ho k91_wy k91_bt k91_ps b_pt k91_tg k91_sn b_ip u_ic b_ah b_be b_me u_wd b_tr b_ld u_st b_wn u_id)), (b_ro, (arI G 5740 k91_ro)), (b_se, (arJ G 13 k91_se)), (b_re, (arJ G 400 k91_re)), (b_pt, (arI G 200 k91_pt)), (b_tr, (arZ G 1536 k91_tr)), (b_ld, (arZ G 1536 k91_ld))], rfl, ⟨(k91_7 / 6), 0, k91_la, k91_bk, k91_va, k91_su, k91_ce, k91_ho, k91_wy, k91_bt, k91_ps, k91_tg, k91_sn, k91_ro, k91_se, k91_re, k91_pt, k91_tr, k91_ld, i_143, i_136, i_137, i_138, i_139, i_140, i_141, i_142, i_144, i_145, rfl, rfl⟩, by rw [ht]; exact hP.sub [0, 1, 2, 3, 4, 5, 6] rfl, hD.sub [0, 1, 2, 3, 4, 5, 6] (by decide) rfl⟩, hS.F ht⟩) hS.2.2 dX12_sooner_274
                              ·
                                have i_150 : p_4.toInt = 0 := by have z := g5_neN (a := p_4.toInt) (b := 0) (by rfl) (by decide) c_150; omega
                                refine lv_iload hx hb dX12_sooner_250 (lv_at hl 0 rfl) ?_
                                refine lv_goto (tgt := 274) hx hb dX12_sooner_252 (by decide) ?_
                                exact W.iret (v := k91_6) hx hb hr (fun t ht hW => ⟨⟨k91_6, [(b_o, (oc12 0 u_sa b_rf b_ro b_im b_ke u_fd b_tp u_td u_fr u_to u_so u_wo u_fa u_bd u_nc b_nl u_co b_op b_ar u_le b_pi b_pa u_pd u_od b_ws b_hw k91_la b_se b_re k91_bk k91_va k91_su k91_ce k91_ho k91_wy k91_bt k91_ps b_pt k91_tg k91_sn b_ip u_ic b_ah b_be b_me u_wd b_tr b_ld u_st b_wn u_id)), (b_ro, (arI G 5740 k91_ro)), (b_se, (arJ G 13 k91_se)), (b_re, (arJ G 400 k91_re)), (b_pt, (arI G 200 k91_pt)), (b_tr, (arZ G 1536 k91_tr)), (b_ld, (arZ G 1536 k91_ld))], rfl, ⟨k91_6, 0, k91_la, k91_bk, k91_va, k91_su, k91_ce, k91_ho, k91_wy, k91_bt, k91_ps, k91_tg, k91_sn, k91_ro, k91_se, k91_re, k91_pt, k91_tr, k91_ld, i_143, i_136, i_137, i_138, i_139, i_140, i_141, i_142, i_144, i_145, rfl, rfl⟩, by rw [ht]; exact hP.sub [0, 1, 2, 3, 4, 5, 6] rfl, hD.sub [0, 1, 2, 3, 4, 5, 6] (by decide) rfl⟩, hS.F ht⟩) hS.2.2 dX12_sooner_274
                            ·
                              have i_149 : k91_7.toInt = (-1) := by have z := g5_neN (a := k91_7.toInt) (b := (-1)) (by rfl) (by decide) c_149; omega
                              refine lv_iconst (v := (-1)) hx hb dX12_sooner_241 (by decide) ?_
                              refine lv_goto (tgt := 274) hx hb dX12_sooner_242 (by decide) ?_
                              exact W.iret (v := (-1)) hx hb hr (fun t ht hW => ⟨⟨(-1), [(b_o, (oc12 0 u_sa b_rf b_ro b_im b_ke u_fd b_tp u_td u_fr u_to u_so u_wo u_fa u_bd u_nc b_nl u_co b_op b_ar u_le b_pi b_pa u_pd u_od b_ws b_hw k91_la b_se b_re k91_bk k91_va k91_su k91_ce k91_ho k91_wy k91_bt k91_ps b_pt k91_tg k91_sn b_ip u_ic b_ah b_be b_me u_wd b_tr b_ld u_st b_wn u_id)), (b_ro, (arI G 5740 k91_ro)), (b_se, (arJ G 13 k91_se)), (b_re, (arJ G 400 k91_re)), (b_pt, (arI G 200 k91_pt)), (b_tr, (arZ G 1536 k91_tr)), (b_ld, (arZ G 1536 k91_ld))], rfl, ⟨(-1), 0, k91_la, k91_bk, k91_va, k91_su, k91_ce, k91_ho, k91_wy, k91_bt, k91_ps, k91_tg, k91_sn, k91_ro, k91_se, k91_re, k91_pt, k91_tr, k91_ld, i_143, i_136, i_137, i_138, i_139, i_140, i_141, i_142, i_144, i_145, rfl, rfl⟩, by rw [ht]; exact hP.sub [0, 1, 2, 3, 4, 5, 6] rfl, hD.sub [0, 1, 2, 3, 4, 5, 6] (by decide) rfl⟩, hS.F ht⟩) hS.2.2 dX12_sooner_274
                          ·
                            have i_148 : k91_8.toInt < (k91_ro 0).toInt := by have z := g5_geN (a := k91_8.toInt) (b := (k91_ro 0).toInt) (by rfl) (by rfl) c_148; omega
                            refine lv_aload_n hx hb dX12_sooner_102 rfl (lv_at hl 4 rfl) ?_
                            refine lv_iload hx hb dX12_sooner_103 (lv_at hl 2 rfl) ?_
                            refine lv_iconst (v := 1) hx hb dX12_sooner_105 (by decide) ?_
                            obtain ⟨hPc, hDc, hFc⟩ := g5_sub3 (wc := [(b_o, (oc12 0 u_sa b_rf b_ro b_im b_ke u_fd b_tp u_td u_fr u_to u_so u_wo u_fa u_bd u_nc b_nl u_co b_op b_ar u_le b_pi b_pa u_pd u_od b_ws b_hw k91_la b_se b_re k91_bk k91_va k91_su k91_ce k91_ho k91_wy k91_bt k91_ps b_pt k91_tg k91_sn b_ip u_ic b_ah b_be b_me u_wd b_tr b_ld u_st b_wn u_id)), (b_ro, (arI G 5740 k91_ro))]) hP hD hS hA [0, 1] (by decide) rfl
                            refine va_calli (va_runV (As := [.int k91_8, .int 1]) (rest := []) ⟨hx, hb, hml, hown, hts⟩ (n_ofGlass1S l G b_o b_ro b_rf b_im b_ke b_tp b_nl b_op b_ar b_pi b_pa b_ws b_hw b_se b_re b_pt b_ip b_ah b_be b_me b_tr b_ld b_wn H.size 0 u_sa u_fd u_td u_fr u_to u_so u_fa u_bd u_nc u_co u_le u_pd u_od k91_la k91_bk k91_ce k91_ho k91_wy k91_bt k91_ps k91_tg k91_sn u_ic u_wd u_id k91_8 u_wo k91_va k91_su u_st k91_ro h_u_td h_u_fr h_u_to h_u_bd h_u_nc h_u_co h_u_pd i_136 i_137 i_138 i_139 i_140 i_141 i_142 h_u_ic h_u_id ⟨by omega, by omega⟩ (i_143)) (cwV 2 hts gV_X12_134 rfl rfl rfl hv_X12_ofGlass ⟨Nat.le_of_ble_eq_true rfl, Nat.le_of_ble_eq_true rfl⟩) (g5_preV hPc hK hDc hN hT hS hFc (ci := 12) (q0 := 0) rfl rfl) rfl rfl hl.1 rfl (lv_room (Nat.le_of_ble_eq_true rfl)) dX12_sooner_106 ⟨Nat.le_of_ble_eq_true rfl, Nat.le_of_ble_eq_true rfl⟩) hS (fun q _ h => hFc q h) hFc (fun r u t H1 locs ht hvm hw hB hz1 hk1 hS => ?_)
                            obtain ⟨hP1, hD1⟩ := hB
                            rw [ht] at hP1
                            obtain ⟨z154, i_152, i_153, y155, rfl⟩ := hw
                            have i_152 : 0 ≤ z154.toInt ∧ z154.toInt ≤ 5 := i_152
                            have i_153 : z154 = k91_ro (80 + 5 * k91_8.toInt.toNat + 1) := i_153
                            obtain ⟨hP, hD⟩ := va_join (wr := [(b_se, (arJ G 13 k91_se)), (b_re, (arJ G 400 k91_re)), (b_pt, (arI G 200 k91_pt)), (b_tr, (arZ G 1536 k91_tr)), (b_ld, (arZ G 1536 k91_ld))]) hP hD [0, 1] [2, 3, 4, 5, 6] rfl rfl (by decide) (by decide) hk1 hFc hP1 hD1
                            generalize H1 = H at hP hS ⊢
                            refine g5_rs [(b_se, (arJ G 13 k91_se)), (b_re, (arJ G 400 k91_re)), (b_pt, (arI G 200 k91_pt)), (b_tr, (arZ G 1536 k91_tr)), (b_ld, (arZ G 1536 k91_ld)), (b_o, (oc12 0 u_sa b_rf b_ro b_im b_ke u_fd b_tp u_td u_fr u_to u_so u_wo u_fa u_bd u_nc b_nl u_co b_op b_ar u_le b_pi b_pa u_pd u_od b_ws b_hw k91_la b_se b_re k91_bk k91_va k91_su k91_ce k91_ho k91_wy k91_bt k91_ps b_pt k91_tg k91_sn b_ip u_ic b_ah b_be b_me u_wd b_tr b_ld u_st b_wn u_id)), (b_ro, (arI G 5740 k91_ro))] hP hD (fun hP hD => ?_)
                            refine g5_ti (v := z154) y155 ?_
                            refine lv_istore (lv' := [(9, .int z154), (6, .int k91_6), (7, .int k91_7), (8, .int k91_8), (5, .int z26), (0, .ref b_o), (1, .int p_1), (2, .int p_2), (3, .int p_3), (4, .int p_4)]) hx hb dX12_sooner_109 hl (by decide) rfl (fun ls hl => ?_)
                            refine lv_iconst (v := 0) hx hb dX12_sooner_111 (by decide) ?_
                            refine lv_istore (lv' := [(10, .int 0), (9, .int z154), (6, .int k91_6), (7, .int k91_7), (8, .int k91_8), (5, .int z26), (0, .ref b_o), (1, .int p_1), (2, .int p_2), (3, .int p_3), (4, .int p_4)]) hx hb dX12_sooner_112 hl (by decide) rfl (fun ls hl => ?_)
                            refine g5_loop (α := (Int32) × (Int32) × (Int32) × (Int32) × (Int32) × (Int64) × (Int64) × (Int32) × (Int32) × (Int32) × (Int32) × (Int32) × (Int32) × (Int32) × (Nat → Int32) × (Nat → Int64) × (Nat → Int64) × (Nat → Int32) × (Nat → Int32) × (Nat → Int32)) (fun (q : (Int32) × (Int32) × (Int32) × (Int32) × (Int32) × (Int64) × (Int64) × (Int32) × (Int32) × (Int32) × (Int32) × (Int32) × (Int32) × (Int32) × (Nat → Int32) × (Nat → Int64) × (Nat → Int64) × (Nat → Int32) × (Nat → Int32) × (Nat → Int32)) (ls : Array Slot) (H : Heap) (locs : List Loc) => match q with | (k114_10, k114_6, k114_7, k114_la, k114_bk, k114_va, k114_su, k114_ce, k114_ho, k114_wy, k114_bt, k114_ps, k114_tg, k114_sn, k114_ro, k114_se, k114_re, k114_pt, k114_tr, k114_ld) => lv_has ls 12 [(6, .int k114_6), (7, .int k114_7), (10, .int k114_10), (9, .int z154), (8, .int k91_8), (5, .int z26), (0, .ref b_o), (1, .int p_1), (2, .int p_2), (3, .int p_3), (4, .int p_4)] ∧ va_P G.1 vwCl [(b_se, (arJ G 13 k114_se)), (b_re, (arJ G 400 k114_re)), (b_pt, (arI G 200 k114_pt)), (b_tr, (arZ G 1536 k114_tr)), (b_ld, (arZ G 1536 k114_ld)), (b_o, (oc12 0 u_sa b_rf b_ro b_im b_ke u_fd b_tp u_td u_fr u_to u_so u_wo u_fa u_bd u_nc b_nl u_co b_op b_ar u_le b_pi b_pa u_pd u_od b_ws b_hw k114_la b_se b_re k114_bk k114_va k114_su k114_ce k114_ho k114_wy k114_bt k114_ps b_pt k114_tg k114_sn b_ip u_ic b_ah b_be b_me u_wd b_tr b_ld u_st b_wn u_id)), (b_ro, (arI G 5740 k114_ro))] H ∧ va_D A [(b_se, (arJ G 13 k114_se)), (b_re, (arJ G 400 k114_re)), (b_pt, (arI G 200 k114_pt)), (b_tr, (arZ G 1536 k114_tr)), (b_ld, (arZ G 1536 k114_ld)), (b_o, (oc12 0 u_sa b_rf b_ro b_im b_ke u_fd b_tp u_td u_fr u_to u_so u_wo u_fa u_bd u_nc b_nl u_co b_op b_ar u_le b_pi b_pa u_pd u_od b_ws b_hw k114_la b_se b_re k114_bk k114_va k114_su k114_ce k114_ho k114_wy k114_bt k114_ps b_pt k114_tg k114_sn b_ip u_ic b_ah b_be b_me u_wd b_tr b_ld u_st b_wn u_id)), (b_ro, (arI G 5740 k114_ro))] ∧ va_S A s.heap H locs ∧ (0 ≤ k114_10.toInt ∧ k114_10.toInt ≤ 6) ∧ (0 ≤ k114_6.toInt ∧ k114_6.toInt ≤ 24) ∧ (0 ≤ k114_la.toInt ∧ k114_la.toInt ≤ 4840) ∧ (0 ≤ k114_bk.toInt ∧ k114_bk.toInt ≤ 1) ∧ (0 ≤ k114_ce.toInt ∧ k114_ce.toInt ≤ 63) ∧ (0 ≤ k114_ho.toInt ∧ k114_ho.toInt ≤ 23) ∧ (0 ≤ k114_wy.toInt ∧ k114_wy.toInt ≤ 3) ∧ (0 ≤ k114_bt.toInt ∧ k114_bt.toInt ≤ 1000000) ∧ (0 ≤ k114_ps.toInt ∧ k114_ps.toInt ≤ 200) ∧ (MI k114_ro) ∧ (PTI k114_pt) ∧ (∀ j : Nat, j ≠ (81 + 5 * k91_8.toInt.toNat) → k114_ro j = v_ro j)) (fun (q : (Int32) × (Int32) × (Int32) × (Int32) × (Int32) × (Int64) × (Int64) × (Int32) × (Int32) × (Int32) × (Int32) × (Int32) × (Int32) × (Int32) × (Nat → Int32) × (Nat → Int64) × (Nat → Int64) × (Nat → Int32) × (Nat → Int32) × (Nat → Int32)) => match q with | (k114_10, k114_6, k114_7, k114_la, k114_bk, k114_va, k114_su, k114_ce, k114_ho, k114_wy, k114_bt, k114_ps, k114_tg, k114_sn, k114_ro, k114_se, k114_re, k114_pt, k114_tr, k114_ld) => Int.toNat (6 - k114_10.toInt)) (0, k91_6, k91_7, k91_la, k91_bk, k91_va, k91_su, k91_ce, k91_ho, k91_wy, k91_bt, k91_ps, k91_tg, k91_sn, k91_ro, k91_se, k91_re, k91_pt, k91_tr, k91_ld) ⟨lv_sub hl [2, 3, 0, 1, 4, 5, 6, 7, 8, 9, 10] rfl, hP, hD, hS, ⟨by decide, by decide⟩, i_135, i_136, i_137, i_138, i_139, i_140, i_141, i_142, i_143, i_144, fun j _ => by rw [i_145]⟩ ?_
                            rintro ⟨k114_10, k114_6, k114_7, k114_la, k114_bk, k114_va, k114_su, k114_ce, k114_ho, k114_wy, k114_bt, k114_ps, k114_tg, k114_sn, k114_ro, k114_se, k114_re, k114_pt, k114_tr, k114_ld⟩ ls H locs ⟨hl, hP, hD, hS, i_156, i_157, i_158, i_159, i_160, i_161, i_162, i_163, i_164, i_165, i_166, i_167⟩ ih_114_168
                            have hl : lv_has ls 12 [(6, .int k114_6), (7, .int k114_7), (10, .int k114_10), (9, .int z154), (8, .int k91_8), (5, .int z26), (0, .ref b_o), (1, .int p_1), (2, .int p_2), (3, .int p_3), (4, .int p_4)] := hl
                            have i_156 : 0 ≤ k114_10.toInt ∧ k114_10.toInt ≤ 6 := i_156
                            have i_157 : 0 ≤ k114_6.toInt ∧ k114_6.toInt ≤ 24 := i_157
                            have i_158 : 0 ≤ k114_la.toInt ∧ k114_la.toInt ≤ 4840 := i_158
                            have i_159 : 0 ≤ k114_bk.toInt ∧ k114_bk.toInt ≤ 1 := i_159
                            have i_160 : 0 ≤ k114_ce.toInt ∧ k114_ce.toInt ≤ 63 := i_160
                            have i_161 : 0 ≤ k114_ho.toInt ∧ k114_ho.toInt ≤ 23 := i_161
                            have i_162 : 0 ≤ k114_wy.toInt ∧ k114_wy.toInt ≤ 3 := i_162
                            have i_163 : 0 ≤ k114_bt.toInt ∧ k114_bt.toInt ≤ 1000000 := i_163
                            have i_164 : 0 ≤ k114_ps.toInt ∧ k114_ps.toInt ≤ 200 := i_164
                            have i_165 : MI k114_ro := i_165
                            have i_166 : PTI k114_pt := i_166
                            have i_167 : ∀ j : Nat, j ≠ (81 + 5 * k91_8.toInt.toNat) → k114_ro j = v_ro j := i_167
                            refine g5_rs [(b_se, (arJ G 13 k114_se)), (b_re, (arJ G 400 k114_re)), (b_pt, (arI G 200 k114_pt)), (b_tr, (arZ G 1536 k114_tr)), (b_ld, (arZ G 1536 k114_ld)), (b_o, (oc12 0 u_sa b_rf b_ro b_im b_ke u_fd b_tp u_td u_fr u_to u_so u_wo u_fa u_bd u_nc b_nl u_co b_op b_ar u_le b_pi b_pa u_pd u_od b_ws b_hw k114_la b_se b_re k114_bk k114_va k114_su k114_ce k114_ho k114_wy k114_bt k114_ps b_pt k114_tg k114_sn b_ip u_ic b_ah b_be b_me u_wd b_tr b_ld u_st b_wn u_id)), (b_ro, (arI G 5740 k114_ro))] hP hD (fun hP hD => ?_)
                            refine lv_iload hx hb dX12_sooner_114 (lv_at hl 2 rfl) ?_
                            refine lv_bipush (v := 6) hx hb dX12_sooner_116 (by decide) ?_
                            refine lv_icmp_ge (tgt := 213) hx hb dX12_sooner_118 (by decide) (fun c_169 => ?_) (fun c_169 => ?_)
                            ·
                              have i_169 : k114_10.toInt ≥ 6 := by have z := g5_ge (a := k114_10.toInt) (b := 6) (by rfl) (by decide) c_169; omega
                              refine lv_aload_n hx hb dX12_sooner_213 rfl (lv_at hl 6 rfl) ?_
                              refine va_get (D := G.1) (ci := 12) (v := .ref b_ro) (C := RX12) (T := TX12) (N := 52) hx hb hts inG_X12 hown hK hP 5 rfl rfl 3 (by decide) (hts _ fl_X12_13) (fun _ h9 => h9) rfl dX12_sooner_214 ?_
                              refine lv_bipush (v := 80) hx hb dX12_sooner_217 (by decide) ?_
                              refine lv_iconst (v := 5) hx hb dX12_sooner_219 (by decide) ?_
                              refine lv_iload hx hb dX12_sooner_220 (lv_at hl 4 rfl) ?_
                              refine lv_imul hx hb dX12_sooner_222 ?_
                              have t_170 : (5 * k91_8).toInt = 5 * k91_8.toInt := g5_imul (a := 5) (b := k91_8.toInt) (by decide) (by rfl) (by omega) (by omega)
                              refine lv_iadd hx hb dX12_sooner_223 ?_
                              have t_171 : (80 + (5 * k91_8)).toInt = 80 + (5 * k91_8).toInt := g5_iadd (a := 80) (b := (5 * k91_8).toInt) (by decide) (by rfl) (by omega) (by omega)
                              refine lv_iconst (v := 1) hx hb dX12_sooner_224 (by decide) ?_
                              refine lv_iadd hx hb dX12_sooner_225 ?_
                              have t_172 : ((80 + (5 * k91_8)) + 1).toInt = (80 + (5 * k91_8)).toInt + 1 := g5_iadd (a := (80 + (5 * k91_8)).toInt) (b := 1) (by rfl) (by decide) (by omega) (by omega)
                              refine lv_iload hx hb dX12_sooner_226 (lv_at hl 3 rfl) ?_
                              refine va_iast hx hb hK hP hD hS 6 0 rfl rfl (i := ((80 + (5 * k91_8)) + 1)) (x := z154) (vp_in_iff.mpr ⟨by omega, by omega⟩) dX12_sooner_228 (fun H locs hP hD hS => ?_)
                              refine g5_rs [(b_se, (arJ G 13 k114_se)), (b_re, (arJ G 400 k114_re)), (b_pt, (arI G 200 k114_pt)), (b_tr, (arZ G 1536 k114_tr)), (b_ld, (arZ G 1536 k114_ld)), (b_o, (oc12 0 u_sa b_rf b_ro b_im b_ke u_fd b_tp u_td u_fr u_to u_so u_wo u_fa u_bd u_nc b_nl u_co b_op b_ar u_le b_pi b_pa u_pd u_od b_ws b_hw k114_la b_se b_re k114_bk k114_va k114_su k114_ce k114_ho k114_wy k114_bt k114_ps b_pt k114_tg k114_sn b_ip u_ic b_ah b_be b_me u_wd b_tr b_ld u_st b_wn u_id)), (b_ro, (arI G 5740 (upd k114_ro ((80 + (5 * k91_8)) + 1).toNatClampNeg z154)))] hP hD (fun hP hD => ?_)
                              refine lv_iinc (v := (k91_8 + 1)) (lv' := [(8, .int (k91_8 + 1)), (6, .int k114_6), (7, .int k114_7), (10, .int k114_10), (9, .int z154), (5, .int z26), (0, .ref b_o), (1, .int p_1), (2, .int p_2), (3, .int p_3), (4, .int p_4)]) hx hb dX12_sooner_229 hl (k := 4) rfl rfl (by decide) rfl (fun ls hl => ?_)
                              have t_173 : (k91_8 + 1).toInt = k91_8.toInt + 1 := g5_iadd (a := k91_8.toInt) (b := 1) rfl (by decide) (by omega) (by omega)
                              refine lv_goto (tgt := 91) hx hb dX12_sooner_232 (by decide) ?_
                              exact ih_91_146 ((k91_8 + 1), k114_7, k114_6, k114_la, k114_bk, k114_va, k114_su, k114_ce, k114_ho, k114_wy, k114_bt, k114_ps, k114_tg, k114_sn, (upd k114_ro ((80 + (5 * k91_8)) + 1).toNatClampNeg z154), k114_se, k114_re, k114_pt, k114_tr, k114_ld) ls H locs (show Int.toNat (6 - (k91_8 + 1).toInt) < Int.toNat (6 - k91_8.toInt) from g_up (show k91_8.toInt < (k91_8 + 1).toInt by omega) (show k91_8.toInt < 6 by omega)) ⟨lv_sub hl [1, 2, 0, 5, 6, 7, 8, 9, 10] rfl, hP.sub [5, 6, 0, 1, 2, 3, 4] rfl, hD.sub [5, 6, 0, 1, 2, 3, 4] (by decide) rfl, hS, ⟨by omega, by omega⟩, i_157, i_158, i_159, i_160, i_161, i_162, i_163, i_164, mi_upd i_165 (by have zz := g5_clamp ((80 + (5 * k91_8)) + 1); unfold rOK; refine ⟨?_, ?_, ?_, ?_, ?_, ?_, ?_, ?_, ?_, ?_, ?_, ?_, ?_, ?_, ?_, ?_, ?_, ?_, ?_, ?_, ?_, ?_, ?_⟩ <;> (intros; omega)) (by have zz := g5_clamp ((80 + (5 * k91_8)) + 1); omega) (by have zz := g5_clamp ((80 + (5 * k91_8)) + 1); omega) (by have zz := g5_clamp ((80 + (5 * k91_8)) + 1); omega) (by have zz := g5_clamp ((80 + (5 * k91_8)) + 1); omega) (by have zz := g5_clamp ((80 + (5 * k91_8)) + 1); omega), i_166, by rw [show ((80 + (5 * k91_8)) + 1).toNatClampNeg = (81 + 5 * k91_8.toInt.toNat) by have zz := g5_clamp ((80 + (5 * k91_8)) + 1); omega]; exact upd_but_self i_167 (by rw [i_153, i_145]; congr 1; omega)⟩
                            ·
                              have i_169 : k114_10.toInt < 6 := by have z := g5_geN (a := k114_10.toInt) (b := 6) (by rfl) (by decide) c_169; omega
                              refine lv_aload_n hx hb dX12_sooner_121 rfl (lv_at hl 6 rfl) ?_
                              refine va_get (D := G.1) (ci := 12) (v := .ref b_ro) (C := RX12) (T := TX12) (N := 52) hx hb hts inG_X12 hown hK hP 5 rfl rfl 3 (by decide) (hts _ fl_X12_13) (fun _ h9 => h9) rfl dX12_sooner_122 ?_
                              refine lv_bipush (v := 80) hx hb dX12_sooner_125 (by decide) ?_
                              refine lv_iconst (v := 5) hx hb dX12_sooner_127 (by decide) ?_
                              refine lv_iload hx hb dX12_sooner_128 (lv_at hl 4 rfl) ?_
                              refine lv_imul hx hb dX12_sooner_130 ?_
                              have t_174 : (5 * k91_8).toInt = 5 * k91_8.toInt := g5_imul (a := 5) (b := k91_8.toInt) (by decide) (by rfl) (by omega) (by omega)
                              refine lv_iadd hx hb dX12_sooner_131 ?_
                              have t_175 : (80 + (5 * k91_8)).toInt = 80 + (5 * k91_8).toInt := g5_iadd (a := 80) (b := (5 * k91_8).toInt) (by decide) (by rfl) (by omega) (by omega)
                              refine lv_iconst (v := 1) hx hb dX12_sooner_132 (by decide) ?_
                              refine lv_iadd hx hb dX12_sooner_133 ?_
                              have t_176 : ((80 + (5 * k91_8)) + 1).toInt = (80 + (5 * k91_8)).toInt + 1 := g5_iadd (a := (80 + (5 * k91_8)).toInt) (b := 1) (by rfl) (by decide) (by omega) (by omega)
                              refine lv_iload hx hb dX12_sooner_134 (lv_at hl 2 rfl) ?_
                              refine va_iast hx hb hK hP hD hS 6 0 rfl rfl (i := ((80 + (5 * k91_8)) + 1)) (x := k114_10) (vp_in_iff.mpr ⟨by omega, by omega⟩) dX12_sooner_136 (fun H locs hP hD hS => ?_)
                              refine g5_rs [(b_se, (arJ G 13 k114_se)), (b_re, (arJ G 400 k114_re)), (b_pt, (arI G 200 k114_pt)), (b_tr, (arZ G 1536 k114_tr)), (b_ld, (arZ G 1536 k114_ld)), (b_o, (oc12 0 u_sa b_rf b_ro b_im b_ke u_fd b_tp u_td u_fr u_to u_so u_wo u_fa u_bd u_nc b_nl u_co b_op b_ar u_le b_pi b_pa u_pd u_od b_ws b_hw k114_la b_se b_re k114_bk k114_va k114_su k114_ce k114_ho k114_wy k114_bt k114_ps b_pt k114_tg k114_sn b_ip u_ic b_ah b_be b_me u_wd b_tr b_ld u_st b_wn u_id)), (b_ro, (arI G 5740 (upd k114_ro ((80 + (5 * k91_8)) + 1).toNatClampNeg k114_10)))] hP hD (fun hP hD => ?_)
                              have hmi_177 : MI (upd k114_ro ((80 + (5 * k91_8)) + 1).toNatClampNeg k114_10) := mi_upd i_165 (by have zz := g5_clamp ((80 + (5 * k91_8)) + 1); unfold rOK; refine ⟨?_, ?_, ?_, ?_, ?_, ?_, ?_, ?_, ?_, ?_, ?_, ?_, ?_, ?_, ?_, ?_, ?_, ?_, ?_, ?_, ?_, ?_, ?_⟩ <;> (intros; omega)) (by have zz := g5_clamp ((80 + (5 * k91_8)) + 1); omega) (by have zz := g5_clamp ((80 + (5 * k91_8)) + 1); omega) (by have zz := g5_clamp ((80 + (5 * k91_8)) + 1); omega) (by have zz := g5_clamp ((80 + (5 * k91_8)) + 1); omega) (by have zz := g5_clamp ((80 + (5 * k91_8)) + 1); omega)
                              refine lv_iload hx hb dX12_sooner_137 (lv_at hl 2 rfl) ?_
                              refine lv_iload hx hb dX12_sooner_139 (lv_at hl 3 rfl) ?_
                              refine lv_icmp_ne (tgt := 148) hx hb dX12_sooner_141 (by decide) (fun c_178 => ?_) (fun c_178 => ?_)
                              ·
                                have n_178 : gNe (k114_10.toInt) (z154.toInt) := by have z := g5_ne (a := k114_10.toInt) (b := z154.toInt) (by rfl) (by rfl) c_178; unfold gNe; omega
                                refine lv_aload_n hx hb dX12_sooner_148 rfl (lv_at hl 6 rfl) ?_
                                refine lv_iload_n hx hb dX12_sooner_149 rfl (lv_at hl 7 rfl) ?_
                                refine lv_iload_n hx hb dX12_sooner_150 rfl (lv_at hl 8 rfl) ?_
                                refine lv_iload_n hx hb dX12_sooner_151 rfl (lv_at hl 9 rfl) ?_
                                obtain ⟨hPc, hDc, hFc⟩ := g5_sub3 (wc := [(b_o, (oc12 0 u_sa b_rf b_ro b_im b_ke u_fd b_tp u_td u_fr u_to u_so u_wo u_fa u_bd u_nc b_nl u_co b_op b_ar u_le b_pi b_pa u_pd u_od b_ws b_hw k114_la b_se b_re k114_bk k114_va k114_su k114_ce k114_ho k114_wy k114_bt k114_ps b_pt k114_tg k114_sn b_ip u_ic b_ah b_be b_me u_wd b_tr b_ld u_st b_wn u_id)), (b_ro, (arI G 5740 (upd k114_ro ((80 + (5 * k91_8)) + 1).toNatClampNeg k114_10))), (b_se, (arJ G 13 k114_se)), (b_re, (arJ G 400 k114_re)), (b_pt, (arI G 200 k114_pt)), (b_tr, (arZ G 1536 k114_tr)), (b_ld, (arZ G 1536 k114_ld))]) hP hD hS hA [5, 6, 0, 1, 2, 3, 4] (by decide) rfl
                                refine va_calli (va_runV (As := [.int p_1, .int p_2, .int p_3]) (rest := []) ⟨hx, hb, hml, hown, hts⟩ (n_findSoonest l G b_o b_ro b_se b_re b_pt b_tr b_ld b_rf b_im b_ke b_tp b_nl b_op b_ar b_pi b_pa b_ws b_hw b_ip b_ah b_be b_me b_wn H.size 0 u_sa u_fd u_td u_fr u_to u_so u_fa u_bd u_nc u_co u_le u_pd u_od k114_la k114_bk k114_ce k114_ho k114_wy k114_bt k114_ps k114_tg k114_sn u_ic u_wd u_id p_1 p_2 p_3 u_wo k114_va k114_su u_st (upd k114_ro ((80 + (5 * k91_8)) + 1).toNatClampNeg k114_10) k114_se k114_re k114_pt k114_tr k114_ld h_u_td h_u_fr h_u_to h_u_bd h_u_nc h_u_co h_u_pd i_158 i_159 i_160 i_161 i_162 i_163 i_164 h_u_ic h_u_id i_11 i_5 (hmi_177) (i_166)) (cwV 3 hts gV_X12_466 rfl rfl rfl hv_X12_findSoonest ⟨Nat.le_of_ble_eq_true rfl, Nat.le_of_ble_eq_true rfl⟩) (g5_preV hPc hK hDc hN hT hS hFc (ci := 12) (q0 := 0) rfl rfl) rfl rfl hl.1 rfl (lv_room (Nat.le_of_ble_eq_true rfl)) dX12_sooner_152 ⟨Nat.le_of_ble_eq_true rfl, Nat.le_of_ble_eq_true rfl⟩) hS (fun q _ h => hFc q h) hFc (fun r u t H1 locs ht hvm hw hB hz1 hk1 hS => ?_)
                                obtain ⟨hP1, hD1⟩ := hB
                                rw [ht] at hP1
                                obtain ⟨z188, z189, z190, z191, z192, z193, z194, z195, z196, z197, z198, z199, z200, z201, z202, z203, z204, i_179, i_180, i_181, i_182, i_183, i_184, i_185, i_186, i_187, y205, rfl⟩ := hw
                                have i_179 : (-1) ≤ z188.toInt ∧ z188.toInt ≤ 23 := i_179
                                have i_180 : 0 ≤ z189.toInt ∧ z189.toInt ≤ 4840 := i_180
                                have i_181 : 0 ≤ z190.toInt ∧ z190.toInt ≤ 1 := i_181
                                have i_182 : 0 ≤ z193.toInt ∧ z193.toInt ≤ 63 := i_182
                                have i_183 : 0 ≤ z194.toInt ∧ z194.toInt ≤ 23 := i_183
                                have i_184 : 0 ≤ z195.toInt ∧ z195.toInt ≤ 3 := i_184
                                have i_185 : 0 ≤ z196.toInt ∧ z196.toInt ≤ 1000000 := i_185
                                have i_186 : 0 ≤ z197.toInt ∧ z197.toInt ≤ 200 := i_186
                                have i_187 : PTI z202 := i_187
                                obtain ⟨hP, hD⟩ := va_join (wr := []) hP hD [5, 6, 0, 1, 2, 3, 4] [] rfl rfl (by decide) (by decide) hk1 hFc hP1 hD1
                                generalize H1 = H at hP hS ⊢
                                refine g5_rs [(b_o, (oc12 0 u_sa b_rf b_ro b_im b_ke u_fd b_tp u_td u_fr u_to u_so u_wo u_fa u_bd u_nc b_nl u_co b_op b_ar u_le b_pi b_pa u_pd u_od b_ws b_hw z189 b_se b_re z190 z191 z192 z193 z194 z195 z196 z197 b_pt z198 z199 b_ip u_ic b_ah b_be b_me u_wd b_tr b_ld u_st b_wn u_id)), (b_ro, (arI G 5740 (upd k114_ro ((80 + (5 * k91_8)) + 1).toNatClampNeg k114_10))), (b_se, (arJ G 13 z200)), (b_re, (arJ G 400 z201)), (b_pt, (arI G 200 z202)), (b_tr, (arZ G 1536 z203)), (b_ld, (arZ G 1536 z204))] hP hD (fun hP hD => ?_)
                                refine g5_ti (v := z188) y205 ?_
                                refine lv_istore (lv' := [(11, .int z188), (6, .int k114_6), (7, .int k114_7), (10, .int k114_10), (9, .int z154), (8, .int k91_8), (5, .int z26), (0, .ref b_o), (1, .int p_1), (2, .int p_2), (3, .int p_3), (4, .int p_4)]) hx hb dX12_sooner_155 hl (by decide) rfl (fun ls hl => ?_)
                                refine lv_iload hx hb dX12_sooner_157 (lv_at hl 0 rfl) ?_
                                refine lv_iconst (v := (-1)) hx hb dX12_sooner_159 (by decide) ?_
                                refine lv_icmp_eq (tgt := 181) hx hb dX12_sooner_160 (by decide) (fun c_206 => ?_) (fun c_206 => ?_)
                                ·
                                  have i_206 : z188.toInt = (-1) := by have z := g5_eq (a := z188.toInt) (b := (-1)) (by rfl) (by decide) c_206; omega
                                  refine lv_iload hx hb dX12_sooner_181 (lv_at hl 2 rfl) ?_
                                  refine lv_istore (lv' := [(7, .int k114_7), (11, .int z188), (6, .int k114_6), (10, .int k114_10), (9, .int z154), (8, .int k91_8), (5, .int z26), (0, .ref b_o), (1, .int p_1), (2, .int p_2), (3, .int p_3), (4, .int p_4)]) hx hb dX12_sooner_183 hl (by decide) rfl (fun ls hl => ?_)
                                  refine lv_iload hx hb dX12_sooner_185 (lv_at hl 1 rfl) ?_
                                  refine lv_iconst (v := (-1)) hx hb dX12_sooner_187 (by decide) ?_
                                  refine lv_icmp_eq (tgt := 203) hx hb dX12_sooner_188 (by decide) (fun c_207 => ?_) (fun c_207 => ?_)
                                  ·
                                    have i_207 : z188.toInt = (-1) := by have z := g5_eq (a := z188.toInt) (b := (-1)) (by rfl) (by decide) c_207; omega
                                    refine lv_iload hx hb dX12_sooner_203 (lv_at hl 2 rfl) ?_
                                    refine lv_istore (lv' := [(6, .int k114_6), (7, .int k114_7), (11, .int z188), (10, .int k114_10), (9, .int z154), (8, .int k91_8), (5, .int z26), (0, .ref b_o), (1, .int p_1), (2, .int p_2), (3, .int p_3), (4, .int p_4)]) hx hb dX12_sooner_205 hl (by decide) rfl (fun ls hl => ?_)
                                    refine lv_iinc (v := (k114_10 + 1)) (lv' := [(10, .int (k114_10 + 1)), (6, .int k114_6), (7, .int k114_7), (11, .int z188), (9, .int z154), (8, .int k91_8), (5, .int z26), (0, .ref b_o), (1, .int p_1), (2, .int p_2), (3, .int p_3), (4, .int p_4)]) hx hb dX12_sooner_207 hl (k := 3) rfl rfl (by decide) rfl (fun ls hl => ?_)
                                    have t_208 : (k114_10 + 1).toInt = k114_10.toInt + 1 := g5_iadd (a := k114_10.toInt) (b := 1) rfl (by decide) (by omega) (by omega)
                                    refine lv_goto (tgt := 114) hx hb dX12_sooner_210 (by decide) ?_
                                    exact ih_114_168 ((k114_10 + 1), k114_6, k114_7, z189, z190, z191, z192, z193, z194, z195, z196, z197, z198, z199, (upd k114_ro ((80 + (5 * k91_8)) + 1).toNatClampNeg k114_10), z200, z201, z202, z203, z204) ls H locs (show Int.toNat (6 - (k114_10 + 1).toInt) < Int.toNat (6 - k114_10.toInt) from g_up (show k114_10.toInt < (k114_10 + 1).toInt by omega) (show k114_10.toInt < 6 by omega)) ⟨lv_sub hl [1, 2, 0, 4, 5, 6, 7, 8, 9, 10, 11] rfl, hP.sub [2, 3, 4, 5, 6, 0, 1] rfl, hD.sub [2, 3, 4, 5, 6, 0, 1] (by decide) rfl, hS, ⟨by omega, by omega⟩, i_157, i_180, i_181, i_182, i_183, i_184, i_185, i_186, hmi_177, i_187, fun j hj => by rw [upd_ne (by rw [show ((80 + (5 * k91_8)) + 1).toNatClampNeg = (81 + 5 * k91_8.toInt.toNat) by have zz := g5_clamp ((80 + (5 * k91_8)) + 1); omega]; exact hj)]; exact i_167 j hj⟩
                                  ·
                                    have i_207 : z188.toInt ≠ (-1) := by have z := g5_eqN (a := z188.toInt) (b := (-1)) (by rfl) (by decide) c_207; omega
                                    omega
                                ·
                                  have n_206 : gNe (z188.toInt) ((-1)) := by have z := g5_eqN (a := z188.toInt) (b := (-1)) (by rfl) (by decide) c_206; unfold gNe; omega
                                  have i_206 : z188.toInt ≥ 0 := by have z := g5_eqN (a := z188.toInt) (b := (-1)) (by rfl) (by decide) c_206; omega
                                  refine lv_iload hx hb dX12_sooner_163 (lv_at hl 0 rfl) ?_
                                  refine lv_iload hx hb dX12_sooner_165 (lv_at hl 1 rfl) ?_
                                  refine lv_icmp_ge (tgt := 181) hx hb dX12_sooner_167 (by decide) (fun c_209 => ?_) (fun c_209 => ?_)
                                  ·
                                    have i_209 : z188.toInt ≥ k114_6.toInt := by have z := g5_ge (a := z188.toInt) (b := k114_6.toInt) (by rfl) (by rfl) c_209; omega
                                    refine lv_iload hx hb dX12_sooner_181 (lv_at hl 2 rfl) ?_
                                    refine lv_istore (lv' := [(7, .int k114_7), (11, .int z188), (6, .int k114_6), (10, .int k114_10), (9, .int z154), (8, .int k91_8), (5, .int z26), (0, .ref b_o), (1, .int p_1), (2, .int p_2), (3, .int p_3), (4, .int p_4)]) hx hb dX12_sooner_183 hl (by decide) rfl (fun ls hl => ?_)
                                    refine lv_iload hx hb dX12_sooner_185 (lv_at hl 1 rfl) ?_
                                    refine lv_iconst (v := (-1)) hx hb dX12_sooner_187 (by decide) ?_
                                    refine lv_icmp_eq (tgt := 203) hx hb dX12_sooner_188 (by decide) (fun c_210 => ?_) (fun c_210 => ?_)
                                    ·
                                      have i_210 : z188.toInt = (-1) := by have z := g5_eq (a := z188.toInt) (b := (-1)) (by rfl) (by decide) c_210; omega
                                      omega
                                    ·
                                      have n_210 : gNe (z188.toInt) ((-1)) := by have z := g5_eqN (a := z188.toInt) (b := (-1)) (by rfl) (by decide) c_210; unfold gNe; omega
                                      refine lv_iload hx hb dX12_sooner_191 (lv_at hl 1 rfl) ?_
                                      refine lv_iload hx hb dX12_sooner_193 (lv_at hl 2 rfl) ?_
                                      refine lv_icmp_ge (tgt := 203) hx hb dX12_sooner_195 (by decide) (fun c_211 => ?_) (fun c_211 => ?_)
                                      ·
                                        have i_211 : z188.toInt ≥ k114_6.toInt := by have z := g5_ge (a := z188.toInt) (b := k114_6.toInt) (by rfl) (by rfl) c_211; omega
                                        refine lv_iload hx hb dX12_sooner_203 (lv_at hl 2 rfl) ?_
                                        refine lv_istore (lv' := [(6, .int k114_6), (7, .int k114_7), (11, .int z188), (10, .int k114_10), (9, .int z154), (8, .int k91_8), (5, .int z26), (0, .ref b_o), (1, .int p_1), (2, .int p_2), (3, .int p_3), (4, .int p_4)]) hx hb dX12_sooner_205 hl (by decide) rfl (fun ls hl => ?_)
                                        refine lv_iinc (v := (k114_10 + 1)) (lv' := [(10, .int (k114_10 + 1)), (6, .int k114_6), (7, .int k114_7), (11, .int z188), (9, .int z154), (8, .int k91_8), (5, .int z26), (0, .ref b_o), (1, .int p_1), (2, .int p_2), (3, .int p_3), (4, .int p_4)]) hx hb dX12_sooner_207 hl (k := 3) rfl rfl (by decide) rfl (fun ls hl => ?_)
                                        have t_212 : (k114_10 + 1).toInt = k114_10.toInt + 1 := g5_iadd (a := k114_10.toInt) (b := 1) rfl (by decide) (by omega) (by omega)
                                        refine lv_goto (tgt := 114) hx hb dX12_sooner_210 (by decide) ?_
                                        exact ih_114_168 ((k114_10 + 1), k114_6, k114_7, z189, z190, z191, z192, z193, z194, z195, z196, z197, z198, z199, (upd k114_ro ((80 + (5 * k91_8)) + 1).toNatClampNeg k114_10), z200, z201, z202, z203, z204) ls H locs (show Int.toNat (6 - (k114_10 + 1).toInt) < Int.toNat (6 - k114_10.toInt) from g_up (show k114_10.toInt < (k114_10 + 1).toInt by omega) (show k114_10.toInt < 6 by omega)) ⟨lv_sub hl [1, 2, 0, 4, 5, 6, 7, 8, 9, 10, 11] rfl, hP.sub [2, 3, 4, 5, 6, 0, 1] rfl, hD.sub [2, 3, 4, 5, 6, 0, 1] (by decide) rfl, hS, ⟨by omega, by omega⟩, i_157, i_180, i_181, i_182, i_183, i_184, i_185, i_186, hmi_177, i_187, fun j hj => by rw [upd_ne (by rw [show ((80 + (5 * k91_8)) + 1).toNatClampNeg = (81 + 5 * k91_8.toInt.toNat) by have zz := g5_clamp ((80 + (5 * k91_8)) + 1); omega]; exact hj)]; exact i_167 j hj⟩
                                      ·
                                        have i_211 : z188.toInt < k114_6.toInt := by have z := g5_geN (a := z188.toInt) (b := k114_6.toInt) (by rfl) (by rfl) c_211; omega
                                        refine lv_iload hx hb dX12_sooner_198 (lv_at hl 1 rfl) ?_
                                        refine lv_goto (tgt := 205) hx hb dX12_sooner_200 (by decide) ?_
                                        refine lv_istore (lv' := [(6, .int z188), (7, .int k114_7), (11, .int z188), (10, .int k114_10), (9, .int z154), (8, .int k91_8), (5, .int z26), (0, .ref b_o), (1, .int p_1), (2, .int p_2), (3, .int p_3), (4, .int p_4)]) hx hb dX12_sooner_205 hl (by decide) rfl (fun ls hl => ?_)
                                        refine lv_iinc (v := (k114_10 + 1)) (lv' := [(10, .int (k114_10 + 1)), (6, .int z188), (7, .int k114_7), (11, .int z188), (9, .int z154), (8, .int k91_8), (5, .int z26), (0, .ref b_o), (1, .int p_1), (2, .int p_2), (3, .int p_3), (4, .int p_4)]) hx hb dX12_sooner_207 hl (k := 3) rfl rfl (by decide) rfl (fun ls hl => ?_)
                                        have t_213 : (k114_10 + 1).toInt = k114_10.toInt + 1 := g5_iadd (a := k114_10.toInt) (b := 1) rfl (by decide) (by omega) (by omega)
                                        refine lv_goto (tgt := 114) hx hb dX12_sooner_210 (by decide) ?_
                                        exact ih_114_168 ((k114_10 + 1), z188, k114_7, z189, z190, z191, z192, z193, z194, z195, z196, z197, z198, z199, (upd k114_ro ((80 + (5 * k91_8)) + 1).toNatClampNeg k114_10), z200, z201, z202, z203, z204) ls H locs (show Int.toNat (6 - (k114_10 + 1).toInt) < Int.toNat (6 - k114_10.toInt) from g_up (show k114_10.toInt < (k114_10 + 1).toInt by omega) (show k114_10.toInt < 6 by omega)) ⟨lv_sub hl [1, 2, 0, 4, 5, 6, 7, 8, 9, 10, 11] rfl, hP.sub [2, 3, 4, 5, 6, 0, 1] rfl, hD.sub [2, 3, 4, 5, 6, 0, 1] (by decide) rfl, hS, ⟨by omega, by omega⟩, ⟨by omega, by omega⟩, i_180, i_181, i_182, i_183, i_184, i_185, i_186, hmi_177, i_187, fun j hj => by rw [upd_ne (by rw [show ((80 + (5 * k91_8)) + 1).toNatClampNeg = (81 + 5 * k91_8.toInt.toNat) by have zz := g5_clamp ((80 + (5 * k91_8)) + 1); omega]; exact hj)]; exact i_167 j hj⟩
                                  ·
                                    have i_209 : z188.toInt < k114_6.toInt := by have z := g5_geN (a := z188.toInt) (b := k114_6.toInt) (by rfl) (by rfl) c_209; omega
                                    refine lv_bipush (v := 6) hx hb dX12_sooner_170 (by decide) ?_
                                    refine lv_iload hx hb dX12_sooner_172 (lv_at hl 5 rfl) ?_
                                    refine lv_imul hx hb dX12_sooner_174 ?_
                                    have t_214 : (6 * k91_8).toInt = 6 * k91_8.toInt := g5_imul (a := 6) (b := k91_8.toInt) (by decide) (by rfl) (by omega) (by omega)
                                    refine lv_iload hx hb dX12_sooner_175 (lv_at hl 3 rfl) ?_
                                    refine lv_iadd hx hb dX12_sooner_177 ?_
                                    have t_215 : ((6 * k91_8) + k114_10).toInt = (6 * k91_8).toInt + k114_10.toInt := g5_iadd (a := (6 * k91_8).toInt) (b := k114_10.toInt) (by rfl) (by rfl) (by omega) (by omega)
                                    refine lv_goto (tgt := 183) hx hb dX12_sooner_178 (by decide) ?_
                                    refine lv_istore (lv' := [(7, .int ((6 * k91_8) + k114_10)), (11, .int z188), (6, .int k114_6), (10, .int k114_10), (9, .int z154), (8, .int k91_8), (5, .int z26), (0, .ref b_o), (1, .int p_1), (2, .int p_2), (3, .int p_3), (4, .int p_4)]) hx hb dX12_sooner_183 hl (by decide) rfl (fun ls hl => ?_)
                                    refine lv_iload hx hb dX12_sooner_185 (lv_at hl 1 rfl) ?_
                                    refine lv_iconst (v := (-1)) hx hb dX12_sooner_187 (by decide) ?_
                                    refine lv_icmp_eq (tgt := 203) hx hb dX12_sooner_188 (by decide) (fun c_216 => ?_) (fun c_216 => ?_)
                                    ·
                                      have i_216 : z188.toInt = (-1) := by have z := g5_eq (a := z188.toInt) (b := (-1)) (by rfl) (by decide) c_216; omega
                                      omega
                                    ·
                                      have n_216 : gNe (z188.toInt) ((-1)) := by have z := g5_eqN (a := z188.toInt) (b := (-1)) (by rfl) (by decide) c_216; unfold gNe; omega
                                      refine lv_iload hx hb dX12_sooner_191 (lv_at hl 1 rfl) ?_
                                      refine lv_iload hx hb dX12_sooner_193 (lv_at hl 2 rfl) ?_
                                      refine lv_icmp_ge (tgt := 203) hx hb dX12_sooner_195 (by decide) (fun c_217 => ?_) (fun c_217 => ?_)
                                      ·
                                        have i_217 : z188.toInt ≥ k114_6.toInt := by have z := g5_ge (a := z188.toInt) (b := k114_6.toInt) (by rfl) (by rfl) c_217; omega
                                        refine lv_iload hx hb dX12_sooner_203 (lv_at hl 2 rfl) ?_
                                        refine lv_istore (lv' := [(6, .int k114_6), (7, .int ((6 * k91_8) + k114_10)), (11, .int z188), (10, .int k114_10), (9, .int z154), (8, .int k91_8), (5, .int z26), (0, .ref b_o), (1, .int p_1), (2, .int p_2), (3, .int p_3), (4, .int p_4)]) hx hb dX12_sooner_205 hl (by decide) rfl (fun ls hl => ?_)
                                        refine lv_iinc (v := (k114_10 + 1)) (lv' := [(10, .int (k114_10 + 1)), (6, .int k114_6), (7, .int ((6 * k91_8) + k114_10)), (11, .int z188), (9, .int z154), (8, .int k91_8), (5, .int z26), (0, .ref b_o), (1, .int p_1), (2, .int p_2), (3, .int p_3), (4, .int p_4)]) hx hb dX12_sooner_207 hl (k := 3) rfl rfl (by decide) rfl (fun ls hl => ?_)
                                        have t_218 : (k114_10 + 1).toInt = k114_10.toInt + 1 := g5_iadd (a := k114_10.toInt) (b := 1) rfl (by decide) (by omega) (by omega)
                                        refine lv_goto (tgt := 114) hx hb dX12_sooner_210 (by decide) ?_
                                        exact ih_114_168 ((k114_10 + 1), k114_6, ((6 * k91_8) + k114_10), z189, z190, z191, z192, z193, z194, z195, z196, z197, z198, z199, (upd k114_ro ((80 + (5 * k91_8)) + 1).toNatClampNeg k114_10), z200, z201, z202, z203, z204) ls H locs (show Int.toNat (6 - (k114_10 + 1).toInt) < Int.toNat (6 - k114_10.toInt) from g_up (show k114_10.toInt < (k114_10 + 1).toInt by omega) (show k114_10.toInt < 6 by omega)) ⟨lv_sub hl [1, 2, 0, 4, 5, 6, 7, 8, 9, 10, 11] rfl, hP.sub [2, 3, 4, 5, 6, 0, 1] rfl, hD.sub [2, 3, 4, 5, 6, 0, 1] (by decide) rfl, hS, ⟨by omega, by omega⟩, i_157, i_180, i_181, i_182, i_183, i_184, i_185, i_186, hmi_177, i_187, fun j hj => by rw [upd_ne (by rw [show ((80 + (5 * k91_8)) + 1).toNatClampNeg = (81 + 5 * k91_8.toInt.toNat) by have zz := g5_clamp ((80 + (5 * k91_8)) + 1); omega]; exact hj)]; exact i_167 j hj⟩
                                      ·
                                        have i_217 : z188.toInt < k114_6.toInt := by have z := g5_geN (a := z188.toInt) (b := k114_6.toInt) (by rfl) (by rfl) c_217; omega
                                        refine lv_iload hx hb dX12_sooner_198 (lv_at hl 1 rfl) ?_
                                        refine lv_goto (tgt := 205) hx hb dX12_sooner_200 (by decide) ?_
                                        refine lv_istore (lv' := [(6, .int z188), (7, .int ((6 * k91_8) + k114_10)), (11, .int z188), (10, .int k114_10), (9, .int z154), (8, .int k91_8), (5, .int z26), (0, .ref b_o), (1, .int p_1), (2, .int p_2), (3, .int p_3), (4, .int p_4)]) hx hb dX12_sooner_205 hl (by decide) rfl (fun ls hl => ?_)
                                        refine lv_iinc (v := (k114_10 + 1)) (lv' := [(10, .int (k114_10 + 1)), (6, .int z188), (7, .int ((6 * k91_8) + k114_10)), (11, .int z188), (9, .int z154), (8, .int k91_8), (5, .int z26), (0, .ref b_o), (1, .int p_1), (2, .int p_2), (3, .int p_3), (4, .int p_4)]) hx hb dX12_sooner_207 hl (k := 3) rfl rfl (by decide) rfl (fun ls hl => ?_)
                                        have t_219 : (k114_10 + 1).toInt = k114_10.toInt + 1 := g5_iadd (a := k114_10.toInt) (b := 1) rfl (by decide) (by omega) (by omega)
                                        refine lv_goto (tgt := 114) hx hb dX12_sooner_210 (by decide) ?_
                                        exact ih_114_168 ((k114_10 + 1), z188, ((6 * k91_8) + k114_10), z189, z190, z191, z192, z193, z194, z195, z196, z197, z198, z199, (upd k114_ro ((80 + (5 * k91_8)) + 1).toNatClampNeg k114_10), z200, z201, z202, z203, z204) ls H locs (show Int.toNat (6 - (k114_10 + 1).toInt) < Int.toNat (6 - k114_10.toInt) from g_up (show k114_10.toInt < (k114_10 + 1).toInt by omega) (show k114_10.toInt < 6 by omega)) ⟨lv_sub hl [1, 2, 0, 4, 5, 6, 7, 8, 9, 10, 11] rfl, hP.sub [2, 3, 4, 5, 6, 0, 1] rfl, hD.sub [2, 3, 4, 5, 6, 0, 1] (by decide) rfl, hS, ⟨by omega, by omega⟩, ⟨by omega, by omega⟩, i_180, i_181, i_182, i_183, i_184, i_185, i_186, hmi_177, i_187, fun j hj => by rw [upd_ne (by rw [show ((80 + (5 * k91_8)) + 1).toNatClampNeg = (81 + 5 * k91_8.toInt.toNat) by have zz := g5_clamp ((80 + (5 * k91_8)) + 1); omega]; exact hj)]; exact i_167 j hj⟩
                              ·
                                have i_178 : k114_10.toInt = z154.toInt := by have z := g5_neN (a := k114_10.toInt) (b := z154.toInt) (by rfl) (by rfl) c_178; omega
                                refine lv_iconst (v := (-1)) hx hb dX12_sooner_144 (by decide) ?_
                                refine lv_goto (tgt := 155) hx hb dX12_sooner_145 (by decide) ?_
                                refine lv_istore (lv' := [(11, .int (-1)), (6, .int k114_6), (7, .int k114_7), (10, .int k114_10), (9, .int z154), (8, .int k91_8), (5, .int z26), (0, .ref b_o), (1, .int p_1), (2, .int p_2), (3, .int p_3), (4, .int p_4)]) hx hb dX12_sooner_155 hl (by decide) rfl (fun ls hl => ?_)
                                refine lv_iload hx hb dX12_sooner_157 (lv_at hl 0 rfl) ?_
                                refine lv_iconst (v := (-1)) hx hb dX12_sooner_159 (by decide) ?_
                                refine lv_icmp_eq (tgt := 181) hx hb dX12_sooner_160 (by decide) (fun c_220 => ?_) (fun c_220 => ?_)
                                ·
                                  refine lv_iload hx hb dX12_sooner_181 (lv_at hl 2 rfl) ?_
                                  refine lv_istore (lv' := [(7, .int k114_7), (11, .int (-1)), (6, .int k114_6), (10, .int k114_10), (9, .int z154), (8, .int k91_8), (5, .int z26), (0, .ref b_o), (1, .int p_1), (2, .int p_2), (3, .int p_3), (4, .int p_4)]) hx hb dX12_sooner_183 hl (by decide) rfl (fun ls hl => ?_)
                                  refine lv_iload hx hb dX12_sooner_185 (lv_at hl 1 rfl) ?_
                                  refine lv_iconst (v := (-1)) hx hb dX12_sooner_187 (by decide) ?_
                                  refine lv_icmp_eq (tgt := 203) hx hb dX12_sooner_188 (by decide) (fun c_221 => ?_) (fun c_221 => ?_)
                                  ·
                                    refine lv_iload hx hb dX12_sooner_203 (lv_at hl 2 rfl) ?_
                                    refine lv_istore (lv' := [(6, .int k114_6), (7, .int k114_7), (11, .int (-1)), (10, .int k114_10), (9, .int z154), (8, .int k91_8), (5, .int z26), (0, .ref b_o), (1, .int p_1), (2, .int p_2), (3, .int p_3), (4, .int p_4)]) hx hb dX12_sooner_205 hl (by decide) rfl (fun ls hl => ?_)
                                    refine lv_iinc (v := (k114_10 + 1)) (lv' := [(10, .int (k114_10 + 1)), (6, .int k114_6), (7, .int k114_7), (11, .int (-1)), (9, .int z154), (8, .int k91_8), (5, .int z26), (0, .ref b_o), (1, .int p_1), (2, .int p_2), (3, .int p_3), (4, .int p_4)]) hx hb dX12_sooner_207 hl (k := 3) rfl rfl (by decide) rfl (fun ls hl => ?_)
                                    have t_222 : (k114_10 + 1).toInt = k114_10.toInt + 1 := g5_iadd (a := k114_10.toInt) (b := 1) rfl (by decide) (by omega) (by omega)
                                    refine lv_goto (tgt := 114) hx hb dX12_sooner_210 (by decide) ?_
                                    exact ih_114_168 ((k114_10 + 1), k114_6, k114_7, k114_la, k114_bk, k114_va, k114_su, k114_ce, k114_ho, k114_wy, k114_bt, k114_ps, k114_tg, k114_sn, (upd k114_ro ((80 + (5 * k91_8)) + 1).toNatClampNeg k114_10), k114_se, k114_re, k114_pt, k114_tr, k114_ld) ls H locs (show Int.toNat (6 - (k114_10 + 1).toInt) < Int.toNat (6 - k114_10.toInt) from g_up (show k114_10.toInt < (k114_10 + 1).toInt by omega) (show k114_10.toInt < 6 by omega)) ⟨lv_sub hl [1, 2, 0, 4, 5, 6, 7, 8, 9, 10, 11] rfl, hP, hD, hS, ⟨by omega, by omega⟩, i_157, i_158, i_159, i_160, i_161, i_162, i_163, i_164, hmi_177, i_166, fun j hj => by rw [upd_ne (by rw [show ((80 + (5 * k91_8)) + 1).toNatClampNeg = (81 + 5 * k91_8.toInt.toNat) by have zz := g5_clamp ((80 + (5 * k91_8)) + 1); omega]; exact hj)]; exact i_167 j hj⟩
                                  ·
                                    exact absurd c_221 (by decide)
                                ·
                                  exact absurd c_220 (by decide)
                      ·
                        have n_16 : gNe (z14.toInt) (0) := by have z := g5_eqN (a := z14.toInt) (b := 0) (by rfl) (by decide) c_16; unfold gNe; omega
                        have i_16 : z14.toInt ≥ 1 := by have z := g5_eqN (a := z14.toInt) (b := 0) (by rfl) (by decide) c_16; omega
                        refine lv_iconst (v := (-1)) hx hb dX12_sooner_59 (by decide) ?_
                        exact W.iret (v := (-1)) hx hb hr (fun t ht hW => ⟨⟨(-1), [(b_o, (oc12 0 u_sa b_rf b_ro b_im b_ke u_fd b_tp u_td u_fr u_to u_so u_wo u_fa u_bd u_nc b_nl u_co b_op b_ar u_le b_pi b_pa u_pd u_od b_ws b_hw u_la b_se b_re u_bk u_va u_su u_ce u_ho u_wy u_bt u_ps b_pt u_tg u_sn b_ip u_ic b_ah b_be b_me u_wd b_tr b_ld u_st b_wn u_id)), (b_ro, (arI G 5740 v_ro)), (b_se, (arJ G 13 v_se)), (b_re, (arJ G 400 v_re)), (b_pt, (arI G 200 v_pt)), (b_tr, (arZ G 1536 v_tr)), (b_ld, (arZ G 1536 v_ld))], rfl, ⟨(-1), 0, u_la, u_bk, u_va, u_su, u_ce, u_ho, u_wy, u_bt, u_ps, u_tg, u_sn, v_ro, v_se, v_re, v_pt, v_tr, v_ld, r_ro, h_u_la, h_u_bk, h_u_ce, h_u_ho, h_u_wy, h_u_bt, h_u_ps, r_pt, rfl, rfl, rfl⟩, by rw [ht]; exact hP.sub [5, 6, 0, 1, 2, 3, 4] rfl, hD.sub [5, 6, 0, 1, 2, 3, 4] (by decide) rfl⟩, hS.F ht⟩) hS.2.2 dX12_sooner_60
                  ·
                    have hP := g5_same hP hk1
                    generalize H1 = H at hP hS ⊢
                    refine lv_if_eq (tgt := 52) hx hb dX12_sooner_45 (by decide) (fun c_223 => ?_) (fun c_223 => ?_)
                    ·
                      refine lv_iconst (v := 0) hx hb dX12_sooner_52 (by decide) ?_
                      obtain ⟨hPc, hDc, hFc⟩ := g5_sub3 (wc := [(b_o, (oc12 0 u_sa b_rf b_ro b_im b_ke u_fd b_tp u_td u_fr u_to u_so u_wo u_fa u_bd u_nc b_nl u_co b_op b_ar u_le b_pi b_pa u_pd u_od b_ws b_hw u_la b_se b_re u_bk u_va u_su u_ce u_ho u_wy u_bt u_ps b_pt u_tg u_sn b_ip u_ic b_ah b_be b_me u_wd b_tr b_ld u_st b_wn u_id)), (b_ro, (arI G 5740 v_ro))]) hP hD hS hA [5, 6] (by decide) rfl
                      refine va_calli (va_runV (As := [.int 0]) (rest := []) ⟨hx, hb, hml, hown, hts⟩ (n_isWall l G b_o b_ro b_rf b_im b_ke b_tp b_nl b_op b_ar b_pi b_pa b_ws b_hw b_se b_re b_pt b_ip b_ah b_be b_me b_tr b_ld b_wn H.size 0 u_sa u_fd u_td u_fr u_to u_so u_fa u_bd u_nc u_co u_le u_pd u_od u_la u_bk u_ce u_ho u_wy u_bt u_ps u_tg u_sn u_ic u_wd u_id 0 u_wo u_va u_su u_st v_ro h_u_td h_u_fr h_u_to h_u_bd h_u_nc h_u_co h_u_pd h_u_la h_u_bk h_u_ce h_u_ho h_u_wy h_u_bt h_u_ps h_u_ic h_u_id ⟨by decide, by decide⟩ (r_ro)) (cwV 1 hts gV_X12_160 rfl rfl rfl hv_X12_isWall ⟨Nat.le_of_ble_eq_true rfl, Nat.le_of_ble_eq_true rfl⟩) (g5_preV hPc hK hDc hN hT hS hFc (ci := 12) (q0 := 0) rfl rfl) rfl rfl hl.1 rfl (lv_room (Nat.le_of_ble_eq_true rfl)) dX12_sooner_53 ⟨Nat.le_of_ble_eq_true rfl, Nat.le_of_ble_eq_true rfl⟩) hS (fun q _ h => hFc q h) hFc (fun r u t H1 locs ht hvm hw hB hz1 hk1 hS => ?_)
                      obtain ⟨hP1, hD1⟩ := hB
                      rw [ht] at hP1
                      obtain ⟨z225, i_224, y226, rfl⟩ := hw
                      have i_224 : 0 ≤ z225.toInt ∧ z225.toInt ≤ 1 := i_224
                      obtain ⟨hP, hD⟩ := va_join (wr := [(b_se, (arJ G 13 v_se)), (b_re, (arJ G 400 v_re)), (b_pt, (arI G 200 v_pt)), (b_tr, (arZ G 1536 v_tr)), (b_ld, (arZ G 1536 v_ld))]) hP hD [5, 6] [0, 1, 2, 3, 4] rfl rfl (by decide) (by decide) hk1 hFc hP1 hD1
                      generalize H1 = H at hP hS ⊢
                      refine g5_rs [(b_se, (arJ G 13 v_se)), (b_re, (arJ G 400 v_re)), (b_pt, (arI G 200 v_pt)), (b_tr, (arZ G 1536 v_tr)), (b_ld, (arZ G 1536 v_ld)), (b_o, (oc12 0 u_sa b_rf b_ro b_im b_ke u_fd b_tp u_td u_fr u_to u_so u_wo u_fa u_bd u_nc b_nl u_co b_op b_ar u_le b_pi b_pa u_pd u_od b_ws b_hw u_la b_se b_re u_bk u_va u_su u_ce u_ho u_wy u_bt u_ps b_pt u_tg u_sn b_ip u_ic b_ah b_be b_me u_wd b_tr b_ld u_st b_wn u_id)), (b_ro, (arI G 5740 v_ro))] hP hD (fun hP hD => ?_)
                      refine g5_ti (v := z225) y226 ?_
                      refine lv_if_eq (tgt := 61) hx hb dX12_sooner_56 (by decide) (fun c_227 => ?_) (fun c_227 => ?_)
                      ·
                        have i_227 : z225.toInt = 0 := by have z := g5_eq (a := z225.toInt) (b := 0) (by rfl) (by decide) c_227; omega
                        refine lv_aload_n hx hb dX12_sooner_61 rfl (lv_at hl 0 rfl) ?_
                        refine lv_iload_n hx hb dX12_sooner_62 rfl (lv_at hl 1 rfl) ?_
                        refine lv_iload_n hx hb dX12_sooner_63 rfl (lv_at hl 2 rfl) ?_
                        refine lv_iload_n hx hb dX12_sooner_64 rfl (lv_at hl 3 rfl) ?_
                        obtain ⟨hPc, hDc, hFc⟩ := g5_sub3 (wc := [(b_o, (oc12 0 u_sa b_rf b_ro b_im b_ke u_fd b_tp u_td u_fr u_to u_so u_wo u_fa u_bd u_nc b_nl u_co b_op b_ar u_le b_pi b_pa u_pd u_od b_ws b_hw u_la b_se b_re u_bk u_va u_su u_ce u_ho u_wy u_bt u_ps b_pt u_tg u_sn b_ip u_ic b_ah b_be b_me u_wd b_tr b_ld u_st b_wn u_id)), (b_ro, (arI G 5740 v_ro)), (b_se, (arJ G 13 v_se)), (b_re, (arJ G 400 v_re)), (b_pt, (arI G 200 v_pt)), (b_tr, (arZ G 1536 v_tr)), (b_ld, (arZ G 1536 v_ld))]) hP hD hS hA [5, 6, 0, 1, 2, 3, 4] (by decide) rfl
                        refine va_calli (va_runV (As := [.int p_1, .int p_2, .int p_3]) (rest := []) ⟨hx, hb, hml, hown, hts⟩ (n_findSoonest l G b_o b_ro b_se b_re b_pt b_tr b_ld b_rf b_im b_ke b_tp b_nl b_op b_ar b_pi b_pa b_ws b_hw b_ip b_ah b_be b_me b_wn H.size 0 u_sa u_fd u_td u_fr u_to u_so u_fa u_bd u_nc u_co u_le u_pd u_od u_la u_bk u_ce u_ho u_wy u_bt u_ps u_tg u_sn u_ic u_wd u_id p_1 p_2 p_3 u_wo u_va u_su u_st v_ro v_se v_re v_pt v_tr v_ld h_u_td h_u_fr h_u_to h_u_bd h_u_nc h_u_co h_u_pd h_u_la h_u_bk h_u_ce h_u_ho h_u_wy h_u_bt h_u_ps h_u_ic h_u_id i_3 i_5 (r_ro) (r_pt)) (cwV 3 hts gV_X12_466 rfl rfl rfl hv_X12_findSoonest ⟨Nat.le_of_ble_eq_true rfl, Nat.le_of_ble_eq_true rfl⟩) (g5_preV hPc hK hDc hN hT hS hFc (ci := 12) (q0 := 0) rfl rfl) rfl rfl hl.1 rfl (lv_room (Nat.le_of_ble_eq_true rfl)) dX12_sooner_65 ⟨Nat.le_of_ble_eq_true rfl, Nat.le_of_ble_eq_true rfl⟩) hS (fun q _ h => hFc q h) hFc (fun r u t H1 locs ht hvm hw hB hz1 hk1 hS => ?_)
                        obtain ⟨hP1, hD1⟩ := hB
                        rw [ht] at hP1
                        obtain ⟨z237, z238, z239, z240, z241, z242, z243, z244, z245, z246, z247, z248, z249, z250, z251, z252, z253, i_228, i_229, i_230, i_231, i_232, i_233, i_234, i_235, i_236, y254, rfl⟩ := hw
                        have i_228 : (-1) ≤ z237.toInt ∧ z237.toInt ≤ 23 := i_228
                        have i_229 : 0 ≤ z238.toInt ∧ z238.toInt ≤ 4840 := i_229
                        have i_230 : 0 ≤ z239.toInt ∧ z239.toInt ≤ 1 := i_230
                        have i_231 : 0 ≤ z242.toInt ∧ z242.toInt ≤ 63 := i_231
                        have i_232 : 0 ≤ z243.toInt ∧ z243.toInt ≤ 23 := i_232
                        have i_233 : 0 ≤ z244.toInt ∧ z244.toInt ≤ 3 := i_233
                        have i_234 : 0 ≤ z245.toInt ∧ z245.toInt ≤ 1000000 := i_234
                        have i_235 : 0 ≤ z246.toInt ∧ z246.toInt ≤ 200 := i_235
                        have i_236 : PTI z251 := i_236
                        obtain ⟨hP, hD⟩ := va_join (wr := []) hP hD [5, 6, 0, 1, 2, 3, 4] [] rfl rfl (by decide) (by decide) hk1 hFc hP1 hD1
                        generalize H1 = H at hP hS ⊢
                        refine g5_rs [(b_o, (oc12 0 u_sa b_rf b_ro b_im b_ke u_fd b_tp u_td u_fr u_to u_so u_wo u_fa u_bd u_nc b_nl u_co b_op b_ar u_le b_pi b_pa u_pd u_od b_ws b_hw z238 b_se b_re z239 z240 z241 z242 z243 z244 z245 z246 b_pt z247 z248 b_ip u_ic b_ah b_be b_me u_wd b_tr b_ld u_st b_wn u_id)), (b_ro, (arI G 5740 v_ro)), (b_se, (arJ G 13 z249)), (b_re, (arJ G 400 z250)), (b_pt, (arI G 200 z251)), (b_tr, (arZ G 1536 z252)), (b_ld, (arZ G 1536 z253))] hP hD (fun hP hD => ?_)
                        refine g5_ti (v := z237) y254 ?_
                        refine lv_istore (lv' := [(5, .int z237), (0, .ref b_o), (1, .int p_1), (2, .int p_2), (3, .int p_3), (4, .int p_4)]) hx hb dX12_sooner_68 hl (by decide) rfl (fun ls hl => ?_)
                        refine lv_iload hx hb dX12_sooner_70 (lv_at hl 0 rfl) ?_
                        refine lv_iconst (v := (-1)) hx hb dX12_sooner_72 (by decide) ?_
                        refine lv_icmp_ne (tgt := 81) hx hb dX12_sooner_73 (by decide) (fun c_255 => ?_) (fun c_255 => ?_)
                        ·
                          have n_255 : gNe (z237.toInt) ((-1)) := by have z := g5_ne (a := z237.toInt) (b := (-1)) (by rfl) (by decide) c_255; unfold gNe; omega
                          have i_255 : z237.toInt ≥ 0 := by have z := g5_ne (a := z237.toInt) (b := (-1)) (by rfl) (by decide) c_255; omega
                          refine lv_iload hx hb dX12_sooner_81 (lv_at hl 0 rfl) ?_
                          refine lv_istore (lv' := [(6, .int z237), (5, .int z237), (0, .ref b_o), (1, .int p_1), (2, .int p_2), (3, .int p_3), (4, .int p_4)]) hx hb dX12_sooner_83 hl (by decide) rfl (fun ls hl => ?_)
                          refine lv_iconst (v := (-1)) hx hb dX12_sooner_85 (by decide) ?_
                          refine lv_istore (lv' := [(7, .int (-1)), (6, .int z237), (5, .int z237), (0, .ref b_o), (1, .int p_1), (2, .int p_2), (3, .int p_3), (4, .int p_4)]) hx hb dX12_sooner_86 hl (by decide) rfl (fun ls hl => ?_)
                          refine lv_iconst (v := 0) hx hb dX12_sooner_88 (by decide) ?_
                          refine lv_istore (lv' := [(8, .int 0), (7, .int (-1)), (6, .int z237), (5, .int z237), (0, .ref b_o), (1, .int p_1), (2, .int p_2), (3, .int p_3), (4, .int p_4)]) hx hb dX12_sooner_89 hl (by decide) rfl (fun ls hl => ?_)
                          refine g5_loop (α := (Int32) × (Int32) × (Int32) × (Int32) × (Int32) × (Int64) × (Int64) × (Int32) × (Int32) × (Int32) × (Int32) × (Int32) × (Int32) × (Int32) × (Nat → Int32) × (Nat → Int64) × (Nat → Int64) × (Nat → Int32) × (Nat → Int32) × (Nat → Int32)) (fun (q : (Int32) × (Int32) × (Int32) × (Int32) × (Int32) × (Int64) × (Int64) × (Int32) × (Int32) × (Int32) × (Int32) × (Int32) × (Int32) × (Int32) × (Nat → Int32) × (Nat → Int64) × (Nat → Int64) × (Nat → Int32) × (Nat → Int32) × (Nat → Int32)) (ls : Array Slot) (H : Heap) (locs : List Loc) => match q with | (k91_8, k91_7, k91_6, k91_la, k91_bk, k91_va, k91_su, k91_ce, k91_ho, k91_wy, k91_bt, k91_ps, k91_tg, k91_sn, k91_ro, k91_se, k91_re, k91_pt, k91_tr, k91_ld) => lv_has ls 12 [(6, .int k91_6), (7, .int k91_7), (8, .int k91_8), (5, .int z237), (0, .ref b_o), (1, .int p_1), (2, .int p_2), (3, .int p_3), (4, .int p_4)] ∧ va_P G.1 vwCl [(b_o, (oc12 0 u_sa b_rf b_ro b_im b_ke u_fd b_tp u_td u_fr u_to u_so u_wo u_fa u_bd u_nc b_nl u_co b_op b_ar u_le b_pi b_pa u_pd u_od b_ws b_hw k91_la b_se b_re k91_bk k91_va k91_su k91_ce k91_ho k91_wy k91_bt k91_ps b_pt k91_tg k91_sn b_ip u_ic b_ah b_be b_me u_wd b_tr b_ld u_st b_wn u_id)), (b_ro, (arI G 5740 k91_ro)), (b_se, (arJ G 13 k91_se)), (b_re, (arJ G 400 k91_re)), (b_pt, (arI G 200 k91_pt)), (b_tr, (arZ G 1536 k91_tr)), (b_ld, (arZ G 1536 k91_ld))] H ∧ va_D A [(b_o, (oc12 0 u_sa b_rf b_ro b_im b_ke u_fd b_tp u_td u_fr u_to u_so u_wo u_fa u_bd u_nc b_nl u_co b_op b_ar u_le b_pi b_pa u_pd u_od b_ws b_hw k91_la b_se b_re k91_bk k91_va k91_su k91_ce k91_ho k91_wy k91_bt k91_ps b_pt k91_tg k91_sn b_ip u_ic b_ah b_be b_me u_wd b_tr b_ld u_st b_wn u_id)), (b_ro, (arI G 5740 k91_ro)), (b_se, (arJ G 13 k91_se)), (b_re, (arJ G 400 k91_re)), (b_pt, (arI G 200 k91_pt)), (b_tr, (arZ G 1536 k91_tr)), (b_ld, (arZ G 1536 k91_ld))] ∧ va_S A s.heap H locs ∧ (0 ≤ k91_8.toInt ∧ k91_8.toInt ≤ 6) ∧ (0 ≤ k91_6.toInt ∧ k91_6.toInt ≤ 24) ∧ (0 ≤ k91_la.toInt ∧ k91_la.toInt ≤ 4840) ∧ (0 ≤ k91_bk.toInt ∧ k91_bk.toInt ≤ 1) ∧ (0 ≤ k91_ce.toInt ∧ k91_ce.toInt ≤ 63) ∧ (0 ≤ k91_ho.toInt ∧ k91_ho.toInt ≤ 23) ∧ (0 ≤ k91_wy.toInt ∧ k91_wy.toInt ≤ 3) ∧ (0 ≤ k91_bt.toInt ∧ k91_bt.toInt ≤ 1000000) ∧ (0 ≤ k91_ps.toInt ∧ k91_ps.toInt ≤ 200) ∧ (MI k91_ro) ∧ (PTI k91_pt) ∧ (k91_ro = v_ro)) (fun (q : (Int32) × (Int32) × (Int32) × (Int32) × (Int32) × (Int64) × (Int64) × (Int32) × (Int32) × (Int32) × (Int32) × (Int32) × (Int32) × (Int32) × (Nat → Int32) × (Nat → Int64) × (Nat → Int64) × (Nat → Int32) × (Nat → Int32) × (Nat → Int32)) => match q with | (k91_8, k91_7, k91_6, k91_la, k91_bk, k91_va, k91_su, k91_ce, k91_ho, k91_wy, k91_bt, k91_ps, k91_tg, k91_sn, k91_ro, k91_se, k91_re, k91_pt, k91_tr, k91_ld) => Int.toNat (6 - k91_8.toInt)) (0, (-1), z237, z238, z239, z240, z241, z242, z243, z244, z245, z246, z247, z248, v_ro, z249, z250, z251, z252, z253) ⟨lv_sub hl [2, 1, 0, 3, 4, 5, 6, 7, 8] rfl, hP, hD, hS, ⟨by decide, by decide⟩, ⟨by omega, by omega⟩, i_229, i_230, i_231, i_232, i_233, i_234, i_235, r_ro, i_236, rfl⟩ ?_
                          rintro ⟨k91_8, k91_7, k91_6, k91_la, k91_bk, k91_va, k91_su, k91_ce, k91_ho, k91_wy, k91_bt, k91_ps, k91_tg, k91_sn, k91_ro, k91_se, k91_re, k91_pt, k91_tr, k91_ld⟩ ls H locs ⟨hl, hP, hD, hS, i_256, i_257, i_258, i_259, i_260, i_261, i_262, i_263, i_264, i_265, i_266, i_267⟩ ih_91_268
                          have hl : lv_has ls 12 [(6, .int k91_6), (7, .int k91_7), (8, .int k91_8), (5, .int z237), (0, .ref b_o), (1, .int p_1), (2, .int p_2), (3, .int p_3), (4, .int p_4)] := hl
                          have i_256 : 0 ≤ k91_8.toInt ∧ k91_8.toInt ≤ 6 := i_256
                          have i_257 : 0 ≤ k91_6.toInt ∧ k91_6.toInt ≤ 24 := i_257
                          have i_258 : 0 ≤ k91_la.toInt ∧ k91_la.toInt ≤ 4840 := i_258
                          have i_259 : 0 ≤ k91_bk.toInt ∧ k91_bk.toInt ≤ 1 := i_259
                          have i_260 : 0 ≤ k91_ce.toInt ∧ k91_ce.toInt ≤ 63 := i_260
                          have i_261 : 0 ≤ k91_ho.toInt ∧ k91_ho.toInt ≤ 23 := i_261
                          have i_262 : 0 ≤ k91_wy.toInt ∧ k91_wy.toInt ≤ 3 := i_262
                          have i_263 : 0 ≤ k91_bt.toInt ∧ k91_bt.toInt ≤ 1000000 := i_263
                          have i_264 : 0 ≤ k91_ps.toInt ∧ k91_ps.toInt ≤ 200 := i_264
                          have i_265 : MI k91_ro := i_265
                          have i_266 : PTI k91_pt := i_266
                          have i_267 : k91_ro = v_ro := i_267
                          refine g5_rs [(b_o, (oc12 0 u_sa b_rf b_ro b_im b_ke u_fd b_tp u_td u_fr u_to u_so u_wo u_fa u_bd u_nc b_nl u_co b_op b_ar u_le b_pi b_pa u_pd u_od b_ws b_hw k91_la b_se b_re k91_bk k91_va k91_su k91_ce k91_ho k91_wy k91_bt k91_ps b_pt k91_tg k91_sn b_ip u_ic b_ah b_be b_me u_wd b_tr b_ld u_st b_wn u_id)), (b_ro, (arI G 5740 k91_ro)), (b_se, (arJ G 13 k91_se)), (b_re, (arJ G 400 k91_re)), (b_pt, (arI G 200 k91_pt)), (b_tr, (arZ G 1536 k91_tr)), (b_ld, (arZ G 1536 k91_ld))] hP hD (fun hP hD => ?_)
                          refine lv_iload hx hb dX12_sooner_91 (lv_at hl 2 rfl) ?_
                          refine lv_aload_n hx hb dX12_sooner_93 rfl (lv_at hl 4 rfl) ?_
                          refine va_get (D := G.1) (ci := 12) (v := .ref b_ro) (C := RX12) (T := TX12) (N := 52) hx hb hts inG_X12 hown hK hP 0 rfl rfl 3 (by decide) (hts _ fl_X12_13) (fun _ h9 => h9) rfl dX12_sooner_94 ?_
                          refine lv_iconst (v := 0) hx hb dX12_sooner_97 (by decide) ?_
                          refine va_iald hx hb hK hP 1 0 rfl rfl (i := 0) (by unfold vp_in; decide) dX12_sooner_98 ?_
                          refine g5_ti (v := (k91_ro 0)) rfl ?_
                          have hr_269 : 0 ≤ (k91_ro 0).toInt ∧ (k91_ro 0).toInt ≤ 6 := mi_0 i_265
                          refine lv_icmp_ge (tgt := 235) hx hb dX12_sooner_99 (by decide) (fun c_270 => ?_) (fun c_270 => ?_)
                          ·
                            have i_270 : k91_8.toInt ≥ (k91_ro 0).toInt := by have z := g5_ge (a := k91_8.toInt) (b := (k91_ro 0).toInt) (by rfl) (by rfl) c_270; omega
                            refine lv_iload hx hb dX12_sooner_235 (lv_at hl 1 rfl) ?_
                            refine lv_iconst (v := (-1)) hx hb dX12_sooner_237 (by decide) ?_
                            refine lv_icmp_ne (tgt := 245) hx hb dX12_sooner_238 (by decide) (fun c_271 => ?_) (fun c_271 => ?_)
                            ·
                              have n_271 : gNe (k91_7.toInt) ((-1)) := by have z := g5_ne (a := k91_7.toInt) (b := (-1)) (by rfl) (by decide) c_271; unfold gNe; omega
                              refine lv_iload hx hb dX12_sooner_245 (lv_at hl 8 rfl) ?_
                              refine lv_if_ne (tgt := 255) hx hb dX12_sooner_247 (by decide) (fun c_272 => ?_) (fun c_272 => ?_)
                              ·
                                have n_272 : gNe (p_4.toInt) (0) := by have z := g5_ne (a := p_4.toInt) (b := 0) (by rfl) (by decide) c_272; unfold gNe; omega
                                have i_272 : p_4.toInt ≥ 1 := by have z := g5_ne (a := p_4.toInt) (b := 0) (by rfl) (by decide) c_272; omega
                                refine lv_iload hx hb dX12_sooner_255 (lv_at hl 8 rfl) ?_
                                refine lv_iconst (v := 1) hx hb dX12_sooner_257 (by decide) ?_
                                refine lv_icmp_ne (tgt := 269) hx hb dX12_sooner_258 (by decide) (fun c_273 => ?_) (fun c_273 => ?_)
                                ·
                                  have n_273 : gNe (p_4.toInt) (1) := by have z := g5_ne (a := p_4.toInt) (b := 1) (by rfl) (by decide) c_273; unfold gNe; omega
                                  have i_273 : p_4.toInt ≥ 2 := by have z := g5_ne (a := p_4.toInt) (b := 1) (by rfl) (by decide) c_273; omega
                                  refine lv_iload hx hb dX12_sooner_269 (lv_at hl 1 rfl) ?_
                                  refine lv_bipush (v := 6) hx hb dX12_sooner_271 (by decide) ?_
                                  refine lv_irem hx hb dX12_sooner_273 (by decide) ?_
                                  exact W.iret (v := (k91_7 - k91_7 / 6 * 6)) hx hb hr (fun t ht hW => ⟨⟨(k91_7 - k91_7 / 6 * 6), [(b_o, (oc12 0 u_sa b_rf b_ro b_im b_ke u_fd b_tp u_td u_fr u_to u_so u_wo u_fa u_bd u_nc b_nl u_co b_op b_ar u_le b_pi b_pa u_pd u_od b_ws b_hw k91_la b_se b_re k91_bk k91_va k91_su k91_ce k91_ho k91_wy k91_bt k91_ps b_pt k91_tg k91_sn b_ip u_ic b_ah b_be b_me u_wd b_tr b_ld u_st b_wn u_id)), (b_ro, (arI G 5740 k91_ro)), (b_se, (arJ G 13 k91_se)), (b_re, (arJ G 400 k91_re)), (b_pt, (arI G 200 k91_pt)), (b_tr, (arZ G 1536 k91_tr)), (b_ld, (arZ G 1536 k91_ld))], rfl, ⟨(k91_7 - k91_7 / 6 * 6), 0, k91_la, k91_bk, k91_va, k91_su, k91_ce, k91_ho, k91_wy, k91_bt, k91_ps, k91_tg, k91_sn, k91_ro, k91_se, k91_re, k91_pt, k91_tr, k91_ld, i_265, i_258, i_259, i_260, i_261, i_262, i_263, i_264, i_266, i_267, rfl, rfl⟩, by rw [ht]; exact hP.sub [0, 1, 2, 3, 4, 5, 6] rfl, hD.sub [0, 1, 2, 3, 4, 5, 6] (by decide) rfl⟩, hS.F ht⟩) hS.2.2 dX12_sooner_274
                                ·
                                  have i_273 : p_4.toInt = 1 := by have z := g5_neN (a := p_4.toInt) (b := 1) (by rfl) (by decide) c_273; omega
                                  refine lv_iload hx hb dX12_sooner_261 (lv_at hl 1 rfl) ?_
                                  refine lv_bipush (v := 6) hx hb dX12_sooner_263 (by decide) ?_
                                  refine lv_idiv hx hb dX12_sooner_265 (by decide) ?_
                                  refine lv_goto (tgt := 274) hx hb dX12_sooner_266 (by decide) ?_
                                  exact W.iret (v := (k91_7 / 6)) hx hb hr (fun t ht hW => ⟨⟨(k91_7 / 6), [(b_o, (oc12 0 u_sa b_rf b_ro b_im b_ke u_fd b_tp u_td u_fr u_to u_so u_wo u_fa u_bd u_nc b_nl u_co b_op b_ar u_le b_pi b_pa u_pd u_od b_ws b_hw k91_la b_se b_re k91_bk k91_va k91_su k91_ce k91_ho k91_wy k91_bt k91_ps b_pt k91_tg k91_sn b_ip u_ic b_ah b_be b_me u_wd b_tr b_ld u_st b_wn u_id)), (b_ro, (arI G 5740 k91_ro)), (b_se, (arJ G 13 k91_se)), (b_re, (arJ G 400 k91_re)), (b_pt, (arI G 200 k91_pt)), (b_tr, (arZ G 1536 k91_tr)), (b_ld, (arZ G 1536 k91_ld))], rfl, ⟨(k91_7 / 6), 0, k91_la, k91_bk, k91_va, k91_su, k91_ce, k91_ho, k91_wy, k91_bt, k91_ps, k91_tg, k91_sn, k91_ro, k91_se, k91_re, k91_pt, k91_tr, k91_ld, i_265, i_258, i_259, i_260, i_261, i_262, i_263, i_264, i_266, i_267, rfl, rfl⟩, by rw [ht]; exact hP.sub [0, 1, 2, 3, 4, 5, 6] rfl, hD.sub [0, 1, 2, 3, 4, 5, 6] (by decide) rfl⟩, hS.F ht⟩) hS.2.2 dX12_sooner_274
                              ·
                                have i_272 : p_4.toInt = 0 := by have z := g5_neN (a := p_4.toInt) (b := 0) (by rfl) (by decide) c_272; omega
                                refine lv_iload hx hb dX12_sooner_250 (lv_at hl 0 rfl) ?_
                                refine lv_goto (tgt := 274) hx hb dX12_sooner_252 (by decide) ?_
                                exact W.iret (v := k91_6) hx hb hr (fun t ht hW => ⟨⟨k91_6, [(b_o, (oc12 0 u_sa b_rf b_ro b_im b_ke u_fd b_tp u_td u_fr u_to u_so u_wo u_fa u_bd u_nc b_nl u_co b_op b_ar u_le b_pi b_pa u_pd u_od b_ws b_hw k91_la b_se b_re k91_bk k91_va k91_su k91_ce k91_ho k91_wy k91_bt k91_ps b_pt k91_tg k91_sn b_ip u_ic b_ah b_be b_me u_wd b_tr b_ld u_st b_wn u_id)), (b_ro, (arI G 5740 k91_ro)), (b_se, (arJ G 13 k91_se)), (b_re, (arJ G 400 k91_re)), (b_pt, (arI G 200 k91_pt)), (b_tr, (arZ G 1536 k91_tr)), (b_ld, (arZ G 1536 k91_ld))], rfl, ⟨k91_6, 0, k91_la, k91_bk, k91_va, k91_su, k91_ce, k91_ho, k91_wy, k91_bt, k91_ps, k91_tg, k91_sn, k91_ro, k91_se, k91_re, k91_pt, k91_tr, k91_ld, i_265, i_258, i_259, i_260, i_261, i_262, i_263, i_264, i_266, i_267, rfl, rfl⟩, by rw [ht]; exact hP.sub [0, 1, 2, 3, 4, 5, 6] rfl, hD.sub [0, 1, 2, 3, 4, 5, 6] (by decide) rfl⟩, hS.F ht⟩) hS.2.2 dX12_sooner_274
                            ·
                              have i_271 : k91_7.toInt = (-1) := by have z := g5_neN (a := k91_7.toInt) (b := (-1)) (by rfl) (by decide) c_271; omega
                              refine lv_iconst (v := (-1)) hx hb dX12_sooner_241 (by decide) ?_
                              refine lv_goto (tgt := 274) hx hb dX12_sooner_242 (by decide) ?_
                              exact W.iret (v := (-1)) hx hb hr (fun t ht hW => ⟨⟨(-1), [(b_o, (oc12 0 u_sa b_rf b_ro b_im b_ke u_fd b_tp u_td u_fr u_to u_so u_wo u_fa u_bd u_nc b_nl u_co b_op b_ar u_le b_pi b_pa u_pd u_od b_ws b_hw k91_la b_se b_re k91_bk k91_va k91_su k91_ce k91_ho k91_wy k91_bt k91_ps b_pt k91_tg k91_sn b_ip u_ic b_ah b_be b_me u_wd b_tr b_ld u_st b_wn u_id)), (b_ro, (arI G 5740 k91_ro)), (b_se, (arJ G 13 k91_se)), (b_re, (arJ G 400 k91_re)), (b_pt, (arI G 200 k91_pt)), (b_tr, (arZ G 1536 k91_tr)), (b_ld, (arZ G 1536 k91_ld))], rfl, ⟨(-1), 0, k91_la, k91_bk, k91_va, k91_su, k91_ce, k91_ho, k91_wy, k91_bt, k91_ps, k91_tg, k91_sn, k91_ro, k91_se, k91_re, k91_pt, k91_tr, k91_ld, i_265, i_258, i_259, i_260, i_261, i_262, i_263, i_264, i_266, i_267, rfl, rfl⟩, by rw [ht]; exact hP.sub [0, 1, 2, 3, 4, 5, 6] rfl, hD.sub [0, 1, 2, 3, 4, 5, 6] (by decide) rfl⟩, hS.F ht⟩) hS.2.2 dX12_sooner_274
                          ·
                            have i_270 : k91_8.toInt < (k91_ro 0).toInt := by have z := g5_geN (a := k91_8.toInt) (b := (k91_ro 0).toInt) (by rfl) (by rfl) c_270; omega
                            refine lv_aload_n hx hb dX12_sooner_102 rfl (lv_at hl 4 rfl) ?_
                            refine lv_iload hx hb dX12_sooner_103 (lv_at hl 2 rfl) ?_
                            refine lv_iconst (v := 1) hx hb dX12_sooner_105 (by decide) ?_
                            obtain ⟨hPc, hDc, hFc⟩ := g5_sub3 (wc := [(b_o, (oc12 0 u_sa b_rf b_ro b_im b_ke u_fd b_tp u_td u_fr u_to u_so u_wo u_fa u_bd u_nc b_nl u_co b_op b_ar u_le b_pi b_pa u_pd u_od b_ws b_hw k91_la b_se b_re k91_bk k91_va k91_su k91_ce k91_ho k91_wy k91_bt k91_ps b_pt k91_tg k91_sn b_ip u_ic b_ah b_be b_me u_wd b_tr b_ld u_st b_wn u_id)), (b_ro, (arI G 5740 k91_ro))]) hP hD hS hA [0, 1] (by decide) rfl
                            refine va_calli (va_runV (As := [.int k91_8, .int 1]) (rest := []) ⟨hx, hb, hml, hown, hts⟩ (n_ofGlass1S l G b_o b_ro b_rf b_im b_ke b_tp b_nl b_op b_ar b_pi b_pa b_ws b_hw b_se b_re b_pt b_ip b_ah b_be b_me b_tr b_ld b_wn H.size 0 u_sa u_fd u_td u_fr u_to u_so u_fa u_bd u_nc u_co u_le u_pd u_od k91_la k91_bk k91_ce k91_ho k91_wy k91_bt k91_ps k91_tg k91_sn u_ic u_wd u_id k91_8 u_wo k91_va k91_su u_st k91_ro h_u_td h_u_fr h_u_to h_u_bd h_u_nc h_u_co h_u_pd i_258 i_259 i_260 i_261 i_262 i_263 i_264 h_u_ic h_u_id ⟨by omega, by omega⟩ (i_265)) (cwV 2 hts gV_X12_134 rfl rfl rfl hv_X12_ofGlass ⟨Nat.le_of_ble_eq_true rfl, Nat.le_of_ble_eq_true rfl⟩) (g5_preV hPc hK hDc hN hT hS hFc (ci := 12) (q0 := 0) rfl rfl) rfl rfl hl.1 rfl (lv_room (Nat.le_of_ble_eq_true rfl)) dX12_sooner_106 ⟨Nat.le_of_ble_eq_true rfl, Nat.le_of_ble_eq_true rfl⟩) hS (fun q _ h => hFc q h) hFc (fun r u t H1 locs ht hvm hw hB hz1 hk1 hS => ?_)
                            obtain ⟨hP1, hD1⟩ := hB
                            rw [ht] at hP1
                            obtain ⟨z276, i_274, i_275, y277, rfl⟩ := hw
                            have i_274 : 0 ≤ z276.toInt ∧ z276.toInt ≤ 5 := i_274
                            have i_275 : z276 = k91_ro (80 + 5 * k91_8.toInt.toNat + 1) := i_275
                            obtain ⟨hP, hD⟩ := va_join (wr := [(b_se, (arJ G 13 k91_se)), (b_re, (arJ G 400 k91_re)), (b_pt, (arI G 200 k91_pt)), (b_tr, (arZ G 1536 k91_tr)), (b_ld, (arZ G 1536 k91_ld))]) hP hD [0, 1] [2, 3, 4, 5, 6] rfl rfl (by decide) (by decide) hk1 hFc hP1 hD1
                            generalize H1 = H at hP hS ⊢
                            refine g5_rs [(b_se, (arJ G 13 k91_se)), (b_re, (arJ G 400 k91_re)), (b_pt, (arI G 200 k91_pt)), (b_tr, (arZ G 1536 k91_tr)), (b_ld, (arZ G 1536 k91_ld)), (b_o, (oc12 0 u_sa b_rf b_ro b_im b_ke u_fd b_tp u_td u_fr u_to u_so u_wo u_fa u_bd u_nc b_nl u_co b_op b_ar u_le b_pi b_pa u_pd u_od b_ws b_hw k91_la b_se b_re k91_bk k91_va k91_su k91_ce k91_ho k91_wy k91_bt k91_ps b_pt k91_tg k91_sn b_ip u_ic b_ah b_be b_me u_wd b_tr b_ld u_st b_wn u_id)), (b_ro, (arI G 5740 k91_ro))] hP hD (fun hP hD => ?_)
                            refine g5_ti (v := z276) y277 ?_
                            refine lv_istore (lv' := [(9, .int z276), (6, .int k91_6), (7, .int k91_7), (8, .int k91_8), (5, .int z237), (0, .ref b_o), (1, .int p_1), (2, .int p_2), (3, .int p_3), (4, .int p_4)]) hx hb dX12_sooner_109 hl (by decide) rfl (fun ls hl => ?_)
                            refine lv_iconst (v := 0) hx hb dX12_sooner_111 (by decide) ?_
                            refine lv_istore (lv' := [(10, .int 0), (9, .int z276), (6, .int k91_6), (7, .int k91_7), (8, .int k91_8), (5, .int z237), (0, .ref b_o), (1, .int p_1), (2, .int p_2), (3, .int p_3), (4, .int p_4)]) hx hb dX12_sooner_112 hl (by decide) rfl (fun ls hl => ?_)
                            refine g5_loop (α := (Int32) × (Int32) × (Int32) × (Int32) × (Int32) × (Int64) × (Int64) × (Int32) × (Int32) × (Int32) × (Int32) × (Int32) × (Int32) × (Int32) × (Nat → Int32) × (Nat → Int64) × (Nat → Int64) × (Nat → Int32) × (Nat → Int32) × (Nat → Int32)) (fun (q : (Int32) × (Int32) × (Int32) × (Int32) × (Int32) × (Int64) × (Int64) × (Int32) × (Int32) × (Int32) × (Int32) × (Int32) × (Int32) × (Int32) × (Nat → Int32) × (Nat → Int64) × (Nat → Int64) × (Nat → Int32) × (Nat → Int32) × (Nat → Int32)) (ls : Array Slot) (H : Heap) (locs : List Loc) => match q with | (k114_10, k114_6, k114_7, k114_la, k114_bk, k114_va, k114_su, k114_ce, k114_ho, k114_wy, k114_bt, k114_ps, k114_tg, k114_sn, k114_ro, k114_se, k114_re, k114_pt, k114_tr, k114_ld) => lv_has ls 12 [(6, .int k114_6), (7, .int k114_7), (10, .int k114_10), (9, .int z276), (8, .int k91_8), (5, .int z237), (0, .ref b_o), (1, .int p_1), (2, .int p_2), (3, .int p_3), (4, .int p_4)] ∧ va_P G.1 vwCl [(b_se, (arJ G 13 k114_se)), (b_re, (arJ G 400 k114_re)), (b_pt, (arI G 200 k114_pt)), (b_tr, (arZ G 1536 k114_tr)), (b_ld, (arZ G 1536 k114_ld)), (b_o, (oc12 0 u_sa b_rf b_ro b_im b_ke u_fd b_tp u_td u_fr u_to u_so u_wo u_fa u_bd u_nc b_nl u_co b_op b_ar u_le b_pi b_pa u_pd u_od b_ws b_hw k114_la b_se b_re k114_bk k114_va k114_su k114_ce k114_ho k114_wy k114_bt k114_ps b_pt k114_tg k114_sn b_ip u_ic b_ah b_be b_me u_wd b_tr b_ld u_st b_wn u_id)), (b_ro, (arI G 5740 k114_ro))] H ∧ va_D A [(b_se, (arJ G 13 k114_se)), (b_re, (arJ G 400 k114_re)), (b_pt, (arI G 200 k114_pt)), (b_tr, (arZ G 1536 k114_tr)), (b_ld, (arZ G 1536 k114_ld)), (b_o, (oc12 0 u_sa b_rf b_ro b_im b_ke u_fd b_tp u_td u_fr u_to u_so u_wo u_fa u_bd u_nc b_nl u_co b_op b_ar u_le b_pi b_pa u_pd u_od b_ws b_hw k114_la b_se b_re k114_bk k114_va k114_su k114_ce k114_ho k114_wy k114_bt k114_ps b_pt k114_tg k114_sn b_ip u_ic b_ah b_be b_me u_wd b_tr b_ld u_st b_wn u_id)), (b_ro, (arI G 5740 k114_ro))] ∧ va_S A s.heap H locs ∧ (0 ≤ k114_10.toInt ∧ k114_10.toInt ≤ 6) ∧ (0 ≤ k114_6.toInt ∧ k114_6.toInt ≤ 24) ∧ (0 ≤ k114_la.toInt ∧ k114_la.toInt ≤ 4840) ∧ (0 ≤ k114_bk.toInt ∧ k114_bk.toInt ≤ 1) ∧ (0 ≤ k114_ce.toInt ∧ k114_ce.toInt ≤ 63) ∧ (0 ≤ k114_ho.toInt ∧ k114_ho.toInt ≤ 23) ∧ (0 ≤ k114_wy.toInt ∧ k114_wy.toInt ≤ 3) ∧ (0 ≤ k114_bt.toInt ∧ k114_bt.toInt ≤ 1000000) ∧ (0 ≤ k114_ps.toInt ∧ k114_ps.toInt ≤ 200) ∧ (MI k114_ro) ∧ (PTI k114_pt) ∧ (∀ j : Nat, j ≠ (81 + 5 * k91_8.toInt.toNat) → k114_ro j = v_ro j)) (fun (q : (Int32) × (Int32) × (Int32) × (Int32) × (Int32) × (Int64) × (Int64) × (Int32) × (Int32) × (Int32) × (Int32) × (Int32) × (Int32) × (Int32) × (Nat → Int32) × (Nat → Int64) × (Nat → Int64) × (Nat → Int32) × (Nat → Int32) × (Nat → Int32)) => match q with | (k114_10, k114_6, k114_7, k114_la, k114_bk, k114_va, k114_su, k114_ce, k114_ho, k114_wy, k114_bt, k114_ps, k114_tg, k114_sn, k114_ro, k114_se, k114_re, k114_pt, k114_tr, k114_ld) => Int.toNat (6 - k114_10.toInt)) (0, k91_6, k91_7, k91_la, k91_bk, k91_va, k91_su, k91_ce, k91_ho, k91_wy, k91_bt, k91_ps, k91_tg, k91_sn, k91_ro, k91_se, k91_re, k91_pt, k91_tr, k91_ld) ⟨lv_sub hl [2, 3, 0, 1, 4, 5, 6, 7, 8, 9, 10] rfl, hP, hD, hS, ⟨by decide, by decide⟩, i_257, i_258, i_259, i_260, i_261, i_262, i_263, i_264, i_265, i_266, fun j _ => by rw [i_267]⟩ ?_
                            rintro ⟨k114_10, k114_6, k114_7, k114_la, k114_bk, k114_va, k114_su, k114_ce, k114_ho, k114_wy, k114_bt, k114_ps, k114_tg, k114_sn, k114_ro, k114_se, k114_re, k114_pt, k114_tr, k114_ld⟩ ls H locs ⟨hl, hP, hD, hS, i_278, i_279, i_280, i_281, i_282, i_283, i_284, i_285, i_286, i_287, i_288, i_289⟩ ih_114_290
                            have hl : lv_has ls 12 [(6, .int k114_6), (7, .int k114_7), (10, .int k114_10), (9, .int z276), (8, .int k91_8), (5, .int z237), (0, .ref b_o), (1, .int p_1), (2, .int p_2), (3, .int p_3), (4, .int p_4)] := hl
                            have i_278 : 0 ≤ k114_10.toInt ∧ k114_10.toInt ≤ 6 := i_278
                            have i_279 : 0 ≤ k114_6.toInt ∧ k114_6.toInt ≤ 24 := i_279
                            have i_280 : 0 ≤ k114_la.toInt ∧ k114_la.toInt ≤ 4840 := i_280
                            have i_281 : 0 ≤ k114_bk.toInt ∧ k114_bk.toInt ≤ 1 := i_281
                            have i_282 : 0 ≤ k114_ce.toInt ∧ k114_ce.toInt ≤ 63 := i_282
                            have i_283 : 0 ≤ k114_ho.toInt ∧ k114_ho.toInt ≤ 23 := i_283
                            have i_284 : 0 ≤ k114_wy.toInt ∧ k114_wy.toInt ≤ 3 := i_284
                            have i_285 : 0 ≤ k114_bt.toInt ∧ k114_bt.toInt ≤ 1000000 := i_285
                            have i_286 : 0 ≤ k114_ps.toInt ∧ k114_ps.toInt ≤ 200 := i_286
                            have i_287 : MI k114_ro := i_287
                            have i_288 : PTI k114_pt := i_288
                            have i_289 : ∀ j : Nat, j ≠ (81 + 5 * k91_8.toInt.toNat) → k114_ro j = v_ro j := i_289
                            refine g5_rs [(b_se, (arJ G 13 k114_se)), (b_re, (arJ G 400 k114_re)), (b_pt, (arI G 200 k114_pt)), (b_tr, (arZ G 1536 k114_tr)), (b_ld, (arZ G 1536 k114_ld)), (b_o, (oc12 0 u_sa b_rf b_ro b_im b_ke u_fd b_tp u_td u_fr u_to u_so u_wo u_fa u_bd u_nc b_nl u_co b_op b_ar u_le b_pi b_pa u_pd u_od b_ws b_hw k114_la b_se b_re k114_bk k114_va k114_su k114_ce k114_ho k114_wy k114_bt k114_ps b_pt k114_tg k114_sn b_ip u_ic b_ah b_be b_me u_wd b_tr b_ld u_st b_wn u_id)), (b_ro, (arI G 5740 k114_ro))] hP hD (fun hP hD => ?_)
                            refine lv_iload hx hb dX12_sooner_114 (lv_at hl 2 rfl) ?_
                            refine lv_bipush (v := 6) hx hb dX12_sooner_116 (by decide) ?_
                            refine lv_icmp_ge (tgt := 213) hx hb dX12_sooner_118 (by decide) (fun c_291 => ?_) (fun c_291 => ?_)
                            ·
                              have i_291 : k114_10.toInt ≥ 6 := by have z := g5_ge (a := k114_10.toInt) (b := 6) (by rfl) (by decide) c_291; omega
                              refine lv_aload_n hx hb dX12_sooner_213 rfl (lv_at hl 6 rfl) ?_
                              refine va_get (D := G.1) (ci := 12) (v := .ref b_ro) (C := RX12) (T := TX12) (N := 52) hx hb hts inG_X12 hown hK hP 5 rfl rfl 3 (by decide) (hts _ fl_X12_13) (fun _ h9 => h9) rfl dX12_sooner_214 ?_
                              refine lv_bipush (v := 80) hx hb dX12_sooner_217 (by decide) ?_
                              refine lv_iconst (v := 5) hx hb dX12_sooner_219 (by decide) ?_
                              refine lv_iload hx hb dX12_sooner_220 (lv_at hl 4 rfl) ?_
                              refine lv_imul hx hb dX12_sooner_222 ?_
                              have t_292 : (5 * k91_8).toInt = 5 * k91_8.toInt := g5_imul (a := 5) (b := k91_8.toInt) (by decide) (by rfl) (by omega) (by omega)
                              refine lv_iadd hx hb dX12_sooner_223 ?_
                              have t_293 : (80 + (5 * k91_8)).toInt = 80 + (5 * k91_8).toInt := g5_iadd (a := 80) (b := (5 * k91_8).toInt) (by decide) (by rfl) (by omega) (by omega)
                              refine lv_iconst (v := 1) hx hb dX12_sooner_224 (by decide) ?_
                              refine lv_iadd hx hb dX12_sooner_225 ?_
                              have t_294 : ((80 + (5 * k91_8)) + 1).toInt = (80 + (5 * k91_8)).toInt + 1 := g5_iadd (a := (80 + (5 * k91_8)).toInt) (b := 1) (by rfl) (by decide) (by omega) (by omega)
                              refine lv_iload hx hb dX12_sooner_226 (lv_at hl 3 rfl) ?_
                              refine va_iast hx hb hK hP hD hS 6 0 rfl rfl (i := ((80 + (5 * k91_8)) + 1)) (x := z276) (vp_in_iff.mpr ⟨by omega, by omega⟩) dX12_sooner_228 (fun H locs hP hD hS => ?_)
                              refine g5_rs [(b_se, (arJ G 13 k114_se)), (b_re, (arJ G 400 k114_re)), (b_pt, (arI G 200 k114_pt)), (b_tr, (arZ G 1536 k114_tr)), (b_ld, (arZ G 1536 k114_ld)), (b_o, (oc12 0 u_sa b_rf b_ro b_im b_ke u_fd b_tp u_td u_fr u_to u_so u_wo u_fa u_bd u_nc b_nl u_co b_op b_ar u_le b_pi b_pa u_pd u_od b_ws b_hw k114_la b_se b_re k114_bk k114_va k114_su k114_ce k114_ho k114_wy k114_bt k114_ps b_pt k114_tg k114_sn b_ip u_ic b_ah b_be b_me u_wd b_tr b_ld u_st b_wn u_id)), (b_ro, (arI G 5740 (upd k114_ro ((80 + (5 * k91_8)) + 1).toNatClampNeg z276)))] hP hD (fun hP hD => ?_)
                              refine lv_iinc (v := (k91_8 + 1)) (lv' := [(8, .int (k91_8 + 1)), (6, .int k114_6), (7, .int k114_7), (10, .int k114_10), (9, .int z276), (5, .int z237), (0, .ref b_o), (1, .int p_1), (2, .int p_2), (3, .int p_3), (4, .int p_4)]) hx hb dX12_sooner_229 hl (k := 4) rfl rfl (by decide) rfl (fun ls hl => ?_)
                              have t_295 : (k91_8 + 1).toInt = k91_8.toInt + 1 := g5_iadd (a := k91_8.toInt) (b := 1) rfl (by decide) (by omega) (by omega)
                              refine lv_goto (tgt := 91) hx hb dX12_sooner_232 (by decide) ?_
                              exact ih_91_268 ((k91_8 + 1), k114_7, k114_6, k114_la, k114_bk, k114_va, k114_su, k114_ce, k114_ho, k114_wy, k114_bt, k114_ps, k114_tg, k114_sn, (upd k114_ro ((80 + (5 * k91_8)) + 1).toNatClampNeg z276), k114_se, k114_re, k114_pt, k114_tr, k114_ld) ls H locs (show Int.toNat (6 - (k91_8 + 1).toInt) < Int.toNat (6 - k91_8.toInt) from g_up (show k91_8.toInt < (k91_8 + 1).toInt by omega) (show k91_8.toInt < 6 by omega)) ⟨lv_sub hl [1, 2, 0, 5, 6, 7, 8, 9, 10] rfl, hP.sub [5, 6, 0, 1, 2, 3, 4] rfl, hD.sub [5, 6, 0, 1, 2, 3, 4] (by decide) rfl, hS, ⟨by omega, by omega⟩, i_279, i_280, i_281, i_282, i_283, i_284, i_285, i_286, mi_upd i_287 (by have zz := g5_clamp ((80 + (5 * k91_8)) + 1); unfold rOK; refine ⟨?_, ?_, ?_, ?_, ?_, ?_, ?_, ?_, ?_, ?_, ?_, ?_, ?_, ?_, ?_, ?_, ?_, ?_, ?_, ?_, ?_, ?_, ?_⟩ <;> (intros; omega)) (by have zz := g5_clamp ((80 + (5 * k91_8)) + 1); omega) (by have zz := g5_clamp ((80 + (5 * k91_8)) + 1); omega) (by have zz := g5_clamp ((80 + (5 * k91_8)) + 1); omega) (by have zz := g5_clamp ((80 + (5 * k91_8)) + 1); omega) (by have zz := g5_clamp ((80 + (5 * k91_8)) + 1); omega), i_288, by rw [show ((80 + (5 * k91_8)) + 1).toNatClampNeg = (81 + 5 * k91_8.toInt.toNat) by have zz := g5_clamp ((80 + (5 * k91_8)) + 1); omega]; exact upd_but_self i_289 (by rw [i_275, i_267]; congr 1; omega)⟩
                            ·
                              have i_291 : k114_10.toInt < 6 := by have z := g5_geN (a := k114_10.toInt) (b := 6) (by rfl) (by decide) c_291; omega
                              refine lv_aload_n hx hb dX12_sooner_121 rfl (lv_at hl 6 rfl) ?_
                              refine va_get (D := G.1) (ci := 12) (v := .ref b_ro) (C := RX12) (T := TX12) (N := 52) hx hb hts inG_X12 hown hK hP 5 rfl rfl 3 (by decide) (hts _ fl_X12_13) (fun _ h9 => h9) rfl dX12_sooner_122 ?_
                              refine lv_bipush (v := 80) hx hb dX12_sooner_125 (by decide) ?_
                              refine lv_iconst (v := 5) hx hb dX12_sooner_127 (by decide) ?_
                              refine lv_iload hx hb dX12_sooner_128 (lv_at hl 4 rfl) ?_
                              refine lv_imul hx hb dX12_sooner_130 ?_
                              have t_296 : (5 * k91_8).toInt = 5 * k91_8.toInt := g5_imul (a := 5) (b := k91_8.toInt) (by decide) (by rfl) (by omega) (by omega)
                              refine lv_iadd hx hb dX12_sooner_131 ?_
                              have t_297 : (80 + (5 * k91_8)).toInt = 80 + (5 * k91_8).toInt := g5_iadd (a := 80) (b := (5 * k91_8).toInt) (by decide) (by rfl) (by omega) (by omega)
                              refine lv_iconst (v := 1) hx hb dX12_sooner_132 (by decide) ?_
                              refine lv_iadd hx hb dX12_sooner_133 ?_
                              have t_298 : ((80 + (5 * k91_8)) + 1).toInt = (80 + (5 * k91_8)).toInt + 1 := g5_iadd (a := (80 + (5 * k91_8)).toInt) (b := 1) (by rfl) (by decide) (by omega) (by omega)
                              refine lv_iload hx hb dX12_sooner_134 (lv_at hl 2 rfl) ?_
                              refine va_iast hx hb hK hP hD hS 6 0 rfl rfl (i := ((80 + (5 * k91_8)) + 1)) (x := k114_10) (vp_in_iff.mpr ⟨by omega, by omega⟩) dX12_sooner_136 (fun H locs hP hD hS => ?_)
                              refine g5_rs [(b_se, (arJ G 13 k114_se)), (b_re, (arJ G 400 k114_re)), (b_pt, (arI G 200 k114_pt)), (b_tr, (arZ G 1536 k114_tr)), (b_ld, (arZ G 1536 k114_ld)), (b_o, (oc12 0 u_sa b_rf b_ro b_im b_ke u_fd b_tp u_td u_fr u_to u_so u_wo u_fa u_bd u_nc b_nl u_co b_op b_ar u_le b_pi b_pa u_pd u_od b_ws b_hw k114_la b_se b_re k114_bk k114_va k114_su k114_ce k114_ho k114_wy k114_bt k114_ps b_pt k114_tg k114_sn b_ip u_ic b_ah b_be b_me u_wd b_tr b_ld u_st b_wn u_id)), (b_ro, (arI G 5740 (upd k114_ro ((80 + (5 * k91_8)) + 1).toNatClampNeg k114_10)))] hP hD (fun hP hD => ?_)
                              have hmi_299 : MI (upd k114_ro ((80 + (5 * k91_8)) + 1).toNatClampNeg k114_10) := mi_upd i_287 (by have zz := g5_clamp ((80 + (5 * k91_8)) + 1); unfold rOK; refine ⟨?_, ?_, ?_, ?_, ?_, ?_, ?_, ?_, ?_, ?_, ?_, ?_, ?_, ?_, ?_, ?_, ?_, ?_, ?_, ?_, ?_, ?_, ?_⟩ <;> (intros; omega)) (by have zz := g5_clamp ((80 + (5 * k91_8)) + 1); omega) (by have zz := g5_clamp ((80 + (5 * k91_8)) + 1); omega) (by have zz := g5_clamp ((80 + (5 * k91_8)) + 1); omega) (by have zz := g5_clamp ((80 + (5 * k91_8)) + 1); omega) (by have zz := g5_clamp ((80 + (5 * k91_8)) + 1); omega)
                              refine lv_iload hx hb dX12_sooner_137 (lv_at hl 2 rfl) ?_
                              refine lv_iload hx hb dX12_sooner_139 (lv_at hl 3 rfl) ?_
                              refine lv_icmp_ne (tgt := 148) hx hb dX12_sooner_141 (by decide) (fun c_300 => ?_) (fun c_300 => ?_)
                              ·
                                have n_300 : gNe (k114_10.toInt) (z276.toInt) := by have z := g5_ne (a := k114_10.toInt) (b := z276.toInt) (by rfl) (by rfl) c_300; unfold gNe; omega
                                refine lv_aload_n hx hb dX12_sooner_148 rfl (lv_at hl 6 rfl) ?_
                                refine lv_iload_n hx hb dX12_sooner_149 rfl (lv_at hl 7 rfl) ?_
                                refine lv_iload_n hx hb dX12_sooner_150 rfl (lv_at hl 8 rfl) ?_
                                refine lv_iload_n hx hb dX12_sooner_151 rfl (lv_at hl 9 rfl) ?_
                                obtain ⟨hPc, hDc, hFc⟩ := g5_sub3 (wc := [(b_o, (oc12 0 u_sa b_rf b_ro b_im b_ke u_fd b_tp u_td u_fr u_to u_so u_wo u_fa u_bd u_nc b_nl u_co b_op b_ar u_le b_pi b_pa u_pd u_od b_ws b_hw k114_la b_se b_re k114_bk k114_va k114_su k114_ce k114_ho k114_wy k114_bt k114_ps b_pt k114_tg k114_sn b_ip u_ic b_ah b_be b_me u_wd b_tr b_ld u_st b_wn u_id)), (b_ro, (arI G 5740 (upd k114_ro ((80 + (5 * k91_8)) + 1).toNatClampNeg k114_10))), (b_se, (arJ G 13 k114_se)), (b_re, (arJ G 400 k114_re)), (b_pt, (arI G 200 k114_pt)), (b_tr, (arZ G 1536 k114_tr)), (b_ld, (arZ G 1536 k114_ld))]) hP hD hS hA [5, 6, 0, 1, 2, 3, 4] (by decide) rfl
                                refine va_calli (va_runV (As := [.int p_1, .int p_2, .int p_3]) (rest := []) ⟨hx, hb, hml, hown, hts⟩ (n_findSoonest l G b_o b_ro b_se b_re b_pt b_tr b_ld b_rf b_im b_ke b_tp b_nl b_op b_ar b_pi b_pa b_ws b_hw b_ip b_ah b_be b_me b_wn H.size 0 u_sa u_fd u_td u_fr u_to u_so u_fa u_bd u_nc u_co u_le u_pd u_od k114_la k114_bk k114_ce k114_ho k114_wy k114_bt k114_ps k114_tg k114_sn u_ic u_wd u_id p_1 p_2 p_3 u_wo k114_va k114_su u_st (upd k114_ro ((80 + (5 * k91_8)) + 1).toNatClampNeg k114_10) k114_se k114_re k114_pt k114_tr k114_ld h_u_td h_u_fr h_u_to h_u_bd h_u_nc h_u_co h_u_pd i_280 i_281 i_282 i_283 i_284 i_285 i_286 h_u_ic h_u_id i_3 i_5 (hmi_299) (i_288)) (cwV 3 hts gV_X12_466 rfl rfl rfl hv_X12_findSoonest ⟨Nat.le_of_ble_eq_true rfl, Nat.le_of_ble_eq_true rfl⟩) (g5_preV hPc hK hDc hN hT hS hFc (ci := 12) (q0 := 0) rfl rfl) rfl rfl hl.1 rfl (lv_room (Nat.le_of_ble_eq_true rfl)) dX12_sooner_152 ⟨Nat.le_of_ble_eq_true rfl, Nat.le_of_ble_eq_true rfl⟩) hS (fun q _ h => hFc q h) hFc (fun r u t H1 locs ht hvm hw hB hz1 hk1 hS => ?_)
                                obtain ⟨hP1, hD1⟩ := hB
                                rw [ht] at hP1
                                obtain ⟨z310, z311, z312, z313, z314, z315, z316, z317, z318, z319, z320, z321, z322, z323, z324, z325, z326, i_301, i_302, i_303, i_304, i_305, i_306, i_307, i_308, i_309, y327, rfl⟩ := hw
                                have i_301 : (-1) ≤ z310.toInt ∧ z310.toInt ≤ 23 := i_301
                                have i_302 : 0 ≤ z311.toInt ∧ z311.toInt ≤ 4840 := i_302
                                have i_303 : 0 ≤ z312.toInt ∧ z312.toInt ≤ 1 := i_303
                                have i_304 : 0 ≤ z315.toInt ∧ z315.toInt ≤ 63 := i_304
                                have i_305 : 0 ≤ z316.toInt ∧ z316.toInt ≤ 23 := i_305
                                have i_306 : 0 ≤ z317.toInt ∧ z317.toInt ≤ 3 := i_306
                                have i_307 : 0 ≤ z318.toInt ∧ z318.toInt ≤ 1000000 := i_307
                                have i_308 : 0 ≤ z319.toInt ∧ z319.toInt ≤ 200 := i_308
                                have i_309 : PTI z324 := i_309
                                obtain ⟨hP, hD⟩ := va_join (wr := []) hP hD [5, 6, 0, 1, 2, 3, 4] [] rfl rfl (by decide) (by decide) hk1 hFc hP1 hD1
                                generalize H1 = H at hP hS ⊢
                                refine g5_rs [(b_o, (oc12 0 u_sa b_rf b_ro b_im b_ke u_fd b_tp u_td u_fr u_to u_so u_wo u_fa u_bd u_nc b_nl u_co b_op b_ar u_le b_pi b_pa u_pd u_od b_ws b_hw z311 b_se b_re z312 z313 z314 z315 z316 z317 z318 z319 b_pt z320 z321 b_ip u_ic b_ah b_be b_me u_wd b_tr b_ld u_st b_wn u_id)), (b_ro, (arI G 5740 (upd k114_ro ((80 + (5 * k91_8)) + 1).toNatClampNeg k114_10))), (b_se, (arJ G 13 z322)), (b_re, (arJ G 400 z323)), (b_pt, (arI G 200 z324)), (b_tr, (arZ G 1536 z325)), (b_ld, (arZ G 1536 z326))] hP hD (fun hP hD => ?_)
                                refine g5_ti (v := z310) y327 ?_
                                refine lv_istore (lv' := [(11, .int z310), (6, .int k114_6), (7, .int k114_7), (10, .int k114_10), (9, .int z276), (8, .int k91_8), (5, .int z237), (0, .ref b_o), (1, .int p_1), (2, .int p_2), (3, .int p_3), (4, .int p_4)]) hx hb dX12_sooner_155 hl (by decide) rfl (fun ls hl => ?_)
                                refine lv_iload hx hb dX12_sooner_157 (lv_at hl 0 rfl) ?_
                                refine lv_iconst (v := (-1)) hx hb dX12_sooner_159 (by decide) ?_
                                refine lv_icmp_eq (tgt := 181) hx hb dX12_sooner_160 (by decide) (fun c_328 => ?_) (fun c_328 => ?_)
                                ·
                                  have i_328 : z310.toInt = (-1) := by have z := g5_eq (a := z310.toInt) (b := (-1)) (by rfl) (by decide) c_328; omega
                                  refine lv_iload hx hb dX12_sooner_181 (lv_at hl 2 rfl) ?_
                                  refine lv_istore (lv' := [(7, .int k114_7), (11, .int z310), (6, .int k114_6), (10, .int k114_10), (9, .int z276), (8, .int k91_8), (5, .int z237), (0, .ref b_o), (1, .int p_1), (2, .int p_2), (3, .int p_3), (4, .int p_4)]) hx hb dX12_sooner_183 hl (by decide) rfl (fun ls hl => ?_)
                                  refine lv_iload hx hb dX12_sooner_185 (lv_at hl 1 rfl) ?_
                                  refine lv_iconst (v := (-1)) hx hb dX12_sooner_187 (by decide) ?_
                                  refine lv_icmp_eq (tgt := 203) hx hb dX12_sooner_188 (by decide) (fun c_329 => ?_) (fun c_329 => ?_)
                                  ·
                                    have i_329 : z310.toInt = (-1) := by have z := g5_eq (a := z310.toInt) (b := (-1)) (by rfl) (by decide) c_329; omega
                                    refine lv_iload hx hb dX12_sooner_203 (lv_at hl 2 rfl) ?_
                                    refine lv_istore (lv' := [(6, .int k114_6), (7, .int k114_7), (11, .int z310), (10, .int k114_10), (9, .int z276), (8, .int k91_8), (5, .int z237), (0, .ref b_o), (1, .int p_1), (2, .int p_2), (3, .int p_3), (4, .int p_4)]) hx hb dX12_sooner_205 hl (by decide) rfl (fun ls hl => ?_)
                                    refine lv_iinc (v := (k114_10 + 1)) (lv' := [(10, .int (k114_10 + 1)), (6, .int k114_6), (7, .int k114_7), (11, .int z310), (9, .int z276), (8, .int k91_8), (5, .int z237), (0, .ref b_o), (1, .int p_1), (2, .int p_2), (3, .int p_3), (4, .int p_4)]) hx hb dX12_sooner_207 hl (k := 3) rfl rfl (by decide) rfl (fun ls hl => ?_)
                                    have t_330 : (k114_10 + 1).toInt = k114_10.toInt + 1 := g5_iadd (a := k114_10.toInt) (b := 1) rfl (by decide) (by omega) (by omega)
                                    refine lv_goto (tgt := 114) hx hb dX12_sooner_210 (by decide) ?_
                                    exact ih_114_290 ((k114_10 + 1), k114_6, k114_7, z311, z312, z313, z314, z315, z316, z317, z318, z319, z320, z321, (upd k114_ro ((80 + (5 * k91_8)) + 1).toNatClampNeg k114_10), z322, z323, z324, z325, z326) ls H locs (show Int.toNat (6 - (k114_10 + 1).toInt) < Int.toNat (6 - k114_10.toInt) from g_up (show k114_10.toInt < (k114_10 + 1).toInt by omega) (show k114_10.toInt < 6 by omega)) ⟨lv_sub hl [1, 2, 0, 4, 5, 6, 7, 8, 9, 10, 11] rfl, hP.sub [2, 3, 4, 5, 6, 0, 1] rfl, hD.sub [2, 3, 4, 5, 6, 0, 1] (by decide) rfl, hS, ⟨by omega, by omega⟩, i_279, i_302, i_303, i_304, i_305, i_306, i_307, i_308, hmi_299, i_309, fun j hj => by rw [upd_ne (by rw [show ((80 + (5 * k91_8)) + 1).toNatClampNeg = (81 + 5 * k91_8.toInt.toNat) by have zz := g5_clamp ((80 + (5 * k91_8)) + 1); omega]; exact hj)]; exact i_289 j hj⟩
                                  ·
                                    have i_329 : z310.toInt ≠ (-1) := by have z := g5_eqN (a := z310.toInt) (b := (-1)) (by rfl) (by decide) c_329; omega
                                    omega
                                ·
                                  have n_328 : gNe (z310.toInt) ((-1)) := by have z := g5_eqN (a := z310.toInt) (b := (-1)) (by rfl) (by decide) c_328; unfold gNe; omega
                                  have i_328 : z310.toInt ≥ 0 := by have z := g5_eqN (a := z310.toInt) (b := (-1)) (by rfl) (by decide) c_328; omega
                                  refine lv_iload hx hb dX12_sooner_163 (lv_at hl 0 rfl) ?_
                                  refine lv_iload hx hb dX12_sooner_165 (lv_at hl 1 rfl) ?_
                                  refine lv_icmp_ge (tgt := 181) hx hb dX12_sooner_167 (by decide) (fun c_331 => ?_) (fun c_331 => ?_)
                                  ·
                                    have i_331 : z310.toInt ≥ k114_6.toInt := by have z := g5_ge (a := z310.toInt) (b := k114_6.toInt) (by rfl) (by rfl) c_331; omega
                                    refine lv_iload hx hb dX12_sooner_181 (lv_at hl 2 rfl) ?_
                                    refine lv_istore (lv' := [(7, .int k114_7), (11, .int z310), (6, .int k114_6), (10, .int k114_10), (9, .int z276), (8, .int k91_8), (5, .int z237), (0, .ref b_o), (1, .int p_1), (2, .int p_2), (3, .int p_3), (4, .int p_4)]) hx hb dX12_sooner_183 hl (by decide) rfl (fun ls hl => ?_)
                                    refine lv_iload hx hb dX12_sooner_185 (lv_at hl 1 rfl) ?_
                                    refine lv_iconst (v := (-1)) hx hb dX12_sooner_187 (by decide) ?_
                                    refine lv_icmp_eq (tgt := 203) hx hb dX12_sooner_188 (by decide) (fun c_332 => ?_) (fun c_332 => ?_)
                                    ·
                                      have i_332 : z310.toInt = (-1) := by have z := g5_eq (a := z310.toInt) (b := (-1)) (by rfl) (by decide) c_332; omega
                                      omega
                                    ·
                                      have n_332 : gNe (z310.toInt) ((-1)) := by have z := g5_eqN (a := z310.toInt) (b := (-1)) (by rfl) (by decide) c_332; unfold gNe; omega
                                      refine lv_iload hx hb dX12_sooner_191 (lv_at hl 1 rfl) ?_
                                      refine lv_iload hx hb dX12_sooner_193 (lv_at hl 2 rfl) ?_
                                      refine lv_icmp_ge (tgt := 203) hx hb dX12_sooner_195 (by decide) (fun c_333 => ?_) (fun c_333 => ?_)
                                      ·
                                        have i_333 : z310.toInt ≥ k114_6.toInt := by have z := g5_ge (a := z310.toInt) (b := k114_6.toInt) (by rfl) (by rfl) c_333; omega
                                        refine lv_iload hx hb dX12_sooner_203 (lv_at hl 2 rfl) ?_
                                        refine lv_istore (lv' := [(6, .int k114_6), (7, .int k114_7), (11, .int z310), (10, .int k114_10), (9, .int z276), (8, .int k91_8), (5, .int z237), (0, .ref b_o), (1, .int p_1), (2, .int p_2), (3, .int p_3), (4, .int p_4)]) hx hb dX12_sooner_205 hl (by decide) rfl (fun ls hl => ?_)
                                        refine lv_iinc (v := (k114_10 + 1)) (lv' := [(10, .int (k114_10 + 1)), (6, .int k114_6), (7, .int k114_7), (11, .int z310), (9, .int z276), (8, .int k91_8), (5, .int z237), (0, .ref b_o), (1, .int p_1), (2, .int p_2), (3, .int p_3), (4, .int p_4)]) hx hb dX12_sooner_207 hl (k := 3) rfl rfl (by decide) rfl (fun ls hl => ?_)
                                        have t_334 : (k114_10 + 1).toInt = k114_10.toInt + 1 := g5_iadd (a := k114_10.toInt) (b := 1) rfl (by decide) (by omega) (by omega)
                                        refine lv_goto (tgt := 114) hx hb dX12_sooner_210 (by decide) ?_
                                        exact ih_114_290 ((k114_10 + 1), k114_6, k114_7, z311, z312, z313, z314, z315, z316, z317, z318, z319, z320, z321, (upd k114_ro ((80 + (5 * k91_8)) + 1).toNatClampNeg k114_10), z322, z323, z324, z325, z326) ls H locs (show Int.toNat (6 - (k114_10 + 1).toInt) < Int.toNat (6 - k114_10.toInt) from g_up (show k114_10.toInt < (k114_10 + 1).toInt by omega) (show k114_10.toInt < 6 by omega)) ⟨lv_sub hl [1, 2, 0, 4, 5, 6, 7, 8, 9, 10, 11] rfl, hP.sub [2, 3, 4, 5, 6, 0, 1] rfl, hD.sub [2, 3, 4, 5, 6, 0, 1] (by decide) rfl, hS, ⟨by omega, by omega⟩, i_279, i_302, i_303, i_304, i_305, i_306, i_307, i_308, hmi_299, i_309, fun j hj => by rw [upd_ne (by rw [show ((80 + (5 * k91_8)) + 1).toNatClampNeg = (81 + 5 * k91_8.toInt.toNat) by have zz := g5_clamp ((80 + (5 * k91_8)) + 1); omega]; exact hj)]; exact i_289 j hj⟩
                                      ·
                                        have i_333 : z310.toInt < k114_6.toInt := by have z := g5_geN (a := z310.toInt) (b := k114_6.toInt) (by rfl) (by rfl) c_333; omega
                                        refine lv_iload hx hb dX12_sooner_198 (lv_at hl 1 rfl) ?_
                                        refine lv_goto (tgt := 205) hx hb dX12_sooner_200 (by decide) ?_
                                        refine lv_istore (lv' := [(6, .int z310), (7, .int k114_7), (11, .int z310), (10, .int k114_10), (9, .int z276), (8, .int k91_8), (5, .int z237), (0, .ref b_o), (1, .int p_1), (2, .int p_2), (3, .int p_3), (4, .int p_4)]) hx hb dX12_sooner_205 hl (by decide) rfl (fun ls hl => ?_)
                                        refine lv_iinc (v := (k114_10 + 1)) (lv' := [(10, .int (k114_10 + 1)), (6, .int z310), (7, .int k114_7), (11, .int z310), (9, .int z276), (8, .int k91_8), (5, .int z237), (0, .ref b_o), (1, .int p_1), (2, .int p_2), (3, .int p_3), (4, .int p_4)]) hx hb dX12_sooner_207 hl (k := 3) rfl rfl (by decide) rfl (fun ls hl => ?_)
                                        have t_335 : (k114_10 + 1).toInt = k114_10.toInt + 1 := g5_iadd (a := k114_10.toInt) (b := 1) rfl (by decide) (by omega) (by omega)
                                        refine lv_goto (tgt := 114) hx hb dX12_sooner_210 (by decide) ?_
                                        exact ih_114_290 ((k114_10 + 1), z310, k114_7, z311, z312, z313, z314, z315, z316, z317, z318, z319, z320, z321, (upd k114_ro ((80 + (5 * k91_8)) + 1).toNatClampNeg k114_10), z322, z323, z324, z325, z326) ls H locs (show Int.toNat (6 - (k114_10 + 1).toInt) < Int.toNat (6 - k114_10.toInt) from g_up (show k114_10.toInt < (k114_10 + 1).toInt by omega) (show k114_10.toInt < 6 by omega)) ⟨lv_sub hl [1, 2, 0, 4, 5, 6, 7, 8, 9, 10, 11] rfl, hP.sub [2, 3, 4, 5, 6, 0, 1] rfl, hD.sub [2, 3, 4, 5, 6, 0, 1] (by decide) rfl, hS, ⟨by omega, by omega⟩, ⟨by omega, by omega⟩, i_302, i_303, i_304, i_305, i_306, i_307, i_308, hmi_299, i_309, fun j hj => by rw [upd_ne (by rw [show ((80 + (5 * k91_8)) + 1).toNatClampNeg = (81 + 5 * k91_8.toInt.toNat) by have zz := g5_clamp ((80 + (5 * k91_8)) + 1); omega]; exact hj)]; exact i_289 j hj⟩
                                  ·
                                    have i_331 : z310.toInt < k114_6.toInt := by have z := g5_geN (a := z310.toInt) (b := k114_6.toInt) (by rfl) (by rfl) c_331; omega
                                    refine lv_bipush (v := 6) hx hb dX12_sooner_170 (by decide) ?_
                                    refine lv_iload hx hb dX12_sooner_172 (lv_at hl 5 rfl) ?_
                                    refine lv_imul hx hb dX12_sooner_174 ?_
                                    have t_336 : (6 * k91_8).toInt = 6 * k91_8.toInt := g5_imul (a := 6) (b := k91_8.toInt) (by decide) (by rfl) (by omega) (by omega)
                                    refine lv_iload hx hb dX12_sooner_175 (lv_at hl 3 rfl) ?_
                                    refine lv_iadd hx hb dX12_sooner_177 ?_
                                    have t_337 : ((6 * k91_8) + k114_10).toInt = (6 * k91_8).toInt + k114_10.toInt := g5_iadd (a := (6 * k91_8).toInt) (b := k114_10.toInt) (by rfl) (by rfl) (by omega) (by omega)
                                    refine lv_goto (tgt := 183) hx hb dX12_sooner_178 (by decide) ?_
                                    refine lv_istore (lv' := [(7, .int ((6 * k91_8) + k114_10)), (11, .int z310), (6, .int k114_6), (10, .int k114_10), (9, .int z276), (8, .int k91_8), (5, .int z237), (0, .ref b_o), (1, .int p_1), (2, .int p_2), (3, .int p_3), (4, .int p_4)]) hx hb dX12_sooner_183 hl (by decide) rfl (fun ls hl => ?_)
                                    refine lv_iload hx hb dX12_sooner_185 (lv_at hl 1 rfl) ?_
                                    refine lv_iconst (v := (-1)) hx hb dX12_sooner_187 (by decide) ?_
                                    refine lv_icmp_eq (tgt := 203) hx hb dX12_sooner_188 (by decide) (fun c_338 => ?_) (fun c_338 => ?_)
                                    ·
                                      have i_338 : z310.toInt = (-1) := by have z := g5_eq (a := z310.toInt) (b := (-1)) (by rfl) (by decide) c_338; omega
                                      omega
                                    ·
                                      have n_338 : gNe (z310.toInt) ((-1)) := by have z := g5_eqN (a := z310.toInt) (b := (-1)) (by rfl) (by decide) c_338; unfold gNe; omega
                                      refine lv_iload hx hb dX12_sooner_191 (lv_at hl 1 rfl) ?_
                                      refine lv_iload hx hb dX12_sooner_193 (lv_at hl 2 rfl) ?_
                                      refine lv_icmp_ge (tgt := 203) hx hb dX12_sooner_195 (by decide) (fun c_339 => ?_) (fun c_339 => ?_)
                                      ·
                                        have i_339 : z310.toInt ≥ k114_6.toInt := by have z := g5_ge (a := z310.toInt) (b := k114_6.toInt) (by rfl) (by rfl) c_339; omega
                                        refine lv_iload hx hb dX12_sooner_203 (lv_at hl 2 rfl) ?_
                                        refine lv_istore (lv' := [(6, .int k114_6), (7, .int ((6 * k91_8) + k114_10)), (11, .int z310), (10, .int k114_10), (9, .int z276), (8, .int k91_8), (5, .int z237), (0, .ref b_o), (1, .int p_1), (2, .int p_2), (3, .int p_3), (4, .int p_4)]) hx hb dX12_sooner_205 hl (by decide) rfl (fun ls hl => ?_)
                                        refine lv_iinc (v := (k114_10 + 1)) (lv' := [(10, .int (k114_10 + 1)), (6, .int k114_6), (7, .int ((6 * k91_8) + k114_10)), (11, .int z310), (9, .int z276), (8, .int k91_8), (5, .int z237), (0, .ref b_o), (1, .int p_1), (2, .int p_2), (3, .int p_3), (4, .int p_4)]) hx hb dX12_sooner_207 hl (k := 3) rfl rfl (by decide) rfl (fun ls hl => ?_)
                                        have t_340 : (k114_10 + 1).toInt = k114_10.toInt + 1 := g5_iadd (a := k114_10.toInt) (b := 1) rfl (by decide) (by omega) (by omega)
                                        refine lv_goto (tgt := 114) hx hb dX12_sooner_210 (by decide) ?_
                                        exact ih_114_290 ((k114_10 + 1), k114_6, ((6 * k91_8) + k114_10), z311, z312, z313, z314, z315, z316, z317, z318, z319, z320, z321, (upd k114_ro ((80 + (5 * k91_8)) + 1).toNatClampNeg k114_10), z322, z323, z324, z325, z326) ls H locs (show Int.toNat (6 - (k114_10 + 1).toInt) < Int.toNat (6 - k114_10.toInt) from g_up (show k114_10.toInt < (k114_10 + 1).toInt by omega) (show k114_10.toInt < 6 by omega)) ⟨lv_sub hl [1, 2, 0, 4, 5, 6, 7, 8, 9, 10, 11] rfl, hP.sub [2, 3, 4, 5, 6, 0, 1] rfl, hD.sub [2, 3, 4, 5, 6, 0, 1] (by decide) rfl, hS, ⟨by omega, by omega⟩, i_279, i_302, i_303, i_304, i_305, i_306, i_307, i_308, hmi_299, i_309, fun j hj => by rw [upd_ne (by rw [show ((80 + (5 * k91_8)) + 1).toNatClampNeg = (81 + 5 * k91_8.toInt.toNat) by have zz := g5_clamp ((80 + (5 * k91_8)) + 1); omega]; exact hj)]; exact i_289 j hj⟩
                                      ·
                                        have i_339 : z310.toInt < k114_6.toInt := by have z := g5_geN (a := z310.toInt) (b := k114_6.toInt) (by rfl) (by rfl) c_339; omega
                                        refine lv_iload hx hb dX12_sooner_198 (lv_at hl 1 rfl) ?_
                                        refine lv_goto (tgt := 205) hx hb dX12_sooner_200 (by decide) ?_
                                        refine lv_istore (lv' := [(6, .int z310), (7, .int ((6 * k91_8) + k114_10)), (11, .int z310), (10, .int k114_10), (9, .int z276), (8, .int k91_8), (5, .int z237), (0, .ref b_o), (1, .int p_1), (2, .int p_2), (3, .int p_3), (4, .int p_4)]) hx hb dX12_sooner_205 hl (by decide) rfl (fun ls hl => ?_)
                                        refine lv_iinc (v := (k114_10 + 1)) (lv' := [(10, .int (k114_10 + 1)), (6, .int z310), (7, .int ((6 * k91_8) + k114_10)), (11, .int z310), (9, .int z276), (8, .int k91_8), (5, .int z237), (0, .ref b_o), (1, .int p_1), (2, .int p_2), (3, .int p_3), (4, .int p_4)]) hx hb dX12_sooner_207 hl (k := 3) rfl rfl (by decide) rfl (fun ls hl => ?_)
                                        have t_341 : (k114_10 + 1).toInt = k114_10.toInt + 1 := g5_iadd (a := k114_10.toInt) (b := 1) rfl (by decide) (by omega) (by omega)
                                        refine lv_goto (tgt := 114) hx hb dX12_sooner_210 (by decide) ?_
                                        exact ih_114_290 ((k114_10 + 1), z310, ((6 * k91_8) + k114_10), z311, z312, z313, z314, z315, z316, z317, z318, z319, z320, z321, (upd k114_ro ((80 + (5 * k91_8)) + 1).toNatClampNeg k114_10), z322, z323, z324, z325, z326) ls H locs (show Int.toNat (6 - (k114_10 + 1).toInt) < Int.toNat (6 - k114_10.toInt) from g_up (show k114_10.toInt < (k114_10 + 1).toInt by omega) (show k114_10.toInt < 6 by omega)) ⟨lv_sub hl [1, 2, 0, 4, 5, 6, 7, 8, 9, 10, 11] rfl, hP.sub [2, 3, 4, 5, 6, 0, 1] rfl, hD.sub [2, 3, 4, 5, 6, 0, 1] (by decide) rfl, hS, ⟨by omega, by omega⟩, ⟨by omega, by omega⟩, i_302, i_303, i_304, i_305, i_306, i_307, i_308, hmi_299, i_309, fun j hj => by rw [upd_ne (by rw [show ((80 + (5 * k91_8)) + 1).toNatClampNeg = (81 + 5 * k91_8.toInt.toNat) by have zz := g5_clamp ((80 + (5 * k91_8)) + 1); omega]; exact hj)]; exact i_289 j hj⟩
                              ·
                                have i_300 : k114_10.toInt = z276.toInt := by have z := g5_neN (a := k114_10.toInt) (b := z276.toInt) (by rfl) (by rfl) c_300; omega
                                refine lv_iconst (v := (-1)) hx hb dX12_sooner_144 (by decide) ?_
                                refine lv_goto (tgt := 155) hx hb dX12_sooner_145 (by decide) ?_
                                refine lv_istore (lv' := [(11, .int (-1)), (6, .int k114_6), (7, .int k114_7), (10, .int k114_10), (9, .int z276), (8, .int k91_8), (5, .int z237), (0, .ref b_o), (1, .int p_1), (2, .int p_2), (3, .int p_3), (4, .int p_4)]) hx hb dX12_sooner_155 hl (by decide) rfl (fun ls hl => ?_)
                                refine lv_iload hx hb dX12_sooner_157 (lv_at hl 0 rfl) ?_
                                refine lv_iconst (v := (-1)) hx hb dX12_sooner_159 (by decide) ?_
                                refine lv_icmp_eq (tgt := 181) hx hb dX12_sooner_160 (by decide) (fun c_342 => ?_) (fun c_342 => ?_)
                                ·
                                  refine lv_iload hx hb dX12_sooner_181 (lv_at hl 2 rfl) ?_
                                  refine lv_istore (lv' := [(7, .int k114_7), (11, .int (-1)), (6, .int k114_6), (10, .int k114_10), (9, .int z276), (8, .int k91_8), (5, .int z237), (0, .ref b_o), (1, .int p_1), (2, .int p_2), (3, .int p_3), (4, .int p_4)]) hx hb dX12_sooner_183 hl (by decide) rfl (fun ls hl => ?_)
                                  refine lv_iload hx hb dX12_sooner_185 (lv_at hl 1 rfl) ?_
                                  refine lv_iconst (v := (-1)) hx hb dX12_sooner_187 (by decide) ?_
                                  refine lv_icmp_eq (tgt := 203) hx hb dX12_sooner_188 (by decide) (fun c_343 => ?_) (fun c_343 => ?_)
                                  ·
                                    refine lv_iload hx hb dX12_sooner_203 (lv_at hl 2 rfl) ?_
                                    refine lv_istore (lv' := [(6, .int k114_6), (7, .int k114_7), (11, .int (-1)), (10, .int k114_10), (9, .int z276), (8, .int k91_8), (5, .int z237), (0, .ref b_o), (1, .int p_1), (2, .int p_2), (3, .int p_3), (4, .int p_4)]) hx hb dX12_sooner_205 hl (by decide) rfl (fun ls hl => ?_)
                                    refine lv_iinc (v := (k114_10 + 1)) (lv' := [(10, .int (k114_10 + 1)), (6, .int k114_6), (7, .int k114_7), (11, .int (-1)), (9, .int z276), (8, .int k91_8), (5, .int z237), (0, .ref b_o), (1, .int p_1), (2, .int p_2), (3, .int p_3), (4, .int p_4)]) hx hb dX12_sooner_207 hl (k := 3) rfl rfl (by decide) rfl (fun ls hl => ?_)
                                    have t_344 : (k114_10 + 1).toInt = k114_10.toInt + 1 := g5_iadd (a := k114_10.toInt) (b := 1) rfl (by decide) (by omega) (by omega)
                                    refine lv_goto (tgt := 114) hx hb dX12_sooner_210 (by decide) ?_
                                    exact ih_114_290 ((k114_10 + 1), k114_6, k114_7, k114_la, k114_bk, k114_va, k114_su, k114_ce, k114_ho, k114_wy, k114_bt, k114_ps, k114_tg, k114_sn, (upd k114_ro ((80 + (5 * k91_8)) + 1).toNatClampNeg k114_10), k114_se, k114_re, k114_pt, k114_tr, k114_ld) ls H locs (show Int.toNat (6 - (k114_10 + 1).toInt) < Int.toNat (6 - k114_10.toInt) from g_up (show k114_10.toInt < (k114_10 + 1).toInt by omega) (show k114_10.toInt < 6 by omega)) ⟨lv_sub hl [1, 2, 0, 4, 5, 6, 7, 8, 9, 10, 11] rfl, hP, hD, hS, ⟨by omega, by omega⟩, i_279, i_280, i_281, i_282, i_283, i_284, i_285, i_286, hmi_299, i_288, fun j hj => by rw [upd_ne (by rw [show ((80 + (5 * k91_8)) + 1).toNatClampNeg = (81 + 5 * k91_8.toInt.toNat) by have zz := g5_clamp ((80 + (5 * k91_8)) + 1); omega]; exact hj)]; exact i_289 j hj⟩
                                  ·
                                    exact absurd c_343 (by decide)
                                ·
                                  exact absurd c_342 (by decide)
                        ·
                          have i_255 : z237.toInt = (-1) := by have z := g5_neN (a := z237.toInt) (b := (-1)) (by rfl) (by decide) c_255; omega
                          refine lv_bipush (v := 24) hx hb dX12_sooner_76 (by decide) ?_
                          refine lv_goto (tgt := 83) hx hb dX12_sooner_78 (by decide) ?_
                          refine lv_istore (lv' := [(6, .int 24), (5, .int z237), (0, .ref b_o), (1, .int p_1), (2, .int p_2), (3, .int p_3), (4, .int p_4)]) hx hb dX12_sooner_83 hl (by decide) rfl (fun ls hl => ?_)
                          refine lv_iconst (v := (-1)) hx hb dX12_sooner_85 (by decide) ?_
                          refine lv_istore (lv' := [(7, .int (-1)), (6, .int 24), (5, .int z237), (0, .ref b_o), (1, .int p_1), (2, .int p_2), (3, .int p_3), (4, .int p_4)]) hx hb dX12_sooner_86 hl (by decide) rfl (fun ls hl => ?_)
                          refine lv_iconst (v := 0) hx hb dX12_sooner_88 (by decide) ?_
                          refine lv_istore (lv' := [(8, .int 0), (7, .int (-1)), (6, .int 24), (5, .int z237), (0, .ref b_o), (1, .int p_1), (2, .int p_2), (3, .int p_3), (4, .int p_4)]) hx hb dX12_sooner_89 hl (by decide) rfl (fun ls hl => ?_)
                          refine g5_loop (α := (Int32) × (Int32) × (Int32) × (Int32) × (Int32) × (Int64) × (Int64) × (Int32) × (Int32) × (Int32) × (Int32) × (Int32) × (Int32) × (Int32) × (Nat → Int32) × (Nat → Int64) × (Nat → Int64) × (Nat → Int32) × (Nat → Int32) × (Nat → Int32)) (fun (q : (Int32) × (Int32) × (Int32) × (Int32) × (Int32) × (Int64) × (Int64) × (Int32) × (Int32) × (Int32) × (Int32) × (Int32) × (Int32) × (Int32) × (Nat → Int32) × (Nat → Int64) × (Nat → Int64) × (Nat → Int32) × (Nat → Int32) × (Nat → Int32)) (ls : Array Slot) (H : Heap) (locs : List Loc) => match q with | (k91_8, k91_7, k91_6, k91_la, k91_bk, k91_va, k91_su, k91_ce, k91_ho, k91_wy, k91_bt, k91_ps, k91_tg, k91_sn, k91_ro, k91_se, k91_re, k91_pt, k91_tr, k91_ld) => lv_has ls 12 [(6, .int k91_6), (7, .int k91_7), (8, .int k91_8), (5, .int z237), (0, .ref b_o), (1, .int p_1), (2, .int p_2), (3, .int p_3), (4, .int p_4)] ∧ va_P G.1 vwCl [(b_o, (oc12 0 u_sa b_rf b_ro b_im b_ke u_fd b_tp u_td u_fr u_to u_so u_wo u_fa u_bd u_nc b_nl u_co b_op b_ar u_le b_pi b_pa u_pd u_od b_ws b_hw k91_la b_se b_re k91_bk k91_va k91_su k91_ce k91_ho k91_wy k91_bt k91_ps b_pt k91_tg k91_sn b_ip u_ic b_ah b_be b_me u_wd b_tr b_ld u_st b_wn u_id)), (b_ro, (arI G 5740 k91_ro)), (b_se, (arJ G 13 k91_se)), (b_re, (arJ G 400 k91_re)), (b_pt, (arI G 200 k91_pt)), (b_tr, (arZ G 1536 k91_tr)), (b_ld, (arZ G 1536 k91_ld))] H ∧ va_D A [(b_o, (oc12 0 u_sa b_rf b_ro b_im b_ke u_fd b_tp u_td u_fr u_to u_so u_wo u_fa u_bd u_nc b_nl u_co b_op b_ar u_le b_pi b_pa u_pd u_od b_ws b_hw k91_la b_se b_re k91_bk k91_va k91_su k91_ce k91_ho k91_wy k91_bt k91_ps b_pt k91_tg k91_sn b_ip u_ic b_ah b_be b_me u_wd b_tr b_ld u_st b_wn u_id)), (b_ro, (arI G 5740 k91_ro)), (b_se, (arJ G 13 k91_se)), (b_re, (arJ G 400 k91_re)), (b_pt, (arI G 200 k91_pt)), (b_tr, (arZ G 1536 k91_tr)), (b_ld, (arZ G 1536 k91_ld))] ∧ va_S A s.heap H locs ∧ (0 ≤ k91_8.toInt ∧ k91_8.toInt ≤ 6) ∧ (0 ≤ k91_6.toInt ∧ k91_6.toInt ≤ 24) ∧ (0 ≤ k91_la.toInt ∧ k91_la.toInt ≤ 4840) ∧ (0 ≤ k91_bk.toInt ∧ k91_bk.toInt ≤ 1) ∧ (0 ≤ k91_ce.toInt ∧ k91_ce.toInt ≤ 63) ∧ (0 ≤ k91_ho.toInt ∧ k91_ho.toInt ≤ 23) ∧ (0 ≤ k91_wy.toInt ∧ k91_wy.toInt ≤ 3) ∧ (0 ≤ k91_bt.toInt ∧ k91_bt.toInt ≤ 1000000) ∧ (0 ≤ k91_ps.toInt ∧ k91_ps.toInt ≤ 200) ∧ (MI k91_ro) ∧ (PTI k91_pt) ∧ (k91_ro = v_ro)) (fun (q : (Int32) × (Int32) × (Int32) × (Int32) × (Int32) × (Int64) × (Int64) × (Int32) × (Int32) × (Int32) × (Int32) × (Int32) × (Int32) × (Int32) × (Nat → Int32) × (Nat → Int64) × (Nat → Int64) × (Nat → Int32) × (Nat → Int32) × (Nat → Int32)) => match q with | (k91_8, k91_7, k91_6, k91_la, k91_bk, k91_va, k91_su, k91_ce, k91_ho, k91_wy, k91_bt, k91_ps, k91_tg, k91_sn, k91_ro, k91_se, k91_re, k91_pt, k91_tr, k91_ld) => Int.toNat (6 - k91_8.toInt)) (0, (-1), 24, z238, z239, z240, z241, z242, z243, z244, z245, z246, z247, z248, v_ro, z249, z250, z251, z252, z253) ⟨lv_sub hl [2, 1, 0, 3, 4, 5, 6, 7, 8] rfl, hP, hD, hS, ⟨by decide, by decide⟩, ⟨by decide, by decide⟩, i_229, i_230, i_231, i_232, i_233, i_234, i_235, r_ro, i_236, rfl⟩ ?_
                          rintro ⟨k91_8, k91_7, k91_6, k91_la, k91_bk, k91_va, k91_su, k91_ce, k91_ho, k91_wy, k91_bt, k91_ps, k91_tg, k91_sn, k91_ro, k91_se, k91_re, k91_pt, k91_tr, k91_ld⟩ ls H locs ⟨hl, hP, hD, hS, i_345, i_346, i_347, i_348, i_349, i_350, i_351, i_352, i_353, i_354, i_355, i_356⟩ ih_91_357
                          have hl : lv_has ls 12 [(6, .int k91_6), (7, .int k91_7), (8, .int k91_8), (5, .int z237), (0, .ref b_o), (1, .int p_1), (2, .int p_2), (3, .int p_3), (4, .int p_4)] := hl
                          have i_345 : 0 ≤ k91_8.toInt ∧ k91_8.toInt ≤ 6 := i_345
                          have i_346 : 0 ≤ k91_6.toInt ∧ k91_6.toInt ≤ 24 := i_346
                          have i_347 : 0 ≤ k91_la.toInt ∧ k91_la.toInt ≤ 4840 := i_347
                          have i_348 : 0 ≤ k91_bk.toInt ∧ k91_bk.toInt ≤ 1 := i_348
                          have i_349 : 0 ≤ k91_ce.toInt ∧ k91_ce.toInt ≤ 63 := i_349
                          have i_350 : 0 ≤ k91_ho.toInt ∧ k91_ho.toInt ≤ 23 := i_350
                          have i_351 : 0 ≤ k91_wy.toInt ∧ k91_wy.toInt ≤ 3 := i_351
                          have i_352 : 0 ≤ k91_bt.toInt ∧ k91_bt.toInt ≤ 1000000 := i_352
                          have i_353 : 0 ≤ k91_ps.toInt ∧ k91_ps.toInt ≤ 200 := i_353
                          have i_354 : MI k91_ro := i_354
                          have i_355 : PTI k91_pt := i_355
                          have i_356 : k91_ro = v_ro := i_356
                          refine g5_rs [(b_o, (oc12 0 u_sa b_rf b_ro b_im b_ke u_fd b_tp u_td u_fr u_to u_so u_wo u_fa u_bd u_nc b_nl u_co b_op b_ar u_le b_pi b_pa u_pd u_od b_ws b_hw k91_la b_se b_re k91_bk k91_va k91_su k91_ce k91_ho k91_wy k91_bt k91_ps b_pt k91_tg k91_sn b_ip u_ic b_ah b_be b_me u_wd b_tr b_ld u_st b_wn u_id)), (b_ro, (arI G 5740 k91_ro)), (b_se, (arJ G 13 k91_se)), (b_re, (arJ G 400 k91_re)), (b_pt, (arI G 200 k91_pt)), (b_tr, (arZ G 1536 k91_tr)), (b_ld, (arZ G 1536 k91_ld))] hP hD (fun hP hD => ?_)
                          refine lv_iload hx hb dX12_sooner_91 (lv_at hl 2 rfl) ?_
                          refine lv_aload_n hx hb dX12_sooner_93 rfl (lv_at hl 4 rfl) ?_
                          refine va_get (D := G.1) (ci := 12) (v := .ref b_ro) (C := RX12) (T := TX12) (N := 52) hx hb hts inG_X12 hown hK hP 0 rfl rfl 3 (by decide) (hts _ fl_X12_13) (fun _ h9 => h9) rfl dX12_sooner_94 ?_
                          refine lv_iconst (v := 0) hx hb dX12_sooner_97 (by decide) ?_
                          refine va_iald hx hb hK hP 1 0 rfl rfl (i := 0) (by unfold vp_in; decide) dX12_sooner_98 ?_
                          refine g5_ti (v := (k91_ro 0)) rfl ?_
                          have hr_358 : 0 ≤ (k91_ro 0).toInt ∧ (k91_ro 0).toInt ≤ 6 := mi_0 i_354
                          refine lv_icmp_ge (tgt := 235) hx hb dX12_sooner_99 (by decide) (fun c_359 => ?_) (fun c_359 => ?_)
                          ·
                            have i_359 : k91_8.toInt ≥ (k91_ro 0).toInt := by have z := g5_ge (a := k91_8.toInt) (b := (k91_ro 0).toInt) (by rfl) (by rfl) c_359; omega
                            refine lv_iload hx hb dX12_sooner_235 (lv_at hl 1 rfl) ?_
                            refine lv_iconst (v := (-1)) hx hb dX12_sooner_237 (by decide) ?_
                            refine lv_icmp_ne (tgt := 245) hx hb dX12_sooner_238 (by decide) (fun c_360 => ?_) (fun c_360 => ?_)
                            ·
                              have n_360 : gNe (k91_7.toInt) ((-1)) := by have z := g5_ne (a := k91_7.toInt) (b := (-1)) (by rfl) (by decide) c_360; unfold gNe; omega
                              refine lv_iload hx hb dX12_sooner_245 (lv_at hl 8 rfl) ?_
                              refine lv_if_ne (tgt := 255) hx hb dX12_sooner_247 (by decide) (fun c_361 => ?_) (fun c_361 => ?_)
                              ·
                                have n_361 : gNe (p_4.toInt) (0) := by have z := g5_ne (a := p_4.toInt) (b := 0) (by rfl) (by decide) c_361; unfold gNe; omega
                                have i_361 : p_4.toInt ≥ 1 := by have z := g5_ne (a := p_4.toInt) (b := 0) (by rfl) (by decide) c_361; omega
                                refine lv_iload hx hb dX12_sooner_255 (lv_at hl 8 rfl) ?_
                                refine lv_iconst (v := 1) hx hb dX12_sooner_257 (by decide) ?_
                                refine lv_icmp_ne (tgt := 269) hx hb dX12_sooner_258 (by decide) (fun c_362 => ?_) (fun c_362 => ?_)
                                ·
                                  have n_362 : gNe (p_4.toInt) (1) := by have z := g5_ne (a := p_4.toInt) (b := 1) (by rfl) (by decide) c_362; unfold gNe; omega
                                  have i_362 : p_4.toInt ≥ 2 := by have z := g5_ne (a := p_4.toInt) (b := 1) (by rfl) (by decide) c_362; omega
                                  refine lv_iload hx hb dX12_sooner_269 (lv_at hl 1 rfl) ?_
                                  refine lv_bipush (v := 6) hx hb dX12_sooner_271 (by decide) ?_
                                  refine lv_irem hx hb dX12_sooner_273 (by decide) ?_
                                  exact W.iret (v := (k91_7 - k91_7 / 6 * 6)) hx hb hr (fun t ht hW => ⟨⟨(k91_7 - k91_7 / 6 * 6), [(b_o, (oc12 0 u_sa b_rf b_ro b_im b_ke u_fd b_tp u_td u_fr u_to u_so u_wo u_fa u_bd u_nc b_nl u_co b_op b_ar u_le b_pi b_pa u_pd u_od b_ws b_hw k91_la b_se b_re k91_bk k91_va k91_su k91_ce k91_ho k91_wy k91_bt k91_ps b_pt k91_tg k91_sn b_ip u_ic b_ah b_be b_me u_wd b_tr b_ld u_st b_wn u_id)), (b_ro, (arI G 5740 k91_ro)), (b_se, (arJ G 13 k91_se)), (b_re, (arJ G 400 k91_re)), (b_pt, (arI G 200 k91_pt)), (b_tr, (arZ G 1536 k91_tr)), (b_ld, (arZ G 1536 k91_ld))], rfl, ⟨(k91_7 - k91_7 / 6 * 6), 0, k91_la, k91_bk, k91_va, k91_su, k91_ce, k91_ho, k91_wy, k91_bt, k91_ps, k91_tg, k91_sn, k91_ro, k91_se, k91_re, k91_pt, k91_tr, k91_ld, i_354, i_347, i_348, i_349, i_350, i_351, i_352, i_353, i_355, i_356, rfl, rfl⟩, by rw [ht]; exact hP.sub [0, 1, 2, 3, 4, 5, 6] rfl, hD.sub [0, 1, 2, 3, 4, 5, 6] (by decide) rfl⟩, hS.F ht⟩) hS.2.2 dX12_sooner_274
                                ·
                                  have i_362 : p_4.toInt = 1 := by have z := g5_neN (a := p_4.toInt) (b := 1) (by rfl) (by decide) c_362; omega
                                  refine lv_iload hx hb dX12_sooner_261 (lv_at hl 1 rfl) ?_
                                  refine lv_bipush (v := 6) hx hb dX12_sooner_263 (by decide) ?_
                                  refine lv_idiv hx hb dX12_sooner_265 (by decide) ?_
                                  refine lv_goto (tgt := 274) hx hb dX12_sooner_266 (by decide) ?_
                                  exact W.iret (v := (k91_7 / 6)) hx hb hr (fun t ht hW => ⟨⟨(k91_7 / 6), [(b_o, (oc12 0 u_sa b_rf b_ro b_im b_ke u_fd b_tp u_td u_fr u_to u_so u_wo u_fa u_bd u_nc b_nl u_co b_op b_ar u_le b_pi b_pa u_pd u_od b_ws b_hw k91_la b_se b_re k91_bk k91_va k91_su k91_ce k91_ho k91_wy k91_bt k91_ps b_pt k91_tg k91_sn b_ip u_ic b_ah b_be b_me u_wd b_tr b_ld u_st b_wn u_id)), (b_ro, (arI G 5740 k91_ro)), (b_se, (arJ G 13 k91_se)), (b_re, (arJ G 400 k91_re)), (b_pt, (arI G 200 k91_pt)), (b_tr, (arZ G 1536 k91_tr)), (b_ld, (arZ G 1536 k91_ld))], rfl, ⟨(k91_7 / 6), 0, k91_la, k91_bk, k91_va, k91_su, k91_ce, k91_ho, k91_wy, k91_bt, k91_ps, k91_tg, k91_sn, k91_ro, k91_se, k91_re, k91_pt, k91_tr, k91_ld, i_354, i_347, i_348, i_349, i_350, i_351, i_352, i_353, i_355, i_356, rfl, rfl⟩, by rw [ht]; exact hP.sub [0, 1, 2, 3, 4, 5, 6] rfl, hD.sub [0, 1, 2, 3, 4, 5, 6] (by decide) rfl⟩, hS.F ht⟩) hS.2.2 dX12_sooner_274
                              ·
                                have i_361 : p_4.toInt = 0 := by have z := g5_neN (a := p_4.toInt) (b := 0) (by rfl) (by decide) c_361; omega
                                refine lv_iload hx hb dX12_sooner_250 (lv_at hl 0 rfl) ?_
                                refine lv_goto (tgt := 274) hx hb dX12_sooner_252 (by decide) ?_
                                exact W.iret (v := k91_6) hx hb hr (fun t ht hW => ⟨⟨k91_6, [(b_o, (oc12 0 u_sa b_rf b_ro b_im b_ke u_fd b_tp u_td u_fr u_to u_so u_wo u_fa u_bd u_nc b_nl u_co b_op b_ar u_le b_pi b_pa u_pd u_od b_ws b_hw k91_la b_se b_re k91_bk k91_va k91_su k91_ce k91_ho k91_wy k91_bt k91_ps b_pt k91_tg k91_sn b_ip u_ic b_ah b_be b_me u_wd b_tr b_ld u_st b_wn u_id)), (b_ro, (arI G 5740 k91_ro)), (b_se, (arJ G 13 k91_se)), (b_re, (arJ G 400 k91_re)), (b_pt, (arI G 200 k91_pt)), (b_tr, (arZ G 1536 k91_tr)), (b_ld, (arZ G 1536 k91_ld))], rfl, ⟨k91_6, 0, k91_la, k91_bk, k91_va, k91_su, k91_ce, k91_ho, k91_wy, k91_bt, k91_ps, k91_tg, k91_sn, k91_ro, k91_se, k91_re, k91_pt, k91_tr, k91_ld, i_354, i_347, i_348, i_349, i_350, i_351, i_352, i_353, i_355, i_356, rfl, rfl⟩, by rw [ht]; exact hP.sub [0, 1, 2, 3, 4, 5, 6] rfl, hD.sub [0, 1, 2, 3, 4, 5, 6] (by decide) rfl⟩, hS.F ht⟩) hS.2.2 dX12_sooner_274
                            ·
                              have i_360 : k91_7.toInt = (-1) := by have z := g5_neN (a := k91_7.toInt) (b := (-1)) (by rfl) (by decide) c_360; omega
                              refine lv_iconst (v := (-1)) hx hb dX12_sooner_241 (by decide) ?_
                              refine lv_goto (tgt := 274) hx hb dX12_sooner_242 (by decide) ?_
                              exact W.iret (v := (-1)) hx hb hr (fun t ht hW => ⟨⟨(-1), [(b_o, (oc12 0 u_sa b_rf b_ro b_im b_ke u_fd b_tp u_td u_fr u_to u_so u_wo u_fa u_bd u_nc b_nl u_co b_op b_ar u_le b_pi b_pa u_pd u_od b_ws b_hw k91_la b_se b_re k91_bk k91_va k91_su k91_ce k91_ho k91_wy k91_bt k91_ps b_pt k91_tg k91_sn b_ip u_ic b_ah b_be b_me u_wd b_tr b_ld u_st b_wn u_id)), (b_ro, (arI G 5740 k91_ro)), (b_se, (arJ G 13 k91_se)), (b_re, (arJ G 400 k91_re)), (b_pt, (arI G 200 k91_pt)), (b_tr, (arZ G 1536 k91_tr)), (b_ld, (arZ G 1536 k91_ld))], rfl, ⟨(-1), 0, k91_la, k91_bk, k91_va, k91_su, k91_ce, k91_ho, k91_wy, k91_bt, k91_ps, k91_tg, k91_sn, k91_ro, k91_se, k91_re, k91_pt, k91_tr, k91_ld, i_354, i_347, i_348, i_349, i_350, i_351, i_352, i_353, i_355, i_356, rfl, rfl⟩, by rw [ht]; exact hP.sub [0, 1, 2, 3, 4, 5, 6] rfl, hD.sub [0, 1, 2, 3, 4, 5, 6] (by decide) rfl⟩, hS.F ht⟩) hS.2.2 dX12_sooner_274
                          ·
                            have i_359 : k91_8.toInt < (k91_ro 0).toInt := by have z := g5_geN (a := k91_8.toInt) (b := (k91_ro 0).toInt) (by rfl) (by rfl) c_359; omega
                            refine lv_aload_n hx hb dX12_sooner_102 rfl (lv_at hl 4 rfl) ?_
                            refine lv_iload hx hb dX12_sooner_103 (lv_at hl 2 rfl) ?_
                            refine lv_iconst (v := 1) hx hb dX12_sooner_105 (by decide) ?_
                            obtain ⟨hPc, hDc, hFc⟩ := g5_sub3 (wc := [(b_o, (oc12 0 u_sa b_rf b_ro b_im b_ke u_fd b_tp u_td u_fr u_to u_so u_wo u_fa u_bd u_nc b_nl u_co b_op b_ar u_le b_pi b_pa u_pd u_od b_ws b_hw k91_la b_se b_re k91_bk k91_va k91_su k91_ce k91_ho k91_wy k91_bt k91_ps b_pt k91_tg k91_sn b_ip u_ic b_ah b_be b_me u_wd b_tr b_ld u_st b_wn u_id)), (b_ro, (arI G 5740 k91_ro))]) hP hD hS hA [0, 1] (by decide) rfl
                            refine va_calli (va_runV (As := [.int k91_8, .int 1]) (rest := []) ⟨hx, hb, hml, hown, hts⟩ (n_ofGlass1S l G b_o b_ro b_rf b_im b_ke b_tp b_nl b_op b_ar b_pi b_pa b_ws b_hw b_se b_re b_pt b_ip b_ah b_be b_me b_tr b_ld b_wn H.size 0 u_sa u_fd u_td u_fr u_to u_so u_fa u_bd u_nc u_co u_le u_pd u_od k91_la k91_bk k91_ce k91_ho k91_wy k91_bt k91_ps k91_tg k91_sn u_ic u_wd u_id k91_8 u_wo k91_va k91_su u_st k91_ro h_u_td h_u_fr h_u_to h_u_bd h_u_nc h_u_co h_u_pd i_347 i_348 i_349 i_350 i_351 i_352 i_353 h_u_ic h_u_id ⟨by omega, by omega⟩ (i_354)) (cwV 2 hts gV_X12_134 rfl rfl rfl hv_X12_ofGlass ⟨Nat.le_of_ble_eq_true rfl, Nat.le_of_ble_eq_true rfl⟩) (g5_preV hPc hK hDc hN hT hS hFc (ci := 12) (q0 := 0) rfl rfl) rfl rfl hl.1 rfl (lv_room (Nat.le_of_ble_eq_true rfl)) dX12_sooner_106 ⟨Nat.le_of_ble_eq_true rfl, Nat.le_of_ble_eq_true rfl⟩) hS (fun q _ h => hFc q h) hFc (fun r u t H1 locs ht hvm hw hB hz1 hk1 hS => ?_)
                            obtain ⟨hP1, hD1⟩ := hB
                            rw [ht] at hP1
                            obtain ⟨z365, i_363, i_364, y366, rfl⟩ := hw
                            have i_363 : 0 ≤ z365.toInt ∧ z365.toInt ≤ 5 := i_363
                            have i_364 : z365 = k91_ro (80 + 5 * k91_8.toInt.toNat + 1) := i_364
                            obtain ⟨hP, hD⟩ := va_join (wr := [(b_se, (arJ G 13 k91_se)), (b_re, (arJ G 400 k91_re)), (b_pt, (arI G 200 k91_pt)), (b_tr, (arZ G 1536 k91_tr)), (b_ld, (arZ G 1536 k91_ld))]) hP hD [0, 1] [2, 3, 4, 5, 6] rfl rfl (by decide) (by decide) hk1 hFc hP1 hD1
                            generalize H1 = H at hP hS ⊢
                            refine g5_rs [(b_se, (arJ G 13 k91_se)), (b_re, (arJ G 400 k91_re)), (b_pt, (arI G 200 k91_pt)), (b_tr, (arZ G 1536 k91_tr)), (b_ld, (arZ G 1536 k91_ld)), (b_o, (oc12 0 u_sa b_rf b_ro b_im b_ke u_fd b_tp u_td u_fr u_to u_so u_wo u_fa u_bd u_nc b_nl u_co b_op b_ar u_le b_pi b_pa u_pd u_od b_ws b_hw k91_la b_se b_re k91_bk k91_va k91_su k91_ce k91_ho k91_wy k91_bt k91_ps b_pt k91_tg k91_sn b_ip u_ic b_ah b_be b_me u_wd b_tr b_ld u_st b_wn u_id)), (b_ro, (arI G 5740 k91_ro))] hP hD (fun hP hD => ?_)
                            refine g5_ti (v := z365) y366 ?_
                            refine lv_istore (lv' := [(9, .int z365), (6, .int k91_6), (7, .int k91_7), (8, .int k91_8), (5, .int z237), (0, .ref b_o), (1, .int p_1), (2, .int p_2), (3, .int p_3), (4, .int p_4)]) hx hb dX12_sooner_109 hl (by decide) rfl (fun ls hl => ?_)
                            refine lv_iconst (v := 0) hx hb dX12_sooner_111 (by decide) ?_
                            refine lv_istore (lv' := [(10, .int 0), (9, .int z365), (6, .int k91_6), (7, .int k91_7), (8, .int k91_8), (5, .int z237), (0, .ref b_o), (1, .int p_1), (2, .int p_2), (3, .int p_3), (4, .int p_4)]) hx hb dX12_sooner_112 hl (by decide) rfl (fun ls hl => ?_)
                            refine g5_loop (α := (Int32) × (Int32) × (Int32) × (Int32) × (Int32) × (Int64) × (Int64) × (Int32) × (Int32) × (Int32) × (Int32) × (Int32) × (Int32) × (Int32) × (Nat → Int32) × (Nat → Int64) × (Nat → Int64) × (Nat → Int32) × (Nat → Int32) × (Nat → Int32)) (fun (q : (Int32) × (Int32) × (Int32) × (Int32) × (Int32) × (Int64) × (Int64) × (Int32) × (Int32) × (Int32) × (Int32) × (Int32) × (Int32) × (Int32) × (Nat → Int32) × (Nat → Int64) × (Nat → Int64) × (Nat → Int32) × (Nat → Int32) × (Nat → Int32)) (ls : Array Slot) (H : Heap) (locs : List Loc) => match q with | (k114_10, k114_6, k114_7, k114_la, k114_bk, k114_va, k114_su, k114_ce, k114_ho, k114_wy, k114_bt, k114_ps, k114_tg, k114_sn, k114_ro, k114_se, k114_re, k114_pt, k114_tr, k114_ld) => lv_has ls 12 [(6, .int k114_6), (7, .int k114_7), (10, .int k114_10), (9, .int z365), (8, .int k91_8), (5, .int z237), (0, .ref b_o), (1, .int p_1), (2, .int p_2), (3, .int p_3), (4, .int p_4)] ∧ va_P G.1 vwCl [(b_se, (arJ G 13 k114_se)), (b_re, (arJ G 400 k114_re)), (b_pt, (arI G 200 k114_pt)), (b_tr, (arZ G 1536 k114_tr)), (b_ld, (arZ G 1536 k114_ld)), (b_o, (oc12 0 u_sa b_rf b_ro b_im b_ke u_fd b_tp u_td u_fr u_to u_so u_wo u_fa u_bd u_nc b_nl u_co b_op b_ar u_le b_pi b_pa u_pd u_od b_ws b_hw k114_la b_se b_re k114_bk k114_va k114_su k114_ce k114_ho k114_wy k114_bt k114_ps b_pt k114_tg k114_sn b_ip u_ic b_ah b_be b_me u_wd b_tr b_ld u_st b_wn u_id)), (b_ro, (arI G 5740 k114_ro))] H ∧ va_D A [(b_se, (arJ G 13 k114_se)), (b_re, (arJ G 400 k114_re)), (b_pt, (arI G 200 k114_pt)), (b_tr, (arZ G 1536 k114_tr)), (b_ld, (arZ G 1536 k114_ld)), (b_o, (oc12 0 u_sa b_rf b_ro b_im b_ke u_fd b_tp u_td u_fr u_to u_so u_wo u_fa u_bd u_nc b_nl u_co b_op b_ar u_le b_pi b_pa u_pd u_od b_ws b_hw k114_la b_se b_re k114_bk k114_va k114_su k114_ce k114_ho k114_wy k114_bt k114_ps b_pt k114_tg k114_sn b_ip u_ic b_ah b_be b_me u_wd b_tr b_ld u_st b_wn u_id)), (b_ro, (arI G 5740 k114_ro))] ∧ va_S A s.heap H locs ∧ (0 ≤ k114_10.toInt ∧ k114_10.toInt ≤ 6) ∧ (0 ≤ k114_6.toInt ∧ k114_6.toInt ≤ 24) ∧ (0 ≤ k114_la.toInt ∧ k114_la.toInt ≤ 4840) ∧ (0 ≤ k114_bk.toInt ∧ k114_bk.toInt ≤ 1) ∧ (0 ≤ k114_ce.toInt ∧ k114_ce.toInt ≤ 63) ∧ (0 ≤ k114_ho.toInt ∧ k114_ho.toInt ≤ 23) ∧ (0 ≤ k114_wy.toInt ∧ k114_wy.toInt ≤ 3) ∧ (0 ≤ k114_bt.toInt ∧ k114_bt.toInt ≤ 1000000) ∧ (0 ≤ k114_ps.toInt ∧ k114_ps.toInt ≤ 200) ∧ (MI k114_ro) ∧ (PTI k114_pt) ∧ (∀ j : Nat, j ≠ (81 + 5 * k91_8.toInt.toNat) → k114_ro j = v_ro j)) (fun (q : (Int32) × (Int32) × (Int32) × (Int32) × (Int32) × (Int64) × (Int64) × (Int32) × (Int32) × (Int32) × (Int32) × (Int32) × (Int32) × (Int32) × (Nat → Int32) × (Nat → Int64) × (Nat → Int64) × (Nat → Int32) × (Nat → Int32) × (Nat → Int32)) => match q with | (k114_10, k114_6, k114_7, k114_la, k114_bk, k114_va, k114_su, k114_ce, k114_ho, k114_wy, k114_bt, k114_ps, k114_tg, k114_sn, k114_ro, k114_se, k114_re, k114_pt, k114_tr, k114_ld) => Int.toNat (6 - k114_10.toInt)) (0, k91_6, k91_7, k91_la, k91_bk, k91_va, k91_su, k91_ce, k91_ho, k91_wy, k91_bt, k91_ps, k91_tg, k91_sn, k91_ro, k91_se, k91_re, k91_pt, k91_tr, k91_ld) ⟨lv_sub hl [2, 3, 0, 1, 4, 5, 6, 7, 8, 9, 10] rfl, hP, hD, hS, ⟨by decide, by decide⟩, i_346, i_347, i_348, i_349, i_350, i_351, i_352, i_353, i_354, i_355, fun j _ => by rw [i_356]⟩ ?_
                            rintro ⟨k114_10, k114_6, k114_7, k114_la, k114_bk, k114_va, k114_su, k114_ce, k114_ho, k114_wy, k114_bt, k114_ps, k114_tg, k114_sn, k114_ro, k114_se, k114_re, k114_pt, k114_tr, k114_ld⟩ ls H locs ⟨hl, hP, hD, hS, i_367, i_368, i_369, i_370, i_371, i_372, i_373, i_374, i_375, i_376, i_377, i_378⟩ ih_114_379
                            have hl : lv_has ls 12 [(6, .int k114_6), (7, .int k114_7), (10, .int k114_10), (9, .int z365), (8, .int k91_8), (5, .int z237), (0, .ref b_o), (1, .int p_1), (2, .int p_2), (3, .int p_3), (4, .int p_4)] := hl
                            have i_367 : 0 ≤ k114_10.toInt ∧ k114_10.toInt ≤ 6 := i_367
                            have i_368 : 0 ≤ k114_6.toInt ∧ k114_6.toInt ≤ 24 := i_368
                            have i_369 : 0 ≤ k114_la.toInt ∧ k114_la.toInt ≤ 4840 := i_369
                            have i_370 : 0 ≤ k114_bk.toInt ∧ k114_bk.toInt ≤ 1 := i_370
                            have i_371 : 0 ≤ k114_ce.toInt ∧ k114_ce.toInt ≤ 63 := i_371
                            have i_372 : 0 ≤ k114_ho.toInt ∧ k114_ho.toInt ≤ 23 := i_372
                            have i_373 : 0 ≤ k114_wy.toInt ∧ k114_wy.toInt ≤ 3 := i_373
                            have i_374 : 0 ≤ k114_bt.toInt ∧ k114_bt.toInt ≤ 1000000 := i_374
                            have i_375 : 0 ≤ k114_ps.toInt ∧ k114_ps.toInt ≤ 200 := i_375
                            have i_376 : MI k114_ro := i_376
                            have i_377 : PTI k114_pt := i_377
                            have i_378 : ∀ j : Nat, j ≠ (81 + 5 * k91_8.toInt.toNat) → k114_ro j = v_ro j := i_378
                            refine g5_rs [(b_se, (arJ G 13 k114_se)), (b_re, (arJ G 400 k114_re)), (b_pt, (arI G 200 k114_pt)), (b_tr, (arZ G 1536 k114_tr)), (b_ld, (arZ G 1536 k114_ld)), (b_o, (oc12 0 u_sa b_rf b_ro b_im b_ke u_fd b_tp u_td u_fr u_to u_so u_wo u_fa u_bd u_nc b_nl u_co b_op b_ar u_le b_pi b_pa u_pd u_od b_ws b_hw k114_la b_se b_re k114_bk k114_va k114_su k114_ce k114_ho k114_wy k114_bt k114_ps b_pt k114_tg k114_sn b_ip u_ic b_ah b_be b_me u_wd b_tr b_ld u_st b_wn u_id)), (b_ro, (arI G 5740 k114_ro))] hP hD (fun hP hD => ?_)
                            refine lv_iload hx hb dX12_sooner_114 (lv_at hl 2 rfl) ?_
                            refine lv_bipush (v := 6) hx hb dX12_sooner_116 (by decide) ?_
                            refine lv_icmp_ge (tgt := 213) hx hb dX12_sooner_118 (by decide) (fun c_380 => ?_) (fun c_380 => ?_)
                            ·
                              have i_380 : k114_10.toInt ≥ 6 := by have z := g5_ge (a := k114_10.toInt) (b := 6) (by rfl) (by decide) c_380; omega
                              refine lv_aload_n hx hb dX12_sooner_213 rfl (lv_at hl 6 rfl) ?_
                              refine va_get (D := G.1) (ci := 12) (v := .ref b_ro) (C := RX12) (T := TX12) (N := 52) hx hb hts inG_X12 hown hK hP 5 rfl rfl 3 (by decide) (hts _ fl_X12_13) (fun _ h9 => h9) rfl dX12_sooner_214 ?_
                              refine lv_bipush (v := 80) hx hb dX12_sooner_217 (by decide) ?_
                              refine lv_iconst (v := 5) hx hb dX12_sooner_219 (by decide) ?_
                              refine lv_iload hx hb dX12_sooner_220 (lv_at hl 4 rfl) ?_
                              refine lv_imul hx hb dX12_sooner_222 ?_
                              have t_381 : (5 * k91_8).toInt = 5 * k91_8.toInt := g5_imul (a := 5) (b := k91_8.toInt) (by decide) (by rfl) (by omega) (by omega)
                              refine lv_iadd hx hb dX12_sooner_223 ?_
                              have t_382 : (80 + (5 * k91_8)).toInt = 80 + (5 * k91_8).toInt := g5_iadd (a := 80) (b := (5 * k91_8).toInt) (by decide) (by rfl) (by omega) (by omega)
                              refine lv_iconst (v := 1) hx hb dX12_sooner_224 (by decide) ?_
                              refine lv_iadd hx hb dX12_sooner_225 ?_
                              have t_383 : ((80 + (5 * k91_8)) + 1).toInt = (80 + (5 * k91_8)).toInt + 1 := g5_iadd (a := (80 + (5 * k91_8)).toInt) (b := 1) (by rfl) (by decide) (by omega) (by omega)
                              refine lv_iload hx hb dX12_sooner_226 (lv_at hl 3 rfl) ?_
                              refine va_iast hx hb hK hP hD hS 6 0 rfl rfl (i := ((80 + (5 * k91_8)) + 1)) (x := z365) (vp_in_iff.mpr ⟨by omega, by omega⟩) dX12_sooner_228 (fun H locs hP hD hS => ?_)
                              refine g5_rs [(b_se, (arJ G 13 k114_se)), (b_re, (arJ G 400 k114_re)), (b_pt, (arI G 200 k114_pt)), (b_tr, (arZ G 1536 k114_tr)), (b_ld, (arZ G 1536 k114_ld)), (b_o, (oc12 0 u_sa b_rf b_ro b_im b_ke u_fd b_tp u_td u_fr u_to u_so u_wo u_fa u_bd u_nc b_nl u_co b_op b_ar u_le b_pi b_pa u_pd u_od b_ws b_hw k114_la b_se b_re k114_bk k114_va k114_su k114_ce k114_ho k114_wy k114_bt k114_ps b_pt k114_tg k114_sn b_ip u_ic b_ah b_be b_me u_wd b_tr b_ld u_st b_wn u_id)), (b_ro, (arI G 5740 (upd k114_ro ((80 + (5 * k91_8)) + 1).toNatClampNeg z365)))] hP hD (fun hP hD => ?_)
                              refine lv_iinc (v := (k91_8 + 1)) (lv' := [(8, .int (k91_8 + 1)), (6, .int k114_6), (7, .int k114_7), (10, .int k114_10), (9, .int z365), (5, .int z237), (0, .ref b_o), (1, .int p_1), (2, .int p_2), (3, .int p_3), (4, .int p_4)]) hx hb dX12_sooner_229 hl (k := 4) rfl rfl (by decide) rfl (fun ls hl => ?_)
                              have t_384 : (k91_8 + 1).toInt = k91_8.toInt + 1 := g5_iadd (a := k91_8.toInt) (b := 1) rfl (by decide) (by omega) (by omega)
                              refine lv_goto (tgt := 91) hx hb dX12_sooner_232 (by decide) ?_
                              exact ih_91_357 ((k91_8 + 1), k114_7, k114_6, k114_la, k114_bk, k114_va, k114_su, k114_ce, k114_ho, k114_wy, k114_bt, k114_ps, k114_tg, k114_sn, (upd k114_ro ((80 + (5 * k91_8)) + 1).toNatClampNeg z365), k114_se, k114_re, k114_pt, k114_tr, k114_ld) ls H locs (show Int.toNat (6 - (k91_8 + 1).toInt) < Int.toNat (6 - k91_8.toInt) from g_up (show k91_8.toInt < (k91_8 + 1).toInt by omega) (show k91_8.toInt < 6 by omega)) ⟨lv_sub hl [1, 2, 0, 5, 6, 7, 8, 9, 10] rfl, hP.sub [5, 6, 0, 1, 2, 3, 4] rfl, hD.sub [5, 6, 0, 1, 2, 3, 4] (by decide) rfl, hS, ⟨by omega, by omega⟩, i_368, i_369, i_370, i_371, i_372, i_373, i_374, i_375, mi_upd i_376 (by have zz := g5_clamp ((80 + (5 * k91_8)) + 1); unfold rOK; refine ⟨?_, ?_, ?_, ?_, ?_, ?_, ?_, ?_, ?_, ?_, ?_, ?_, ?_, ?_, ?_, ?_, ?_, ?_, ?_, ?_, ?_, ?_, ?_⟩ <;> (intros; omega)) (by have zz := g5_clamp ((80 + (5 * k91_8)) + 1); omega) (by have zz := g5_clamp ((80 + (5 * k91_8)) + 1); omega) (by have zz := g5_clamp ((80 + (5 * k91_8)) + 1); omega) (by have zz := g5_clamp ((80 + (5 * k91_8)) + 1); omega) (by have zz := g5_clamp ((80 + (5 * k91_8)) + 1); omega), i_377, by rw [show ((80 + (5 * k91_8)) + 1).toNatClampNeg = (81 + 5 * k91_8.toInt.toNat) by have zz := g5_clamp ((80 + (5 * k91_8)) + 1); omega]; exact upd_but_self i_378 (by rw [i_364, i_356]; congr 1; omega)⟩
                            ·
                              have i_380 : k114_10.toInt < 6 := by have z := g5_geN (a := k114_10.toInt) (b := 6) (by rfl) (by decide) c_380; omega
                              refine lv_aload_n hx hb dX12_sooner_121 rfl (lv_at hl 6 rfl) ?_
                              refine va_get (D := G.1) (ci := 12) (v := .ref b_ro) (C := RX12) (T := TX12) (N := 52) hx hb hts inG_X12 hown hK hP 5 rfl rfl 3 (by decide) (hts _ fl_X12_13) (fun _ h9 => h9) rfl dX12_sooner_122 ?_
                              refine lv_bipush (v := 80) hx hb dX12_sooner_125 (by decide) ?_
                              refine lv_iconst (v := 5) hx hb dX12_sooner_127 (by decide) ?_
                              refine lv_iload hx hb dX12_sooner_128 (lv_at hl 4 rfl) ?_
                              refine lv_imul hx hb dX12_sooner_130 ?_
                              have t_385 : (5 * k91_8).toInt = 5 * k91_8.toInt := g5_imul (a := 5) (b := k91_8.toInt) (by decide) (by rfl) (by omega) (by omega)
                              refine lv_iadd hx hb dX12_sooner_131 ?_
                              have t_386 : (80 + (5 * k91_8)).toInt = 80 + (5 * k91_8).toInt := g5_iadd (a := 80) (b := (5 * k91_8).toInt) (by decide) (by rfl) (by omega) (by omega)
                              refine lv_iconst (v := 1) hx hb dX12_sooner_132 (by decide) ?_
                              refine lv_iadd hx hb dX12_sooner_133 ?_
                              have t_387 : ((80 + (5 * k91_8)) + 1).toInt = (80 + (5 * k91_8)).toInt + 1 := g5_iadd (a := (80 + (5 * k91_8)).toInt) (b := 1) (by rfl) (by decide) (by omega) (by omega)
                              refine lv_iload hx hb dX12_sooner_134 (lv_at hl 2 rfl) ?_
                              refine va_iast hx hb hK hP hD hS 6 0 rfl rfl (i := ((80 + (5 * k91_8)) + 1)) (x := k114_10) (vp_in_iff.mpr ⟨by omega, by omega⟩) dX12_sooner_136 (fun H locs hP hD hS => ?_)
                              refine g5_rs [(b_se, (arJ G 13 k114_se)), (b_re, (arJ G 400 k114_re)), (b_pt, (arI G 200 k114_pt)), (b_tr, (arZ G 1536 k114_tr)), (b_ld, (arZ G 1536 k114_ld)), (b_o, (oc12 0 u_sa b_rf b_ro b_im b_ke u_fd b_tp u_td u_fr u_to u_so u_wo u_fa u_bd u_nc b_nl u_co b_op b_ar u_le b_pi b_pa u_pd u_od b_ws b_hw k114_la b_se b_re k114_bk k114_va k114_su k114_ce k114_ho k114_wy k114_bt k114_ps b_pt k114_tg k114_sn b_ip u_ic b_ah b_be b_me u_wd b_tr b_ld u_st b_wn u_id)), (b_ro, (arI G 5740 (upd k114_ro ((80 + (5 * k91_8)) + 1).toNatClampNeg k114_10)))] hP hD (fun hP hD => ?_)
                              have hmi_388 : MI (upd k114_ro ((80 + (5 * k91_8)) + 1).toNatClampNeg k114_10) := mi_upd i_376 (by have zz := g5_clamp ((80 + (5 * k91_8)) + 1); unfold rOK; refine ⟨?_, ?_, ?_, ?_, ?_, ?_, ?_, ?_, ?_, ?_, ?_, ?_, ?_, ?_, ?_, ?_, ?_, ?_, ?_, ?_, ?_, ?_, ?_⟩ <;> (intros; omega)) (by have zz := g5_clamp ((80 + (5 * k91_8)) + 1); omega) (by have zz := g5_clamp ((80 + (5 * k91_8)) + 1); omega) (by have zz := g5_clamp ((80 + (5 * k91_8)) + 1); omega) (by have zz := g5_clamp ((80 + (5 * k91_8)) + 1); omega) (by have zz := g5_clamp ((80 + (5 * k91_8)) + 1); omega)
                              refine lv_iload hx hb dX12_sooner_137 (lv_at hl 2 rfl) ?_
                              refine lv_iload hx hb dX12_sooner_139 (lv_at hl 3 rfl) ?_
                              refine lv_icmp_ne (tgt := 148) hx hb dX12_sooner_141 (by decide) (fun c_389 => ?_) (fun c_389 => ?_)
                              ·
                                have n_389 : gNe (k114_10.toInt) (z365.toInt) := by have z := g5_ne (a := k114_10.toInt) (b := z365.toInt) (by rfl) (by rfl) c_389; unfold gNe; omega
                                refine lv_aload_n hx hb dX12_sooner_148 rfl (lv_at hl 6 rfl) ?_
                                refine lv_iload_n hx hb dX12_sooner_149 rfl (lv_at hl 7 rfl) ?_
                                refine lv_iload_n hx hb dX12_sooner_150 rfl (lv_at hl 8 rfl) ?_
                                refine lv_iload_n hx hb dX12_sooner_151 rfl (lv_at hl 9 rfl) ?_
                                obtain ⟨hPc, hDc, hFc⟩ := g5_sub3 (wc := [(b_o, (oc12 0 u_sa b_rf b_ro b_im b_ke u_fd b_tp u_td u_fr u_to u_so u_wo u_fa u_bd u_nc b_nl u_co b_op b_ar u_le b_pi b_pa u_pd u_od b_ws b_hw k114_la b_se b_re k114_bk k114_va k114_su k114_ce k114_ho k114_wy k114_bt k114_ps b_pt k114_tg k114_sn b_ip u_ic b_ah b_be b_me u_wd b_tr b_ld u_st b_wn u_id)), (b_ro, (arI G 5740 (upd k114_ro ((80 + (5 * k91_8)) + 1).toNatClampNeg k114_10))), (b_se, (arJ G 13 k114_se)), (b_re, (arJ G 400 k114_re)), (b_pt, (arI G 200 k114_pt)), (b_tr, (arZ G 1536 k114_tr)), (b_ld, (arZ G 1536 k114_ld))]) hP hD hS hA [5, 6, 0, 1, 2, 3, 4] (by decide) rfl
                                refine va_calli (va_runV (As := [.int p_1, .int p_2, .int p_3]) (rest := []) ⟨hx, hb, hml, hown, hts⟩ (n_findSoonest l G b_o b_ro b_se b_re b_pt b_tr b_ld b_rf b_im b_ke b_tp b_nl b_op b_ar b_pi b_pa b_ws b_hw b_ip b_ah b_be b_me b_wn H.size 0 u_sa u_fd u_td u_fr u_to u_so u_fa u_bd u_nc u_co u_le u_pd u_od k114_la k114_bk k114_ce k114_ho k114_wy k114_bt k114_ps k114_tg k114_sn u_ic u_wd u_id p_1 p_2 p_3 u_wo k114_va k114_su u_st (upd k114_ro ((80 + (5 * k91_8)) + 1).toNatClampNeg k114_10) k114_se k114_re k114_pt k114_tr k114_ld h_u_td h_u_fr h_u_to h_u_bd h_u_nc h_u_co h_u_pd i_369 i_370 i_371 i_372 i_373 i_374 i_375 h_u_ic h_u_id i_3 i_5 (hmi_388) (i_377)) (cwV 3 hts gV_X12_466 rfl rfl rfl hv_X12_findSoonest ⟨Nat.le_of_ble_eq_true rfl, Nat.le_of_ble_eq_true rfl⟩) (g5_preV hPc hK hDc hN hT hS hFc (ci := 12) (q0 := 0) rfl rfl) rfl rfl hl.1 rfl (lv_room (Nat.le_of_ble_eq_true rfl)) dX12_sooner_152 ⟨Nat.le_of_ble_eq_true rfl, Nat.le_of_ble_eq_true rfl⟩) hS (fun q _ h => hFc q h) hFc (fun r u t H1 locs ht hvm hw hB hz1 hk1 hS => ?_)
                                obtain ⟨hP1, hD1⟩ := hB
                                rw [ht] at hP1
                                obtain ⟨z399, z400, z401, z402, z403, z404, z405, z406, z407, z408, z409, z410, z411, z412, z413, z414, z415, i_390, i_391, i_392, i_393, i_394, i_395, i_396, i_397, i_398, y416, rfl⟩ := hw
                                have i_390 : (-1) ≤ z399.toInt ∧ z399.toInt ≤ 23 := i_390
                                have i_391 : 0 ≤ z400.toInt ∧ z400.toInt ≤ 4840 := i_391
                                have i_392 : 0 ≤ z401.toInt ∧ z401.toInt ≤ 1 := i_392
                                have i_393 : 0 ≤ z404.toInt ∧ z404.toInt ≤ 63 := i_393
                                have i_394 : 0 ≤ z405.toInt ∧ z405.toInt ≤ 23 := i_394
                                have i_395 : 0 ≤ z406.toInt ∧ z406.toInt ≤ 3 := i_395
                                have i_396 : 0 ≤ z407.toInt ∧ z407.toInt ≤ 1000000 := i_396
                                have i_397 : 0 ≤ z408.toInt ∧ z408.toInt ≤ 200 := i_397
                                have i_398 : PTI z413 := i_398
                                obtain ⟨hP, hD⟩ := va_join (wr := []) hP hD [5, 6, 0, 1, 2, 3, 4] [] rfl rfl (by decide) (by decide) hk1 hFc hP1 hD1
                                generalize H1 = H at hP hS ⊢
                                refine g5_rs [(b_o, (oc12 0 u_sa b_rf b_ro b_im b_ke u_fd b_tp u_td u_fr u_to u_so u_wo u_fa u_bd u_nc b_nl u_co b_op b_ar u_le b_pi b_pa u_pd u_od b_ws b_hw z400 b_se b_re z401 z402 z403 z404 z405 z406 z407 z408 b_pt z409 z410 b_ip u_ic b_ah b_be b_me u_wd b_tr b_ld u_st b_wn u_id)), (b_ro, (arI G 5740 (upd k114_ro ((80 + (5 * k91_8)) + 1).toNatClampNeg k114_10))), (b_se, (arJ G 13 z411)), (b_re, (arJ G 400 z412)), (b_pt, (arI G 200 z413)), (b_tr, (arZ G 1536 z414)), (b_ld, (arZ G 1536 z415))] hP hD (fun hP hD => ?_)
                                refine g5_ti (v := z399) y416 ?_
                                refine lv_istore (lv' := [(11, .int z399), (6, .int k114_6), (7, .int k114_7), (10, .int k114_10), (9, .int z365), (8, .int k91_8), (5, .int z237), (0, .ref b_o), (1, .int p_1), (2, .int p_2), (3, .int p_3), (4, .int p_4)]) hx hb dX12_sooner_155 hl (by decide) rfl (fun ls hl => ?_)
                                refine lv_iload hx hb dX12_sooner_157 (lv_at hl 0 rfl) ?_
                                refine lv_iconst (v := (-1)) hx hb dX12_sooner_159 (by decide) ?_
                                refine lv_icmp_eq (tgt := 181) hx hb dX12_sooner_160 (by decide) (fun c_417 => ?_) (fun c_417 => ?_)
                                ·
                                  have i_417 : z399.toInt = (-1) := by have z := g5_eq (a := z399.toInt) (b := (-1)) (by rfl) (by decide) c_417; omega
                                  refine lv_iload hx hb dX12_sooner_181 (lv_at hl 2 rfl) ?_
                                  refine lv_istore (lv' := [(7, .int k114_7), (11, .int z399), (6, .int k114_6), (10, .int k114_10), (9, .int z365), (8, .int k91_8), (5, .int z237), (0, .ref b_o), (1, .int p_1), (2, .int p_2), (3, .int p_3), (4, .int p_4)]) hx hb dX12_sooner_183 hl (by decide) rfl (fun ls hl => ?_)
                                  refine lv_iload hx hb dX12_sooner_185 (lv_at hl 1 rfl) ?_
                                  refine lv_iconst (v := (-1)) hx hb dX12_sooner_187 (by decide) ?_
                                  refine lv_icmp_eq (tgt := 203) hx hb dX12_sooner_188 (by decide) (fun c_418 => ?_) (fun c_418 => ?_)
                                  ·
                                    have i_418 : z399.toInt = (-1) := by have z := g5_eq (a := z399.toInt) (b := (-1)) (by rfl) (by decide) c_418; omega
                                    refine lv_iload hx hb dX12_sooner_203 (lv_at hl 2 rfl) ?_
                                    refine lv_istore (lv' := [(6, .int k114_6), (7, .int k114_7), (11, .int z399), (10, .int k114_10), (9, .int z365), (8, .int k91_8), (5, .int z237), (0, .ref b_o), (1, .int p_1), (2, .int p_2), (3, .int p_3), (4, .int p_4)]) hx hb dX12_sooner_205 hl (by decide) rfl (fun ls hl => ?_)
                                    refine lv_iinc (v := (k114_10 + 1)) (lv' := [(10, .int (k114_10 + 1)), (6, .int k114_6), (7, .int k114_7), (11, .int z399), (9, .int z365), (8, .int k91_8), (5, .int z237), (0, .ref b_o), (1, .int p_1), (2, .int p_2), (3, .int p_3), (4, .int p_4)]) hx hb dX12_sooner_207 hl (k := 3) rfl rfl (by decide) rfl (fun ls hl => ?_)
                                    have t_419 : (k114_10 + 1).toInt = k114_10.toInt + 1 := g5_iadd (a := k114_10.toInt) (b := 1) rfl (by decide) (by omega) (by omega)
                                    refine lv_goto (tgt := 114) hx hb dX12_sooner_210 (by decide) ?_
                                    exact ih_114_379 ((k114_10 + 1), k114_6, k114_7, z400, z401, z402, z403, z404, z405, z406, z407, z408, z409, z410, (upd k114_ro ((80 + (5 * k91_8)) + 1).toNatClampNeg k114_10), z411, z412, z413, z414, z415) ls H locs (show Int.toNat (6 - (k114_10 + 1).toInt) < Int.toNat (6 - k114_10.toInt) from g_up (show k114_10.toInt < (k114_10 + 1).toInt by omega) (show k114_10.toInt < 6 by omega)) ⟨lv_sub hl [1, 2, 0, 4, 5, 6, 7, 8, 9, 10, 11] rfl, hP.sub [2, 3, 4, 5, 6, 0, 1] rfl, hD.sub [2, 3, 4, 5, 6, 0, 1] (by decide) rfl, hS, ⟨by omega, by omega⟩, i_368, i_391, i_392, i_393, i_394, i_395, i_396, i_397, hmi_388, i_398, fun j hj => by rw [upd_ne (by rw [show ((80 + (5 * k91_8)) + 1).toNatClampNeg = (81 + 5 * k91_8.toInt.toNat) by have zz := g5_clamp ((80 + (5 * k91_8)) + 1); omega]; exact hj)]; exact i_378 j hj⟩
                                  ·
                                    have i_418 : z399.toInt ≠ (-1) := by have z := g5_eqN (a := z399.toInt) (b := (-1)) (by rfl) (by decide) c_418; omega
                                    omega
                                ·
                                  have n_417 : gNe (z399.toInt) ((-1)) := by have z := g5_eqN (a := z399.toInt) (b := (-1)) (by rfl) (by decide) c_417; unfold gNe; omega
                                  have i_417 : z399.toInt ≥ 0 := by have z := g5_eqN (a := z399.toInt) (b := (-1)) (by rfl) (by decide) c_417; omega
                                  refine lv_iload hx hb dX12_sooner_163 (lv_at hl 0 rfl) ?_
                                  refine lv_iload hx hb dX12_sooner_165 (lv_at hl 1 rfl) ?_
                                  refine lv_icmp_ge (tgt := 181) hx hb dX12_sooner_167 (by decide) (fun c_420 => ?_) (fun c_420 => ?_)
                                  ·
                                    have i_420 : z399.toInt ≥ k114_6.toInt := by have z := g5_ge (a := z399.toInt) (b := k114_6.toInt) (by rfl) (by rfl) c_420; omega
                                    refine lv_iload hx hb dX12_sooner_181 (lv_at hl 2 rfl) ?_
                                    refine lv_istore (lv' := [(7, .int k114_7), (11, .int z399), (6, .int k114_6), (10, .int k114_10), (9, .int z365), (8, .int k91_8), (5, .int z237), (0, .ref b_o), (1, .int p_1), (2, .int p_2), (3, .int p_3), (4, .int p_4)]) hx hb dX12_sooner_183 hl (by decide) rfl (fun ls hl => ?_)
                                    refine lv_iload hx hb dX12_sooner_185 (lv_at hl 1 rfl) ?_
                                    refine lv_iconst (v := (-1)) hx hb dX12_sooner_187 (by decide) ?_
                                    refine lv_icmp_eq (tgt := 203) hx hb dX12_sooner_188 (by decide) (fun c_421 => ?_) (fun c_421 => ?_)
                                    ·
                                      have i_421 : z399.toInt = (-1) := by have z := g5_eq (a := z399.toInt) (b := (-1)) (by rfl) (by decide) c_421; omega
                                      omega
                                    ·
                                      have n_421 : gNe (z399.toInt) ((-1)) := by have z := g5_eqN (a := z399.toInt) (b := (-1)) (by rfl) (by decide) c_421; unfold gNe; omega
                                      refine lv_iload hx hb dX12_sooner_191 (lv_at hl 1 rfl) ?_
                                      refine lv_iload hx hb dX12_sooner_193 (lv_at hl 2 rfl) ?_
                                      refine lv_icmp_ge (tgt := 203) hx hb dX12_sooner_195 (by decide) (fun c_422 => ?_) (fun c_422 => ?_)
                                      ·
                                        have i_422 : z399.toInt ≥ k114_6.toInt := by have z := g5_ge (a := z399.toInt) (b := k114_6.toInt) (by rfl) (by rfl) c_422; omega
                                        refine lv_iload hx hb dX12_sooner_203 (lv_at hl 2 rfl) ?_
                                        refine lv_istore (lv' := [(6, .int k114_6), (7, .int k114_7), (11, .int z399), (10, .int k114_10), (9, .int z365), (8, .int k91_8), (5, .int z237), (0, .ref b_o), (1, .int p_1), (2, .int p_2), (3, .int p_3), (4, .int p_4)]) hx hb dX12_sooner_205 hl (by decide) rfl (fun ls hl => ?_)
                                        refine lv_iinc (v := (k114_10 + 1)) (lv' := [(10, .int (k114_10 + 1)), (6, .int k114_6), (7, .int k114_7), (11, .int z399), (9, .int z365), (8, .int k91_8), (5, .int z237), (0, .ref b_o), (1, .int p_1), (2, .int p_2), (3, .int p_3), (4, .int p_4)]) hx hb dX12_sooner_207 hl (k := 3) rfl rfl (by decide) rfl (fun ls hl => ?_)
                                        have t_423 : (k114_10 + 1).toInt = k114_10.toInt + 1 := g5_iadd (a := k114_10.toInt) (b := 1) rfl (by decide) (by omega) (by omega)
                                        refine lv_goto (tgt := 114) hx hb dX12_sooner_210 (by decide) ?_
                                        exact ih_114_379 ((k114_10 + 1), k114_6, k114_7, z400, z401, z402, z403, z404, z405, z406, z407, z408, z409, z410, (upd k114_ro ((80 + (5 * k91_8)) + 1).toNatClampNeg k114_10), z411, z412, z413, z414, z415) ls H locs (show Int.toNat (6 - (k114_10 + 1).toInt) < Int.toNat (6 - k114_10.toInt) from g_up (show k114_10.toInt < (k114_10 + 1).toInt by omega) (show k114_10.toInt < 6 by omega)) ⟨lv_sub hl [1, 2, 0, 4, 5, 6, 7, 8, 9, 10, 11] rfl, hP.sub [2, 3, 4, 5, 6, 0, 1] rfl, hD.sub [2, 3, 4, 5, 6, 0, 1] (by decide) rfl, hS, ⟨by omega, by omega⟩, i_368, i_391, i_392, i_393, i_394, i_395, i_396, i_397, hmi_388, i_398, fun j hj => by rw [upd_ne (by rw [show ((80 + (5 * k91_8)) + 1).toNatClampNeg = (81 + 5 * k91_8.toInt.toNat) by have zz := g5_clamp ((80 + (5 * k91_8)) + 1); omega]; exact hj)]; exact i_378 j hj⟩
                                      ·
                                        have i_422 : z399.toInt < k114_6.toInt := by have z := g5_geN (a := z399.toInt) (b := k114_6.toInt) (by rfl) (by rfl) c_422; omega
                                        refine lv_iload hx hb dX12_sooner_198 (lv_at hl 1 rfl) ?_
                                        refine lv_goto (tgt := 205) hx hb dX12_sooner_200 (by decide) ?_
                                        refine lv_istore (lv' := [(6, .int z399), (7, .int k114_7), (11, .int z399), (10, .int k114_10), (9, .int z365), (8, .int k91_8), (5, .int z237), (0, .ref b_o), (1, .int p_1), (2, .int p_2), (3, .int p_3), (4, .int p_4)]) hx hb dX12_sooner_205 hl (by decide) rfl (fun ls hl => ?_)
                                        refine lv_iinc (v := (k114_10 + 1)) (lv' := [(10, .int (k114_10 + 1)), (6, .int z399), (7, .int k114_7), (11, .int z399), (9, .int z365), (8, .int k91_8), (5, .int z237), (0, .ref b_o), (1, .int p_1), (2, .int p_2), (3, .int p_3), (4, .int p_4)]) hx hb dX12_sooner_207 hl (k := 3) rfl rfl (by decide) rfl (fun ls hl => ?_)
                                        have t_424 : (k114_10 + 1).toInt = k114_10.toInt + 1 := g5_iadd (a := k114_10.toInt) (b := 1) rfl (by decide) (by omega) (by omega)
                                        refine lv_goto (tgt := 114) hx hb dX12_sooner_210 (by decide) ?_
                                        exact ih_114_379 ((k114_10 + 1), z399, k114_7, z400, z401, z402, z403, z404, z405, z406, z407, z408, z409, z410, (upd k114_ro ((80 + (5 * k91_8)) + 1).toNatClampNeg k114_10), z411, z412, z413, z414, z415) ls H locs (show Int.toNat (6 - (k114_10 + 1).toInt) < Int.toNat (6 - k114_10.toInt) from g_up (show k114_10.toInt < (k114_10 + 1).toInt by omega) (show k114_10.toInt < 6 by omega)) ⟨lv_sub hl [1, 2, 0, 4, 5, 6, 7, 8, 9, 10, 11] rfl, hP.sub [2, 3, 4, 5, 6, 0, 1] rfl, hD.sub [2, 3, 4, 5, 6, 0, 1] (by decide) rfl, hS, ⟨by omega, by omega⟩, ⟨by omega, by omega⟩, i_391, i_392, i_393, i_394, i_395, i_396, i_397, hmi_388, i_398, fun j hj => by rw [upd_ne (by rw [show ((80 + (5 * k91_8)) + 1).toNatClampNeg = (81 + 5 * k91_8.toInt.toNat) by have zz := g5_clamp ((80 + (5 * k91_8)) + 1); omega]; exact hj)]; exact i_378 j hj⟩
                                  ·
                                    have i_420 : z399.toInt < k114_6.toInt := by have z := g5_geN (a := z399.toInt) (b := k114_6.toInt) (by rfl) (by rfl) c_420; omega
                                    refine lv_bipush (v := 6) hx hb dX12_sooner_170 (by decide) ?_
                                    refine lv_iload hx hb dX12_sooner_172 (lv_at hl 5 rfl) ?_
                                    refine lv_imul hx hb dX12_sooner_174 ?_
                                    have t_425 : (6 * k91_8).toInt = 6 * k91_8.toInt := g5_imul (a := 6) (b := k91_8.toInt) (by decide) (by rfl) (by omega) (by omega)
                                    refine lv_iload hx hb dX12_sooner_175 (lv_at hl 3 rfl) ?_
                                    refine lv_iadd hx hb dX12_sooner_177 ?_
                                    have t_426 : ((6 * k91_8) + k114_10).toInt = (6 * k91_8).toInt + k114_10.toInt := g5_iadd (a := (6 * k91_8).toInt) (b := k114_10.toInt) (by rfl) (by rfl) (by omega) (by omega)
                                    refine lv_goto (tgt := 183) hx hb dX12_sooner_178 (by decide) ?_
                                    refine lv_istore (lv' := [(7, .int ((6 * k91_8) + k114_10)), (11, .int z399), (6, .int k114_6), (10, .int k114_10), (9, .int z365), (8, .int k91_8), (5, .int z237), (0, .ref b_o), (1, .int p_1), (2, .int p_2), (3, .int p_3), (4, .int p_4)]) hx hb dX12_sooner_183 hl (by decide) rfl (fun ls hl => ?_)
                                    refine lv_iload hx hb dX12_sooner_185 (lv_at hl 1 rfl) ?_
                                    refine lv_iconst (v := (-1)) hx hb dX12_sooner_187 (by decide) ?_
                                    refine lv_icmp_eq (tgt := 203) hx hb dX12_sooner_188 (by decide) (fun c_427 => ?_) (fun c_427 => ?_)
                                    ·
                                      have i_427 : z399.toInt = (-1) := by have z := g5_eq (a := z399.toInt) (b := (-1)) (by rfl) (by decide) c_427; omega
                                      omega
                                    ·
                                      have n_427 : gNe (z399.toInt) ((-1)) := by have z := g5_eqN (a := z399.toInt) (b := (-1)) (by rfl) (by decide) c_427; unfold gNe; omega
                                      refine lv_iload hx hb dX12_sooner_191 (lv_at hl 1 rfl) ?_
                                      refine lv_iload hx hb dX12_sooner_193 (lv_at hl 2 rfl) ?_
                                      refine lv_icmp_ge (tgt := 203) hx hb dX12_sooner_195 (by decide) (fun c_428 => ?_) (fun c_428 => ?_)
                                      ·
                                        have i_428 : z399.toInt ≥ k114_6.toInt := by have z := g5_ge (a := z399.toInt) (b := k114_6.toInt) (by rfl) (by rfl) c_428; omega
                                        refine lv_iload hx hb dX12_sooner_203 (lv_at hl 2 rfl) ?_
                                        refine lv_istore (lv' := [(6, .int k114_6), (7, .int ((6 * k91_8) + k114_10)), (11, .int z399), (10, .int k114_10), (9, .int z365), (8, .int k91_8), (5, .int z237), (0, .ref b_o), (1, .int p_1), (2, .int p_2), (3, .int p_3), (4, .int p_4)]) hx hb dX12_sooner_205 hl (by decide) rfl (fun ls hl => ?_)
                                        refine lv_iinc (v := (k114_10 + 1)) (lv' := [(10, .int (k114_10 + 1)), (6, .int k114_6), (7, .int ((6 * k91_8) + k114_10)), (11, .int z399), (9, .int z365), (8, .int k91_8), (5, .int z237), (0, .ref b_o), (1, .int p_1), (2, .int p_2), (3, .int p_3), (4, .int p_4)]) hx hb dX12_sooner_207 hl (k := 3) rfl rfl (by decide) rfl (fun ls hl => ?_)
                                        have t_429 : (k114_10 + 1).toInt = k114_10.toInt + 1 := g5_iadd (a := k114_10.toInt) (b := 1) rfl (by decide) (by omega) (by omega)
                                        refine lv_goto (tgt := 114) hx hb dX12_sooner_210 (by decide) ?_
                                        exact ih_114_379 ((k114_10 + 1), k114_6, ((6 * k91_8) + k114_10), z400, z401, z402, z403, z404, z405, z406, z407, z408, z409, z410, (upd k114_ro ((80 + (5 * k91_8)) + 1).toNatClampNeg k114_10), z411, z412, z413, z414, z415) ls H locs (show Int.toNat (6 - (k114_10 + 1).toInt) < Int.toNat (6 - k114_10.toInt) from g_up (show k114_10.toInt < (k114_10 + 1).toInt by omega) (show k114_10.toInt < 6 by omega)) ⟨lv_sub hl [1, 2, 0, 4, 5, 6, 7, 8, 9, 10, 11] rfl, hP.sub [2, 3, 4, 5, 6, 0, 1] rfl, hD.sub [2, 3, 4, 5, 6, 0, 1] (by decide) rfl, hS, ⟨by omega, by omega⟩, i_368, i_391, i_392, i_393, i_394, i_395, i_396, i_397, hmi_388, i_398, fun j hj => by rw [upd_ne (by rw [show ((80 + (5 * k91_8)) + 1).toNatClampNeg = (81 + 5 * k91_8.toInt.toNat) by have zz := g5_clamp ((80 + (5 * k91_8)) + 1); omega]; exact hj)]; exact i_378 j hj⟩
                                      ·
                                        have i_428 : z399.toInt < k114_6.toInt := by have z := g5_geN (a := z399.toInt) (b := k114_6.toInt) (by rfl) (by rfl) c_428; omega
                                        refine lv_iload hx hb dX12_sooner_198 (lv_at hl 1 rfl) ?_
                                        refine lv_goto (tgt := 205) hx hb dX12_sooner_200 (by decide) ?_
                                        refine lv_istore (lv' := [(6, .int z399), (7, .int ((6 * k91_8) + k114_10)), (11, .int z399), (10, .int k114_10), (9, .int z365), (8, .int k91_8), (5, .int z237), (0, .ref b_o), (1, .int p_1), (2, .int p_2), (3, .int p_3), (4, .int p_4)]) hx hb dX12_sooner_205 hl (by decide) rfl (fun ls hl => ?_)
                                        refine lv_iinc (v := (k114_10 + 1)) (lv' := [(10, .int (k114_10 + 1)), (6, .int z399), (7, .int ((6 * k91_8) + k114_10)), (11, .int z399), (9, .int z365), (8, .int k91_8), (5, .int z237), (0, .ref b_o), (1, .int p_1), (2, .int p_2), (3, .int p_3), (4, .int p_4)]) hx hb dX12_sooner_207 hl (k := 3) rfl rfl (by decide) rfl (fun ls hl => ?_)
                                        have t_430 : (k114_10 + 1).toInt = k114_10.toInt + 1 := g5_iadd (a := k114_10.toInt) (b := 1) rfl (by decide) (by omega) (by omega)
                                        refine lv_goto (tgt := 114) hx hb dX12_sooner_210 (by decide) ?_
                                        exact ih_114_379 ((k114_10 + 1), z399, ((6 * k91_8) + k114_10), z400, z401, z402, z403, z404, z405, z406, z407, z408, z409, z410, (upd k114_ro ((80 + (5 * k91_8)) + 1).toNatClampNeg k114_10), z411, z412, z413, z414, z415) ls H locs (show Int.toNat (6 - (k114_10 + 1).toInt) < Int.toNat (6 - k114_10.toInt) from g_up (show k114_10.toInt < (k114_10 + 1).toInt by omega) (show k114_10.toInt < 6 by omega)) ⟨lv_sub hl [1, 2, 0, 4, 5, 6, 7, 8, 9, 10, 11] rfl, hP.sub [2, 3, 4, 5, 6, 0, 1] rfl, hD.sub [2, 3, 4, 5, 6, 0, 1] (by decide) rfl, hS, ⟨by omega, by omega⟩, ⟨by omega, by omega⟩, i_391, i_392, i_393, i_394, i_395, i_396, i_397, hmi_388, i_398, fun j hj => by rw [upd_ne (by rw [show ((80 + (5 * k91_8)) + 1).toNatClampNeg = (81 + 5 * k91_8.toInt.toNat) by have zz := g5_clamp ((80 + (5 * k91_8)) + 1); omega]; exact hj)]; exact i_378 j hj⟩
                              ·
                                have i_389 : k114_10.toInt = z365.toInt := by have z := g5_neN (a := k114_10.toInt) (b := z365.toInt) (by rfl) (by rfl) c_389; omega
                                refine lv_iconst (v := (-1)) hx hb dX12_sooner_144 (by decide) ?_
                                refine lv_goto (tgt := 155) hx hb dX12_sooner_145 (by decide) ?_
                                refine lv_istore (lv' := [(11, .int (-1)), (6, .int k114_6), (7, .int k114_7), (10, .int k114_10), (9, .int z365), (8, .int k91_8), (5, .int z237), (0, .ref b_o), (1, .int p_1), (2, .int p_2), (3, .int p_3), (4, .int p_4)]) hx hb dX12_sooner_155 hl (by decide) rfl (fun ls hl => ?_)
                                refine lv_iload hx hb dX12_sooner_157 (lv_at hl 0 rfl) ?_
                                refine lv_iconst (v := (-1)) hx hb dX12_sooner_159 (by decide) ?_
                                refine lv_icmp_eq (tgt := 181) hx hb dX12_sooner_160 (by decide) (fun c_431 => ?_) (fun c_431 => ?_)
                                ·
                                  refine lv_iload hx hb dX12_sooner_181 (lv_at hl 2 rfl) ?_
                                  refine lv_istore (lv' := [(7, .int k114_7), (11, .int (-1)), (6, .int k114_6), (10, .int k114_10), (9, .int z365), (8, .int k91_8), (5, .int z237), (0, .ref b_o), (1, .int p_1), (2, .int p_2), (3, .int p_3), (4, .int p_4)]) hx hb dX12_sooner_183 hl (by decide) rfl (fun ls hl => ?_)
                                  refine lv_iload hx hb dX12_sooner_185 (lv_at hl 1 rfl) ?_
                                  refine lv_iconst (v := (-1)) hx hb dX12_sooner_187 (by decide) ?_
                                  refine lv_icmp_eq (tgt := 203) hx hb dX12_sooner_188 (by decide) (fun c_432 => ?_) (fun c_432 => ?_)
                                  ·
                                    refine lv_iload hx hb dX12_sooner_203 (lv_at hl 2 rfl) ?_
                                    refine lv_istore (lv' := [(6, .int k114_6), (7, .int k114_7), (11, .int (-1)), (10, .int k114_10), (9, .int z365), (8, .int k91_8), (5, .int z237), (0, .ref b_o), (1, .int p_1), (2, .int p_2), (3, .int p_3), (4, .int p_4)]) hx hb dX12_sooner_205 hl (by decide) rfl (fun ls hl => ?_)
                                    refine lv_iinc (v := (k114_10 + 1)) (lv' := [(10, .int (k114_10 + 1)), (6, .int k114_6), (7, .int k114_7), (11, .int (-1)), (9, .int z365), (8, .int k91_8), (5, .int z237), (0, .ref b_o), (1, .int p_1), (2, .int p_2), (3, .int p_3), (4, .int p_4)]) hx hb dX12_sooner_207 hl (k := 3) rfl rfl (by decide) rfl (fun ls hl => ?_)
                                    have t_433 : (k114_10 + 1).toInt = k114_10.toInt + 1 := g5_iadd (a := k114_10.toInt) (b := 1) rfl (by decide) (by omega) (by omega)
                                    refine lv_goto (tgt := 114) hx hb dX12_sooner_210 (by decide) ?_
                                    exact ih_114_379 ((k114_10 + 1), k114_6, k114_7, k114_la, k114_bk, k114_va, k114_su, k114_ce, k114_ho, k114_wy, k114_bt, k114_ps, k114_tg, k114_sn, (upd k114_ro ((80 + (5 * k91_8)) + 1).toNatClampNeg k114_10), k114_se, k114_re, k114_pt, k114_tr, k114_ld) ls H locs (show Int.toNat (6 - (k114_10 + 1).toInt) < Int.toNat (6 - k114_10.toInt) from g_up (show k114_10.toInt < (k114_10 + 1).toInt by omega) (show k114_10.toInt < 6 by omega)) ⟨lv_sub hl [1, 2, 0, 4, 5, 6, 7, 8, 9, 10, 11] rfl, hP, hD, hS, ⟨by omega, by omega⟩, i_368, i_369, i_370, i_371, i_372, i_373, i_374, i_375, hmi_388, i_377, fun j hj => by rw [upd_ne (by rw [show ((80 + (5 * k91_8)) + 1).toNatClampNeg = (81 + 5 * k91_8.toInt.toNat) by have zz := g5_clamp ((80 + (5 * k91_8)) + 1); omega]; exact hj)]; exact i_378 j hj⟩
                                  ·
                                    exact absurd c_432 (by decide)
                                ·
                                  exact absurd c_431 (by decide)
                      ·
                        have n_227 : gNe (z225.toInt) (0) := by have z := g5_eqN (a := z225.toInt) (b := 0) (by rfl) (by decide) c_227; unfold gNe; omega
                        have i_227 : z225.toInt ≥ 1 := by have z := g5_eqN (a := z225.toInt) (b := 0) (by rfl) (by decide) c_227; omega
                        refine lv_iconst (v := (-1)) hx hb dX12_sooner_59 (by decide) ?_
                        exact W.iret (v := (-1)) hx hb hr (fun t ht hW => ⟨⟨(-1), [(b_o, (oc12 0 u_sa b_rf b_ro b_im b_ke u_fd b_tp u_td u_fr u_to u_so u_wo u_fa u_bd u_nc b_nl u_co b_op b_ar u_le b_pi b_pa u_pd u_od b_ws b_hw u_la b_se b_re u_bk u_va u_su u_ce u_ho u_wy u_bt u_ps b_pt u_tg u_sn b_ip u_ic b_ah b_be b_me u_wd b_tr b_ld u_st b_wn u_id)), (b_ro, (arI G 5740 v_ro)), (b_se, (arJ G 13 v_se)), (b_re, (arJ G 400 v_re)), (b_pt, (arI G 200 v_pt)), (b_tr, (arZ G 1536 v_tr)), (b_ld, (arZ G 1536 v_ld))], rfl, ⟨(-1), 0, u_la, u_bk, u_va, u_su, u_ce, u_ho, u_wy, u_bt, u_ps, u_tg, u_sn, v_ro, v_se, v_re, v_pt, v_tr, v_ld, r_ro, h_u_la, h_u_bk, h_u_ce, h_u_ho, h_u_wy, h_u_bt, h_u_ps, r_pt, rfl, rfl, rfl⟩, by rw [ht]; exact hP.sub [5, 6, 0, 1, 2, 3, 4] rfl, hD.sub [5, 6, 0, 1, 2, 3, 4] (by decide) rfl⟩, hS.F ht⟩) hS.2.2 dX12_sooner_60
                    ·
                      exact absurd c_223 (by decide)
          ·
            have hP := g5_same hP hk1
            generalize H1 = H at hP hS ⊢
            refine lv_if_eq (tgt := 59) hx hb dX12_sooner_24 (by decide) (fun c_434 => ?_) (fun c_434 => ?_)
            ·
              refine lv_iconst (v := (-1)) hx hb dX12_sooner_59 (by decide) ?_
              exact W.iret (v := (-1)) hx hb hr (fun t ht hW => ⟨⟨(-1), [(b_o, (oc12 0 u_sa b_rf b_ro b_im b_ke u_fd b_tp u_td u_fr u_to u_so u_wo u_fa u_bd u_nc b_nl u_co b_op b_ar u_le b_pi b_pa u_pd u_od b_ws b_hw u_la b_se b_re u_bk u_va u_su u_ce u_ho u_wy u_bt u_ps b_pt u_tg u_sn b_ip u_ic b_ah b_be b_me u_wd b_tr b_ld u_st b_wn u_id)), (b_ro, (arI G 5740 v_ro)), (b_se, (arJ G 13 v_se)), (b_re, (arJ G 400 v_re)), (b_pt, (arI G 200 v_pt)), (b_tr, (arZ G 1536 v_tr)), (b_ld, (arZ G 1536 v_ld))], rfl, ⟨(-1), 0, u_la, u_bk, u_va, u_su, u_ce, u_ho, u_wy, u_bt, u_ps, u_tg, u_sn, v_ro, v_se, v_re, v_pt, v_tr, v_ld, r_ro, h_u_la, h_u_bk, h_u_ce, h_u_ho, h_u_wy, h_u_bt, h_u_ps, r_pt, rfl, rfl, rfl⟩, by rw [ht]; exact hP.sub [5, 6, 0, 1, 2, 3, 4] rfl, hD.sub [5, 6, 0, 1, 2, 3, 4] (by decide) rfl⟩, hS.F ht⟩) hS.2.2 dX12_sooner_60
            ·
              exact absurd c_434 (by decide)
      ·
        have hP := g5_same hP hk1
        generalize H1 = H at hP hS ⊢
        refine lv_if_eq (tgt := 59) hx hb dX12_sooner_17 (by decide) (fun c_435 => ?_) (fun c_435 => ?_)
        ·
          refine lv_iconst (v := (-1)) hx hb dX12_sooner_59 (by decide) ?_
          exact W.iret (v := (-1)) hx hb hr (fun t ht hW => ⟨⟨(-1), [(b_o, (oc12 0 u_sa b_rf b_ro b_im b_ke u_fd b_tp u_td u_fr u_to u_so u_wo u_fa u_bd u_nc b_nl u_co b_op b_ar u_le b_pi b_pa u_pd u_od b_ws b_hw u_la b_se b_re u_bk u_va u_su u_ce u_ho u_wy u_bt u_ps b_pt u_tg u_sn b_ip u_ic b_ah b_be b_me u_wd b_tr b_ld u_st b_wn u_id)), (b_ro, (arI G 5740 v_ro)), (b_se, (arJ G 13 v_se)), (b_re, (arJ G 400 v_re)), (b_pt, (arI G 200 v_pt)), (b_tr, (arZ G 1536 v_tr)), (b_ld, (arZ G 1536 v_ld))], rfl, ⟨(-1), 0, u_la, u_bk, u_va, u_su, u_ce, u_ho, u_wy, u_bt, u_ps, u_tg, u_sn, v_ro, v_se, v_re, v_pt, v_tr, v_ld, r_ro, h_u_la, h_u_bk, h_u_ce, h_u_ho, h_u_wy, h_u_bt, h_u_ps, r_pt, rfl, rfl, rfl⟩, by rw [ht]; exact hP.sub [5, 6, 0, 1, 2, 3, 4] rfl, hD.sub [5, 6, 0, 1, 2, 3, 4] (by decide) rfl⟩, hS.F ht⟩) hS.2.2 dX12_sooner_60
        ·
          exact absurd c_435 (by decide)
  ·
    obtain ⟨hP, hD⟩ := va_join (wr := [(b_se, (arJ G 13 v_se)), (b_re, (arJ G 400 v_re)), (b_pt, (arI G 200 v_pt)), (b_tr, (arZ G 1536 v_tr)), (b_ld, (arZ G 1536 v_ld))]) hP hD [0, 1] [2, 3, 4, 5, 6] rfl rfl (by decide) (by decide) hk1 hFc hP1 hD1
    generalize H1 = H at hP hS ⊢
    refine g5_rs [(b_se, (arJ G 13 v_se)), (b_re, (arJ G 400 v_re)), (b_pt, (arI G 200 v_pt)), (b_tr, (arZ G 1536 v_tr)), (b_ld, (arZ G 1536 v_ld)), (b_o, (oc12 0 u_sa b_rf b_ro b_im b_ke u_fd b_tp u_td u_fr u_to u_so u_wo u_fa u_bd u_nc b_nl u_co b_op b_ar u_le b_pi b_pa u_pd u_od b_ws b_hw u_la b_se b_re u_bk u_va u_su u_ce u_ho u_wy u_bt u_ps b_pt u_tg u_sn b_ip u_ic b_ah b_be b_me u_wd b_tr b_ld u_st b_wn u_id)), (b_ro, (arI G 5740 v_ro))] hP hD (fun hP hD => ?_)
    refine lv_if_eq (tgt := 59) hx hb dX12_sooner_10 (by decide) (fun c_436 => ?_) (fun c_436 => ?_)
    ·
      refine lv_iconst (v := (-1)) hx hb dX12_sooner_59 (by decide) ?_
      exact W.iret (v := (-1)) hx hb hr (fun t ht hW => ⟨⟨(-1), [(b_o, (oc12 0 u_sa b_rf b_ro b_im b_ke u_fd b_tp u_td u_fr u_to u_so u_wo u_fa u_bd u_nc b_nl u_co b_op b_ar u_le b_pi b_pa u_pd u_od b_ws b_hw u_la b_se b_re u_bk u_va u_su u_ce u_ho u_wy u_bt u_ps b_pt u_tg u_sn b_ip u_ic b_ah b_be b_me u_wd b_tr b_ld u_st b_wn u_id)), (b_ro, (arI G 5740 v_ro)), (b_se, (arJ G 13 v_se)), (b_re, (arJ G 400 v_re)), (b_pt, (arI G 200 v_pt)), (b_tr, (arZ G 1536 v_tr)), (b_ld, (arZ G 1536 v_ld))], rfl, ⟨(-1), 0, u_la, u_bk, u_va, u_su, u_ce, u_ho, u_wy, u_bt, u_ps, u_tg, u_sn, v_ro, v_se, v_re, v_pt, v_tr, v_ld, r_ro, h_u_la, h_u_bk, h_u_ce, h_u_ho, h_u_wy, h_u_bt, h_u_ps, r_pt, rfl, rfl, rfl⟩, by rw [ht]; exact hP.sub [5, 6, 0, 1, 2, 3, 4] rfl, hD.sub [5, 6, 0, 1, 2, 3, 4] (by decide) rfl⟩, hS.F ht⟩) hS.2.2 dX12_sooner_60
    ·
      exact absurd c_436 (by decide)
