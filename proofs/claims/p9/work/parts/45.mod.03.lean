set_option maxHeartbeats 4000000 in
set_option maxRecDepth 100000 in
theorem n_lit (l : Launch) (G : g5_G) (b_o b_ro b_se b_re b_pt b_ip b_rf b_im b_ke b_tp b_nl b_op b_ar b_pi b_pa b_ws b_hw b_ah b_be b_me b_tr b_ld b_wn : Nat) (sz : Nat) (u_th : Int32) (u_sa : Int32) (u_fd : Int32) (u_td : Int32) (u_fr : Int32) (u_to : Int32) (u_so : Int32) (u_fa : Int32) (u_bd : Int32) (u_nc : Int32) (u_co : Int32) (u_le : Int32) (u_pd : Int32) (u_od : Int32) (u_la : Int32) (u_bk : Int32) (u_ce : Int32) (u_ho : Int32) (u_wy : Int32) (u_bt : Int32) (u_ps : Int32) (u_tg : Int32) (u_sn : Int32) (u_ic : Int32) (u_wd : Int32) (u_id : Int32) (p_1 : Int32) (p_2 : Int32) (p_3 : Int32) (u_wo : Int64) (u_va : Int64) (u_su : Int64) (u_st : Int64) (v_ro : Nat → Int32) (v_se : Nat → Int64) (v_re : Nat → Int64) (v_pt : Nat → Int32) (v_ip : Nat → Int32) (h_u_td : 0 ≤ u_td.toInt ∧ u_td.toInt ≤ 400) (h_u_fr : 0 ≤ u_fr.toInt ∧ u_fr.toInt ≤ 400) (h_u_to : 0 ≤ u_to.toInt ∧ u_to.toInt ≤ 400) (h_u_bd : 0 ≤ u_bd.toInt ∧ u_bd.toInt ≤ 1) (h_u_nc : 0 ≤ u_nc.toInt ∧ u_nc.toInt ≤ 12) (h_u_co : 0 ≤ u_co.toInt ∧ u_co.toInt ≤ 400) (h_u_pd : 0 ≤ u_pd.toInt ∧ u_pd.toInt ≤ 400) (h_u_la : 0 ≤ u_la.toInt ∧ u_la.toInt ≤ 4840) (h_u_bk : 0 ≤ u_bk.toInt ∧ u_bk.toInt ≤ 1) (h_u_ce : 0 ≤ u_ce.toInt ∧ u_ce.toInt ≤ 63) (h_u_ho : 0 ≤ u_ho.toInt ∧ u_ho.toInt ≤ 23) (h_u_wy : 0 ≤ u_wy.toInt ∧ u_wy.toInt ≤ 3) (h_u_bt : 0 ≤ u_bt.toInt ∧ u_bt.toInt ≤ 1000000) (h_u_ps : 0 ≤ u_ps.toInt ∧ u_ps.toInt ≤ 200) (h_u_ic : 0 ≤ u_ic.toInt ∧ u_ic.toInt ≤ 1) (h_u_id : 0 ≤ u_id.toInt ∧ u_id.toInt ≤ 1) (r_ro : MI v_ro) (r_pt : PTI v_pt) : Met l yX12_lit (wsG yX12_lit cX12_lit 8 (some .int)) ({ frames := 8, cells := 0, slots := 0, locals := 200 }) (va_Pc [.ref b_o, .int p_1, .int p_2, .int p_3] (g5_P G [(b_o, (oc12 u_th u_sa b_rf b_ro b_im b_ke u_fd b_tp u_td u_fr u_to u_so u_wo u_fa u_bd u_nc b_nl u_co b_op b_ar u_le b_pi b_pa u_pd u_od b_ws b_hw u_la b_se b_re u_bk u_va u_su u_ce u_ho u_wy u_bt u_ps b_pt u_tg u_sn b_ip u_ic b_ah b_be b_me u_wd b_tr b_ld u_st b_wn u_id)), (b_ro, (arI G 5740 v_ro)), (b_se, (arJ G 13 v_se)), (b_re, (arJ G 400 v_re)), (b_pt, (arI G 200 v_pt)), (b_ip, (arZ G 1536 v_ip))] sz)) (va_Qi (fun (r : Int32) (u : va_W) => (∃ (o_r : Int32) (o_th : Int32) (o_la : Int32) (o_bk : Int32) (o_va : Int64) (o_su : Int64) (o_ce : Int32) (o_ho : Int32) (o_wy : Int32) (o_bt : Int32) (o_ps : Int32) (o_tg : Int32) (o_sn : Int32) (o_se : Nat → Int64) (o_re : Nat → Int64) (o_pt : Nat → Int32) (o_ip : Nat → Int32), (0 ≤ o_la.toInt ∧ o_la.toInt ≤ 4840) ∧ (0 ≤ o_bk.toInt ∧ o_bk.toInt ≤ 1) ∧ (0 ≤ o_ce.toInt ∧ o_ce.toInt ≤ 63) ∧ (0 ≤ o_ho.toInt ∧ o_ho.toInt ≤ 23) ∧ (0 ≤ o_wy.toInt ∧ o_wy.toInt ≤ 3) ∧ (0 ≤ o_bt.toInt ∧ o_bt.toInt ≤ 1000000) ∧ (0 ≤ o_ps.toInt ∧ o_ps.toInt ≤ 200) ∧ (PTI o_pt) ∧ (r = o_r) ∧ (u = [(b_o, (oc12 o_th u_sa b_rf b_ro b_im b_ke u_fd b_tp u_td u_fr u_to u_so u_wo u_fa u_bd u_nc b_nl u_co b_op b_ar u_le b_pi b_pa u_pd u_od b_ws b_hw o_la b_se b_re o_bk o_va o_su o_ce o_ho o_wy o_bt o_ps b_pt o_tg o_sn b_ip u_ic b_ah b_be b_me u_wd b_tr b_ld u_st b_wn u_id)), (b_ro, (arI G 5740 v_ro)), (b_se, (arJ G 13 o_se)), (b_re, (arJ G 400 o_re)), (b_pt, (arI G 200 o_pt)), (b_ip, (arZ G 1536 o_ip))]))) (g5_B G (va_A [(b_o, (oc12 u_th u_sa b_rf b_ro b_im b_ke u_fd b_tp u_td u_fr u_to u_so u_wo u_fa u_bd u_nc b_nl u_co b_op b_ar u_le b_pi b_pa u_pd u_od b_ws b_hw u_la b_se b_re u_bk u_va u_su u_ce u_ho u_wy u_bt u_ps b_pt u_tg u_sn b_ip u_ic b_ah b_be b_me u_wd b_tr b_ld u_st b_wn u_id)), (b_ro, (arI G 5740 v_ro)), (b_se, (arJ G 13 v_se)), (b_re, (arJ G 400 v_re)), (b_pt, (arI G 200 v_pt)), (b_ip, (arZ G 1536 v_ip))] sz)) (va_A [(b_o, (oc12 u_th u_sa b_rf b_ro b_im b_ke u_fd b_tp u_td u_fr u_to u_so u_wo u_fa u_bd u_nc b_nl u_co b_op b_ar u_le b_pi b_pa u_pd u_od b_ws b_hw u_la b_se b_re u_bk u_va u_su u_ce u_ho u_wy u_bt u_ps b_pt u_tg u_sn b_ip u_ic b_ah b_be b_me u_wd b_tr b_ld u_st b_wn u_id)), (b_ro, (arI G 5740 v_ro)), (b_se, (arJ G 13 v_se)), (b_re, (arJ G 400 v_re)), (b_pt, (arI G 200 v_pt)), (b_ip, (arZ G 1536 v_ip))] sz)) 0 0 (va_A [(b_o, (oc12 u_th u_sa b_rf b_ro b_im b_ke u_fd b_tp u_td u_fr u_to u_so u_wo u_fa u_bd u_nc b_nl u_co b_op b_ar u_le b_pi b_pa u_pd u_od b_ws b_hw u_la b_se b_re u_bk u_va u_su u_ce u_ho u_wy u_bt u_ps b_pt u_tg u_sn b_ip u_ic b_ah b_be b_me u_wd b_tr b_ld u_st b_wn u_id)), (b_ro, (arI G 5740 v_ro)), (b_se, (arJ G 13 v_se)), (b_re, (arJ G 400 v_re)), (b_pt, (arI G 200 v_pt)), (b_ip, (arZ G 1536 v_ip))] sz) := by
  refine Met.ofW (cc := cX12_lit) (maxL := 8) (ret := (some .int)) (by decide) rfl ?_
  intro p e s m args below meth c s₁ B hml hv
  obtain ⟨rfl, hsz, hP, hK, hD0, hN, hT⟩ := hv
  have hx := B.exec
  have hb := B.bytes
  have hr := B.returns
  have hts : ∀ w ∈ tblG, w.before _ s = true := fun w h => atoms_spec (ws := (wsG yX12_lit cX12_lit 8 (some .int))) B.pre w (List.mem_cons_of_mem _ h)
  have hown : s.vm.findClass RX12 = some m.cls := findClass_of_methodNamed B.named
  have hlocks := B.notSynchronized
  subst hsz
  have hD := hD0.self (sz := s.heap.size)
  generalize hAe : va_A [(b_o, (oc12 u_th u_sa b_rf b_ro b_im b_ke u_fd b_tp u_td u_fr u_to u_so u_wo u_fa u_bd u_nc b_nl u_co b_op b_ar u_le b_pi b_pa u_pd u_od b_ws b_hw u_la b_se b_re u_bk u_va u_su u_ce u_ho u_wy u_bt u_ps b_pt u_tg u_sn b_ip u_ic b_ah b_be b_me u_wd b_tr b_ld u_st b_wn u_id)), (b_ro, (arI G 5740 v_ro)), (b_se, (arJ G 13 v_se)), (b_re, (arJ G 400 v_re)), (b_pt, (arI G 200 v_pt)), (b_ip, (arZ G 1536 v_ip))] s.heap.size = A at hD hT ⊢
  have hA : ∀ q : Nat, s.heap.size ≤ q → A q := fun q h => by rw [← hAe]; exact Or.inr h
  have hS : va_S A s.heap s.heap [] := va_S.rf
  have hP : va_P G.1 vwCl [(b_o, (oc12 u_th u_sa b_rf b_ro b_im b_ke u_fd b_tp u_td u_fr u_to u_so u_wo u_fa u_bd u_nc b_nl u_co b_op b_ar u_le b_pi b_pa u_pd u_od b_ws b_hw u_la b_se b_re u_bk u_va u_su u_ce u_ho u_wy u_bt u_ps b_pt u_tg u_sn b_ip u_ic b_ah b_be b_me u_wd b_tr b_ld u_st b_wn u_id)), (b_ro, (arI G 5740 v_ro)), (b_se, (arJ G 13 v_se)), (b_re, (arJ G 400 v_re)), (b_pt, (arI G 200 v_pt)), (b_ip, (arZ G 1536 v_ip))] s.heap := hP
  have hl := lv_entry ([.ref b_o, .int p_1, .int p_2, .int p_3]) (n := 8) (Nat.le_of_ble_eq_true rfl)
  rw [lg_entry_eq]
  generalize (lg_sl ([.ref b_o, .int p_1, .int p_2, .int p_3]) ++ List.replicate (8 - (lg_sl ([.ref b_o, .int p_1, .int p_2, .int p_3])).length) Slot.unset).toArray = ls at hl ⊢
  have hl : lv_has ls 8 [(0, .ref b_o), (1, .int p_1), (2, .int p_2), (3, .int p_3)] := hl
  refine lv_aload_n hx hb dX12_lit_0 rfl (lv_at hl 0 rfl) ?_
  refine lv_iconst (v := 0) hx hb dX12_lit_1 (by decide) ?_
  refine va_put (D := G.1) (ci := 12) (v := .int 0) (ty := .int) (C := RX12) (T := TX12) (N := 52) hx hb hts inG_X12 tyX12 tyX12_ok nmX12 hown hK hP hD hS 0 rfl rfl 0 (by decide) (hts _ fl_X12_107) (fun _ h9 => h9) rfl (by decide +kernel) rfl rfl (Nat.le_of_ble_eq_true rfl) dX12_lit_2 (fun H locs hP hD hS => ?_)
  refine g5_rs [(b_o, (oc12 0 u_sa b_rf b_ro b_im b_ke u_fd b_tp u_td u_fr u_to u_so u_wo u_fa u_bd u_nc b_nl u_co b_op b_ar u_le b_pi b_pa u_pd u_od b_ws b_hw u_la b_se b_re u_bk u_va u_su u_ce u_ho u_wy u_bt u_ps b_pt u_tg u_sn b_ip u_ic b_ah b_be b_me u_wd b_tr b_ld u_st b_wn u_id)), (b_ro, (arI G 5740 v_ro)), (b_se, (arJ G 13 v_se)), (b_re, (arJ G 400 v_re)), (b_pt, (arI G 200 v_pt)), (b_ip, (arZ G 1536 v_ip))] hP hD (fun hP hD => ?_)
  refine lv_iload_n hx hb dX12_lit_5 rfl (lv_at hl 1 rfl) ?_
  obtain ⟨hPc, hDc, hFc⟩ := g5_sub3 (wc := []) hP hD hS hA [] (by decide) rfl
  refine va_calli (va_runS (As := [.int p_1]) (rest := []) ⟨hx, hb, hml, hown, hts⟩ (n_isCell l G H.size p_1) (va_cwS 1 hts gS_X12_138 rfl rfl rfl hs_X12_isCell ⟨Nat.le_of_ble_eq_true rfl, Nat.le_of_ble_eq_true rfl⟩) (g5_preS hPc hK hDc hN hT hS hFc) rfl rfl hl.1 rfl (lv_room (Nat.le_of_ble_eq_true rfl)) dX12_lit_6 ⟨Nat.le_of_ble_eq_true rfl, Nat.le_of_ble_eq_true rfl⟩) hS (fun q _ h => hFc q h) hFc (fun r u t H1 locs ht hvm hw hB hz1 hk1 hS => ?_)
  obtain ⟨hP1, hD1⟩ := hB
  rw [ht] at hP1
  rcases hw with ⟨i_1, rfl, rfl⟩ | ⟨rfl, rfl⟩
  ·
    have i_1 : 0 ≤ p_1.toInt ∧ p_1.toInt ≤ 63 := i_1
    have hP := g5_same hP hk1
    generalize H1 = H at hP hS ⊢
    refine lv_if_eq (tgt := 33) hx hb dX12_lit_9 (by decide) (fun c_2 => ?_) (fun c_2 => ?_)
    ·
      exact absurd c_2 (by decide)
    ·
      refine lv_iload_n hx hb dX12_lit_12 rfl (lv_at hl 2 rfl) ?_
      obtain ⟨hPc, hDc, hFc⟩ := g5_sub3 (wc := []) hP hD hS hA [] (by decide) rfl
      refine va_calli (va_runS (As := [.int p_2]) (rest := []) ⟨hx, hb, hml, hown, hts⟩ (n_isHour l G H.size p_2) (va_cwS 1 hts gS_X12_175 rfl rfl rfl hs_X12_isHour ⟨Nat.le_of_ble_eq_true rfl, Nat.le_of_ble_eq_true rfl⟩) (g5_preS hPc hK hDc hN hT hS hFc) rfl rfl hl.1 rfl (lv_room (Nat.le_of_ble_eq_true rfl)) dX12_lit_13 ⟨Nat.le_of_ble_eq_true rfl, Nat.le_of_ble_eq_true rfl⟩) hS (fun q _ h => hFc q h) hFc (fun r u t H1 locs ht hvm hw hB hz1 hk1 hS => ?_)
      obtain ⟨hP1, hD1⟩ := hB
      rw [ht] at hP1
      rcases hw with ⟨i_3, rfl, rfl⟩ | ⟨rfl, rfl⟩
      ·
        have i_3 : 0 ≤ p_2.toInt ∧ p_2.toInt ≤ 23 := i_3
        have hP := g5_same hP hk1
        generalize H1 = H at hP hS ⊢
        refine lv_if_eq (tgt := 33) hx hb dX12_lit_16 (by decide) (fun c_4 => ?_) (fun c_4 => ?_)
        ·
          exact absurd c_4 (by decide)
        ·
          refine lv_iload_n hx hb dX12_lit_19 rfl (lv_at hl 3 rfl) ?_
          refine lv_i2l (v := p_3.toInt64) hx hb dX12_lit_20 rfl ?_
          refine lv_ldc2 (v := (-1)) hx hb hown (hts _ kl_X12_178) dX12_lit_21 ?_
          refine lv_ldc2 (v := 63) hx hb hown (hts _ kl_X12_128) dX12_lit_24 ?_
          obtain ⟨hPc, hDc, hFc⟩ := g5_sub3 (wc := []) hP hD hS hA [] (by decide) rfl
          refine va_calli (va_runS (As := [.long p_3.toInt64, .long (-1), .long 63]) (rest := []) ⟨hx, hb, hml, hown, hts⟩ (n_in_m1_63 l G H.size p_3) (va_cwS 3 hts gS_X12_121 rfl rfl rfl hs_X12_in ⟨Nat.le_of_ble_eq_true rfl, Nat.le_of_ble_eq_true rfl⟩) (g5_preS hPc hK hDc hN hT hS hFc) rfl rfl hl.1 rfl (lv_room (Nat.le_of_ble_eq_true rfl)) dX12_lit_27 ⟨Nat.le_of_ble_eq_true rfl, Nat.le_of_ble_eq_true rfl⟩) hS (fun q _ h => hFc q h) hFc (fun r u t H1 locs ht hvm hw hB hz1 hk1 hS => ?_)
          obtain ⟨hP1, hD1⟩ := hB
          rw [ht] at hP1
          rcases hw with ⟨i_5, rfl, rfl⟩ | ⟨i_6, rfl, rfl⟩
          ·
            have i_5 : p_3.toInt < (-1) ∨ 63 < p_3.toInt := i_5
            have hP := g5_same hP hk1
            generalize H1 = H at hP hS ⊢
            refine lv_if_ne (tgt := 35) hx hb dX12_lit_30 (by decide) (fun c_7 => ?_) (fun c_7 => ?_)
            ·
              exact absurd c_7 (by decide)
            ·
              refine lv_iconst (v := (-1)) hx hb dX12_lit_33 (by decide) ?_
              exact W.iret (v := (-1)) hx hb hr (fun t ht hW => ⟨⟨(-1), [(b_o, (oc12 0 u_sa b_rf b_ro b_im b_ke u_fd b_tp u_td u_fr u_to u_so u_wo u_fa u_bd u_nc b_nl u_co b_op b_ar u_le b_pi b_pa u_pd u_od b_ws b_hw u_la b_se b_re u_bk u_va u_su u_ce u_ho u_wy u_bt u_ps b_pt u_tg u_sn b_ip u_ic b_ah b_be b_me u_wd b_tr b_ld u_st b_wn u_id)), (b_ro, (arI G 5740 v_ro)), (b_se, (arJ G 13 v_se)), (b_re, (arJ G 400 v_re)), (b_pt, (arI G 200 v_pt)), (b_ip, (arZ G 1536 v_ip))], rfl, ⟨(-1), 0, u_la, u_bk, u_va, u_su, u_ce, u_ho, u_wy, u_bt, u_ps, u_tg, u_sn, v_se, v_re, v_pt, v_ip, h_u_la, h_u_bk, h_u_ce, h_u_ho, h_u_wy, h_u_bt, h_u_ps, r_pt, rfl, rfl⟩, by rw [ht]; exact hP.sub [0, 1, 2, 3, 4, 5] rfl, hD.sub [0, 1, 2, 3, 4, 5] (by decide) rfl⟩, hS.F ht⟩) hS.2.2 dX12_lit_34
          ·
            have i_6 : (-1) ≤ p_3.toInt ∧ p_3.toInt ≤ 63 := i_6
            have hP := g5_same hP hk1
            generalize H1 = H at hP hS ⊢
            refine lv_if_ne (tgt := 35) hx hb dX12_lit_30 (by decide) (fun c_8 => ?_) (fun c_8 => ?_)
            ·
              refine lv_aload_n hx hb dX12_lit_35 rfl (lv_at hl 0 rfl) ?_
              obtain ⟨hPc, hDc, hFc⟩ := g5_sub3 (wc := [(b_o, (oc12 0 u_sa b_rf b_ro b_im b_ke u_fd b_tp u_td u_fr u_to u_so u_wo u_fa u_bd u_nc b_nl u_co b_op b_ar u_le b_pi b_pa u_pd u_od b_ws b_hw u_la b_se b_re u_bk u_va u_su u_ce u_ho u_wy u_bt u_ps b_pt u_tg u_sn b_ip u_ic b_ah b_be b_me u_wd b_tr b_ld u_st b_wn u_id)), (b_ip, (arZ G 1536 v_ip))]) hP hD hS hA [0, 5] (by decide) rfl
              refine va_callv (va_runV (As := []) (rest := []) ⟨hx, hb, hml, hown, hts⟩ (n_clearPoints l G b_o b_ip b_rf b_ro b_im b_ke b_tp b_nl b_op b_ar b_pi b_pa b_ws b_hw b_se b_re b_pt b_ah b_be b_me b_tr b_ld b_wn H.size 0 u_sa u_fd u_td u_fr u_to u_so u_fa u_bd u_nc u_co u_le u_pd u_od u_la u_bk u_ce u_ho u_wy u_bt u_ps u_tg u_sn u_ic u_wd u_id u_wo u_va u_su u_st v_ip h_u_td h_u_fr h_u_to h_u_bd h_u_nc h_u_co h_u_pd h_u_la h_u_bk h_u_ce h_u_ho h_u_wy h_u_bt h_u_ps h_u_ic h_u_id) (cwV 0 hts gV_X12_413 rfl rfl rfl hv_X12_clearPoints ⟨Nat.le_of_ble_eq_true rfl, Nat.le_of_ble_eq_true rfl⟩) (g5_preV hPc hK hDc hN hT hS hFc (ci := 12) (q0 := 0) rfl rfl) rfl rfl hl.1 rfl (lv_room (Nat.le_of_ble_eq_true rfl)) dX12_lit_36 ⟨Nat.le_of_ble_eq_true rfl, Nat.le_of_ble_eq_true rfl⟩) hS (fun q _ h => hFc q h) hFc (fun u t H1 locs ht hvm hw hB hz1 hk1 hS => ?_)
              obtain ⟨hP1, hD1⟩ := hB
              rw [ht] at hP1
              obtain ⟨z9, rfl⟩ := hw
              obtain ⟨hP, hD⟩ := va_join (wr := [(b_ro, (arI G 5740 v_ro)), (b_se, (arJ G 13 v_se)), (b_re, (arJ G 400 v_re)), (b_pt, (arI G 200 v_pt))]) hP hD [0, 5] [1, 2, 3, 4] rfl rfl (by decide) (by decide) hk1 hFc hP1 hD1
              generalize H1 = H at hP hS ⊢
              refine g5_rs [(b_ro, (arI G 5740 v_ro)), (b_se, (arJ G 13 v_se)), (b_re, (arJ G 400 v_re)), (b_pt, (arI G 200 v_pt)), (b_o, (oc12 0 u_sa b_rf b_ro b_im b_ke u_fd b_tp u_td u_fr u_to u_so u_wo u_fa u_bd u_nc b_nl u_co b_op b_ar u_le b_pi b_pa u_pd u_od b_ws b_hw u_la b_se b_re u_bk u_va u_su u_ce u_ho u_wy u_bt u_ps b_pt u_tg u_sn b_ip u_ic b_ah b_be b_me u_wd b_tr b_ld u_st b_wn u_id)), (b_ip, (arZ G 1536 z9))] hP hD (fun hP hD => ?_)
              refine lv_aload_n hx hb dX12_lit_39 rfl (lv_at hl 0 rfl) ?_
              refine lv_iload_n hx hb dX12_lit_40 rfl (lv_at hl 1 rfl) ?_
              refine lv_iload_n hx hb dX12_lit_41 rfl (lv_at hl 2 rfl) ?_
              obtain ⟨hPc, hDc, hFc⟩ := g5_sub3 (wc := [(b_o, (oc12 0 u_sa b_rf b_ro b_im b_ke u_fd b_tp u_td u_fr u_to u_so u_wo u_fa u_bd u_nc b_nl u_co b_op b_ar u_le b_pi b_pa u_pd u_od b_ws b_hw u_la b_se b_re u_bk u_va u_su u_ce u_ho u_wy u_bt u_ps b_pt u_tg u_sn b_ip u_ic b_ah b_be b_me u_wd b_tr b_ld u_st b_wn u_id)), (b_ro, (arI G 5740 v_ro)), (b_se, (arJ G 13 v_se)), (b_re, (arJ G 400 v_re)), (b_pt, (arI G 200 v_pt)), (b_ip, (arZ G 1536 z9))]) hP hD hS hA [4, 0, 1, 2, 3, 5] (by decide) rfl
              refine va_callv (va_runV (As := [.int p_1, .int p_2]) (rest := []) ⟨hx, hb, hml, hown, hts⟩ (n_mark l G b_o b_ro b_se b_re b_pt b_ip b_rf b_im b_ke b_tp b_nl b_op b_ar b_pi b_pa b_ws b_hw b_ah b_be b_me b_tr b_ld b_wn H.size 0 u_sa u_fd u_td u_fr u_to u_so u_fa u_bd u_nc u_co u_le u_pd u_od u_la u_bk u_ce u_ho u_wy u_bt u_ps u_tg u_sn u_ic u_wd u_id p_1 p_2 u_wo u_va u_su u_st v_ro v_se v_re v_pt z9 h_u_td h_u_fr h_u_to h_u_bd h_u_nc h_u_co h_u_pd h_u_la h_u_bk h_u_ce h_u_ho h_u_wy h_u_bt h_u_ps h_u_ic h_u_id i_1 i_3 (r_ro) (r_pt)) (cwV 2 hts gV_X12_416 rfl rfl rfl hv_X12_mark ⟨Nat.le_of_ble_eq_true rfl, Nat.le_of_ble_eq_true rfl⟩) (g5_preV hPc hK hDc hN hT hS hFc (ci := 12) (q0 := 0) rfl rfl) rfl rfl hl.1 rfl (lv_room (Nat.le_of_ble_eq_true rfl)) dX12_lit_42 ⟨Nat.le_of_ble_eq_true rfl, Nat.le_of_ble_eq_true rfl⟩) hS (fun q _ h => hFc q h) hFc (fun u t H1 locs ht hvm hw hB hz1 hk1 hS => ?_)
              obtain ⟨hP1, hD1⟩ := hB
              rw [ht] at hP1
              obtain ⟨z18, z19, z20, z21, z22, z23, z24, z25, z26, z27, z28, z29, z30, z31, z32, i_10, i_11, i_12, i_13, i_14, i_15, i_16, i_17, rfl⟩ := hw
              have i_10 : 0 ≤ z18.toInt ∧ z18.toInt ≤ 4840 := i_10
              have i_11 : 0 ≤ z19.toInt ∧ z19.toInt ≤ 1 := i_11
              have i_12 : 0 ≤ z22.toInt ∧ z22.toInt ≤ 63 := i_12
              have i_13 : 0 ≤ z23.toInt ∧ z23.toInt ≤ 23 := i_13
              have i_14 : 0 ≤ z24.toInt ∧ z24.toInt ≤ 3 := i_14
              have i_15 : 0 ≤ z25.toInt ∧ z25.toInt ≤ 1000000 := i_15
              have i_16 : 0 ≤ z26.toInt ∧ z26.toInt ≤ 200 := i_16
              have i_17 : PTI z31 := i_17
              obtain ⟨hP, hD⟩ := va_join (wr := []) hP hD [4, 0, 1, 2, 3, 5] [] rfl rfl (by decide) (by decide) hk1 hFc hP1 hD1
              generalize H1 = H at hP hS ⊢
              refine g5_rs [(b_o, (oc12 0 u_sa b_rf b_ro b_im b_ke u_fd b_tp u_td u_fr u_to u_so u_wo u_fa u_bd u_nc b_nl u_co b_op b_ar u_le b_pi b_pa u_pd u_od b_ws b_hw z18 b_se b_re z19 z20 z21 z22 z23 z24 z25 z26 b_pt z27 z28 b_ip u_ic b_ah b_be b_me u_wd b_tr b_ld u_st b_wn u_id)), (b_ro, (arI G 5740 v_ro)), (b_se, (arJ G 13 z29)), (b_re, (arJ G 400 z30)), (b_pt, (arI G 200 z31)), (b_ip, (arZ G 1536 z32))] hP hD (fun hP hD => ?_)
              refine lv_iconst (v := 0) hx hb dX12_lit_45 (by decide) ?_
              refine lv_istore (lv' := [(4, .int 0), (0, .ref b_o), (1, .int p_1), (2, .int p_2), (3, .int p_3)]) hx hb dX12_lit_46 hl (by decide) rfl (fun ls hl => ?_)
              refine lv_iconst (v := 0) hx hb dX12_lit_48 (by decide) ?_
              refine lv_istore (lv' := [(5, .int 0), (4, .int 0), (0, .ref b_o), (1, .int p_1), (2, .int p_2), (3, .int p_3)]) hx hb dX12_lit_49 hl (by decide) rfl (fun ls hl => ?_)
              refine g5_loop (α := (Int32) × (Int32)) (fun (q : (Int32) × (Int32)) (ls : Array Slot) (H : Heap) (locs : List Loc) => match q with | (k51_5, k51_4) => lv_has ls 8 [(4, .int k51_4), (5, .int k51_5), (0, .ref b_o), (1, .int p_1), (2, .int p_2), (3, .int p_3)] ∧ va_P G.1 vwCl [(b_o, (oc12 0 u_sa b_rf b_ro b_im b_ke u_fd b_tp u_td u_fr u_to u_so u_wo u_fa u_bd u_nc b_nl u_co b_op b_ar u_le b_pi b_pa u_pd u_od b_ws b_hw z18 b_se b_re z19 z20 z21 z22 z23 z24 z25 z26 b_pt z27 z28 b_ip u_ic b_ah b_be b_me u_wd b_tr b_ld u_st b_wn u_id)), (b_ro, (arI G 5740 v_ro)), (b_se, (arJ G 13 z29)), (b_re, (arJ G 400 z30)), (b_pt, (arI G 200 z31)), (b_ip, (arZ G 1536 z32))] H ∧ va_D A [(b_o, (oc12 0 u_sa b_rf b_ro b_im b_ke u_fd b_tp u_td u_fr u_to u_so u_wo u_fa u_bd u_nc b_nl u_co b_op b_ar u_le b_pi b_pa u_pd u_od b_ws b_hw z18 b_se b_re z19 z20 z21 z22 z23 z24 z25 z26 b_pt z27 z28 b_ip u_ic b_ah b_be b_me u_wd b_tr b_ld u_st b_wn u_id)), (b_ro, (arI G 5740 v_ro)), (b_se, (arJ G 13 z29)), (b_re, (arJ G 400 z30)), (b_pt, (arI G 200 z31)), (b_ip, (arZ G 1536 z32))] ∧ va_S A s.heap H locs ∧ (0 ≤ k51_5.toInt ∧ k51_5.toInt ≤ 64)) (fun (q : (Int32) × (Int32)) => match q with | (k51_5, k51_4) => Int.toNat (64 - k51_5.toInt)) (0, 0) ⟨lv_sub hl [1, 0, 2, 3, 4, 5] rfl, hP, hD, hS, ⟨by decide, by decide⟩⟩ ?_
              rintro ⟨k51_5, k51_4⟩ ls H locs ⟨hl, hP, hD, hS, i_33⟩ ih_51_34
              have hl : lv_has ls 8 [(4, .int k51_4), (5, .int k51_5), (0, .ref b_o), (1, .int p_1), (2, .int p_2), (3, .int p_3)] := hl
              have i_33 : 0 ≤ k51_5.toInt ∧ k51_5.toInt ≤ 64 := i_33
              refine g5_rs [(b_o, (oc12 0 u_sa b_rf b_ro b_im b_ke u_fd b_tp u_td u_fr u_to u_so u_wo u_fa u_bd u_nc b_nl u_co b_op b_ar u_le b_pi b_pa u_pd u_od b_ws b_hw z18 b_se b_re z19 z20 z21 z22 z23 z24 z25 z26 b_pt z27 z28 b_ip u_ic b_ah b_be b_me u_wd b_tr b_ld u_st b_wn u_id)), (b_ro, (arI G 5740 v_ro)), (b_se, (arJ G 13 z29)), (b_re, (arJ G 400 z30)), (b_pt, (arI G 200 z31)), (b_ip, (arZ G 1536 z32))] hP hD (fun hP hD => ?_)
              refine lv_iload hx hb dX12_lit_51 (lv_at hl 1 rfl) ?_
              refine lv_bipush (v := 64) hx hb dX12_lit_53 (by decide) ?_
              refine lv_icmp_ge (tgt := 137) hx hb dX12_lit_55 (by decide) (fun c_35 => ?_) (fun c_35 => ?_)
              ·
                have i_35 : k51_5.toInt ≥ 64 := by have z := g5_ge (a := k51_5.toInt) (b := 64) (by rfl) (by decide) c_35; omega
                refine lv_iload hx hb dX12_lit_137 (lv_at hl 0 rfl) ?_
                exact W.iret (v := k51_4) hx hb hr (fun t ht hW => ⟨⟨k51_4, [(b_o, (oc12 0 u_sa b_rf b_ro b_im b_ke u_fd b_tp u_td u_fr u_to u_so u_wo u_fa u_bd u_nc b_nl u_co b_op b_ar u_le b_pi b_pa u_pd u_od b_ws b_hw z18 b_se b_re z19 z20 z21 z22 z23 z24 z25 z26 b_pt z27 z28 b_ip u_ic b_ah b_be b_me u_wd b_tr b_ld u_st b_wn u_id)), (b_ro, (arI G 5740 v_ro)), (b_se, (arJ G 13 z29)), (b_re, (arJ G 400 z30)), (b_pt, (arI G 200 z31)), (b_ip, (arZ G 1536 z32))], rfl, ⟨k51_4, 0, z18, z19, z20, z21, z22, z23, z24, z25, z26, z27, z28, z29, z30, z31, z32, i_10, i_11, i_12, i_13, i_14, i_15, i_16, i_17, rfl, rfl⟩, by rw [ht]; exact hP.sub [0, 1, 2, 3, 4, 5] rfl, hD.sub [0, 1, 2, 3, 4, 5] (by decide) rfl⟩, hS.F ht⟩) hS.2.2 dX12_lit_139
              ·
                have i_35 : k51_5.toInt < 64 := by have z := g5_geN (a := k51_5.toInt) (b := 64) (by rfl) (by decide) c_35; omega
                refine lv_iconst (v := 0) hx hb dX12_lit_58 (by decide) ?_
                refine lv_istore (lv' := [(6, .int 0), (4, .int k51_4), (5, .int k51_5), (0, .ref b_o), (1, .int p_1), (2, .int p_2), (3, .int p_3)]) hx hb dX12_lit_59 hl (by decide) rfl (fun ls hl => ?_)
                refine lv_iconst (v := 0) hx hb dX12_lit_61 (by decide) ?_
                refine lv_istore (lv' := [(7, .int 0), (6, .int 0), (4, .int k51_4), (5, .int k51_5), (0, .ref b_o), (1, .int p_1), (2, .int p_2), (3, .int p_3)]) hx hb dX12_lit_62 hl (by decide) rfl (fun ls hl => ?_)
                refine g5_loop (α := (Int32) × (Int32)) (fun (q : (Int32) × (Int32)) (ls : Array Slot) (H : Heap) (locs : List Loc) => match q with | (k64_7, k64_6) => lv_has ls 8 [(6, .int k64_6), (7, .int k64_7), (4, .int k51_4), (5, .int k51_5), (0, .ref b_o), (1, .int p_1), (2, .int p_2), (3, .int p_3)] ∧ va_P G.1 vwCl [(b_o, (oc12 0 u_sa b_rf b_ro b_im b_ke u_fd b_tp u_td u_fr u_to u_so u_wo u_fa u_bd u_nc b_nl u_co b_op b_ar u_le b_pi b_pa u_pd u_od b_ws b_hw z18 b_se b_re z19 z20 z21 z22 z23 z24 z25 z26 b_pt z27 z28 b_ip u_ic b_ah b_be b_me u_wd b_tr b_ld u_st b_wn u_id)), (b_ro, (arI G 5740 v_ro)), (b_se, (arJ G 13 z29)), (b_re, (arJ G 400 z30)), (b_pt, (arI G 200 z31)), (b_ip, (arZ G 1536 z32))] H ∧ va_D A [(b_o, (oc12 0 u_sa b_rf b_ro b_im b_ke u_fd b_tp u_td u_fr u_to u_so u_wo u_fa u_bd u_nc b_nl u_co b_op b_ar u_le b_pi b_pa u_pd u_od b_ws b_hw z18 b_se b_re z19 z20 z21 z22 z23 z24 z25 z26 b_pt z27 z28 b_ip u_ic b_ah b_be b_me u_wd b_tr b_ld u_st b_wn u_id)), (b_ro, (arI G 5740 v_ro)), (b_se, (arJ G 13 z29)), (b_re, (arJ G 400 z30)), (b_pt, (arI G 200 z31)), (b_ip, (arZ G 1536 z32))] ∧ va_S A s.heap H locs ∧ (0 ≤ k64_7.toInt ∧ k64_7.toInt ≤ 24) ∧ (0 ≤ k64_6.toInt ∧ k64_6.toInt ≤ 1)) (fun (q : (Int32) × (Int32)) => match q with | (k64_7, k64_6) => Int.toNat (24 - k64_7.toInt)) (0, 0) ⟨lv_sub hl [1, 0, 2, 3, 4, 5, 6, 7] rfl, hP, hD, hS, ⟨by decide, by decide⟩, ⟨by decide, by decide⟩⟩ ?_
                rintro ⟨k64_7, k64_6⟩ ls H locs ⟨hl, hP, hD, hS, i_36, i_37⟩ ih_64_38
                have hl : lv_has ls 8 [(6, .int k64_6), (7, .int k64_7), (4, .int k51_4), (5, .int k51_5), (0, .ref b_o), (1, .int p_1), (2, .int p_2), (3, .int p_3)] := hl
                have i_36 : 0 ≤ k64_7.toInt ∧ k64_7.toInt ≤ 24 := i_36
                have i_37 : 0 ≤ k64_6.toInt ∧ k64_6.toInt ≤ 1 := i_37
                refine g5_rs [(b_o, (oc12 0 u_sa b_rf b_ro b_im b_ke u_fd b_tp u_td u_fr u_to u_so u_wo u_fa u_bd u_nc b_nl u_co b_op b_ar u_le b_pi b_pa u_pd u_od b_ws b_hw z18 b_se b_re z19 z20 z21 z22 z23 z24 z25 z26 b_pt z27 z28 b_ip u_ic b_ah b_be b_me u_wd b_tr b_ld u_st b_wn u_id)), (b_ro, (arI G 5740 v_ro)), (b_se, (arJ G 13 z29)), (b_re, (arJ G 400 z30)), (b_pt, (arI G 200 z31)), (b_ip, (arZ G 1536 z32))] hP hD (fun hP hD => ?_)
                refine lv_iload hx hb dX12_lit_64 (lv_at hl 1 rfl) ?_
                refine lv_bipush (v := 24) hx hb dX12_lit_66 (by decide) ?_
                refine lv_icmp_ge (tgt := 105) hx hb dX12_lit_68 (by decide) (fun c_39 => ?_) (fun c_39 => ?_)
                ·
                  have i_39 : k64_7.toInt ≥ 24 := by have z := g5_ge (a := k64_7.toInt) (b := 24) (by rfl) (by decide) c_39; omega
                  refine lv_iload hx hb dX12_lit_105 (lv_at hl 2 rfl) ?_
                  refine lv_iload hx hb dX12_lit_107 (lv_at hl 0 rfl) ?_
                  refine lv_if_eq (tgt := 127) hx hb dX12_lit_109 (by decide) (fun c_40 => ?_) (fun c_40 => ?_)
                  ·
                    have i_40 : k64_6.toInt = 0 := by have z := g5_eq (a := k64_6.toInt) (b := 0) (by rfl) (by decide) c_40; omega
                    refine lv_iconst (v := 0) hx hb dX12_lit_127 (by decide) ?_
                    refine lv_iadd hx hb dX12_lit_128 ?_
                    refine g5_ti (v := k51_4) (by simp) ?_
                    refine lv_istore (lv' := [(4, .int k51_4), (6, .int k64_6), (7, .int k64_7), (5, .int k51_5), (0, .ref b_o), (1, .int p_1), (2, .int p_2), (3, .int p_3)]) hx hb dX12_lit_129 hl (by decide) rfl (fun ls hl => ?_)
                    refine lv_iinc (v := (k51_5 + 1)) (lv' := [(5, .int (k51_5 + 1)), (4, .int k51_4), (6, .int k64_6), (7, .int k64_7), (0, .ref b_o), (1, .int p_1), (2, .int p_2), (3, .int p_3)]) hx hb dX12_lit_131 hl (k := 3) rfl rfl (by decide) rfl (fun ls hl => ?_)
                    have t_41 : (k51_5 + 1).toInt = k51_5.toInt + 1 := g5_iadd (a := k51_5.toInt) (b := 1) rfl (by decide) (by omega) (by omega)
                    refine lv_goto (tgt := 51) hx hb dX12_lit_134 (by decide) ?_
                    exact ih_51_34 ((k51_5 + 1), k51_4) ls H locs (show Int.toNat (64 - (k51_5 + 1).toInt) < Int.toNat (64 - k51_5.toInt) from g_up (show k51_5.toInt < (k51_5 + 1).toInt by omega) (show k51_5.toInt < 64 by omega)) ⟨lv_sub hl [1, 0, 4, 5, 6, 7] rfl, hP, hD, hS, ⟨by omega, by omega⟩⟩
                  ·
                    have n_40 : gNe (k64_6.toInt) (0) := by have z := g5_eqN (a := k64_6.toInt) (b := 0) (by rfl) (by decide) c_40; unfold gNe; omega
                    have i_40 : k64_6.toInt ≥ 1 := by have z := g5_eqN (a := k64_6.toInt) (b := 0) (by rfl) (by decide) c_40; omega
                    refine lv_iload_n hx hb dX12_lit_112 rfl (lv_at hl 7 rfl) ?_
                    refine lv_iconst (v := (-1)) hx hb dX12_lit_113 (by decide) ?_
                    refine lv_icmp_eq (tgt := 123) hx hb dX12_lit_114 (by decide) (fun c_42 => ?_) (fun c_42 => ?_)
                    ·
                      have i_42 : p_3.toInt = (-1) := by have z := g5_eq (a := p_3.toInt) (b := (-1)) (by rfl) (by decide) c_42; omega
                      refine lv_iconst (v := 1) hx hb dX12_lit_123 (by decide) ?_
                      refine lv_goto (tgt := 128) hx hb dX12_lit_124 (by decide) ?_
                      refine lv_iadd hx hb dX12_lit_128 ?_
                      refine lv_istore (lv' := [(4, .int (k51_4 + 1)), (6, .int k64_6), (7, .int k64_7), (5, .int k51_5), (0, .ref b_o), (1, .int p_1), (2, .int p_2), (3, .int p_3)]) hx hb dX12_lit_129 hl (by decide) rfl (fun ls hl => ?_)
                      refine lv_iinc (v := (k51_5 + 1)) (lv' := [(5, .int (k51_5 + 1)), (4, .int (k51_4 + 1)), (6, .int k64_6), (7, .int k64_7), (0, .ref b_o), (1, .int p_1), (2, .int p_2), (3, .int p_3)]) hx hb dX12_lit_131 hl (k := 3) rfl rfl (by decide) rfl (fun ls hl => ?_)
                      have t_43 : (k51_5 + 1).toInt = k51_5.toInt + 1 := g5_iadd (a := k51_5.toInt) (b := 1) rfl (by decide) (by omega) (by omega)
                      refine lv_goto (tgt := 51) hx hb dX12_lit_134 (by decide) ?_
                      exact ih_51_34 ((k51_5 + 1), (k51_4 + 1)) ls H locs (show Int.toNat (64 - (k51_5 + 1).toInt) < Int.toNat (64 - k51_5.toInt) from g_up (show k51_5.toInt < (k51_5 + 1).toInt by omega) (show k51_5.toInt < 64 by omega)) ⟨lv_sub hl [1, 0, 4, 5, 6, 7] rfl, hP, hD, hS, ⟨by omega, by omega⟩⟩
                    ·
                      have n_42 : gNe (p_3.toInt) ((-1)) := by have z := g5_eqN (a := p_3.toInt) (b := (-1)) (by rfl) (by decide) c_42; unfold gNe; omega
                      have i_42 : p_3.toInt ≥ 0 := by have z := g5_eqN (a := p_3.toInt) (b := (-1)) (by rfl) (by decide) c_42; omega
                      refine lv_iload_n hx hb dX12_lit_117 rfl (lv_at hl 7 rfl) ?_
                      refine lv_iload hx hb dX12_lit_118 (lv_at hl 3 rfl) ?_
                      refine lv_icmp_ne (tgt := 127) hx hb dX12_lit_120 (by decide) (fun c_44 => ?_) (fun c_44 => ?_)
                      ·
                        have n_44 : gNe (p_3.toInt) (k51_5.toInt) := by have z := g5_ne (a := p_3.toInt) (b := k51_5.toInt) (by rfl) (by rfl) c_44; unfold gNe; omega
                        refine lv_iconst (v := 0) hx hb dX12_lit_127 (by decide) ?_
                        refine lv_iadd hx hb dX12_lit_128 ?_
                        refine g5_ti (v := k51_4) (by simp) ?_
                        refine lv_istore (lv' := [(4, .int k51_4), (6, .int k64_6), (7, .int k64_7), (5, .int k51_5), (0, .ref b_o), (1, .int p_1), (2, .int p_2), (3, .int p_3)]) hx hb dX12_lit_129 hl (by decide) rfl (fun ls hl => ?_)
                        refine lv_iinc (v := (k51_5 + 1)) (lv' := [(5, .int (k51_5 + 1)), (4, .int k51_4), (6, .int k64_6), (7, .int k64_7), (0, .ref b_o), (1, .int p_1), (2, .int p_2), (3, .int p_3)]) hx hb dX12_lit_131 hl (k := 3) rfl rfl (by decide) rfl (fun ls hl => ?_)
                        have t_45 : (k51_5 + 1).toInt = k51_5.toInt + 1 := g5_iadd (a := k51_5.toInt) (b := 1) rfl (by decide) (by omega) (by omega)
                        refine lv_goto (tgt := 51) hx hb dX12_lit_134 (by decide) ?_
                        exact ih_51_34 ((k51_5 + 1), k51_4) ls H locs (show Int.toNat (64 - (k51_5 + 1).toInt) < Int.toNat (64 - k51_5.toInt) from g_up (show k51_5.toInt < (k51_5 + 1).toInt by omega) (show k51_5.toInt < 64 by omega)) ⟨lv_sub hl [1, 0, 4, 5, 6, 7] rfl, hP, hD, hS, ⟨by omega, by omega⟩⟩
                      ·
                        have i_44 : p_3.toInt = k51_5.toInt := by have z := g5_neN (a := p_3.toInt) (b := k51_5.toInt) (by rfl) (by rfl) c_44; omega
                        refine lv_iconst (v := 1) hx hb dX12_lit_123 (by decide) ?_
                        refine lv_goto (tgt := 128) hx hb dX12_lit_124 (by decide) ?_
                        refine lv_iadd hx hb dX12_lit_128 ?_
                        refine lv_istore (lv' := [(4, .int (k51_4 + 1)), (6, .int k64_6), (7, .int k64_7), (5, .int k51_5), (0, .ref b_o), (1, .int p_1), (2, .int p_2), (3, .int p_3)]) hx hb dX12_lit_129 hl (by decide) rfl (fun ls hl => ?_)
                        refine lv_iinc (v := (k51_5 + 1)) (lv' := [(5, .int (k51_5 + 1)), (4, .int (k51_4 + 1)), (6, .int k64_6), (7, .int k64_7), (0, .ref b_o), (1, .int p_1), (2, .int p_2), (3, .int p_3)]) hx hb dX12_lit_131 hl (k := 3) rfl rfl (by decide) rfl (fun ls hl => ?_)
                        have t_46 : (k51_5 + 1).toInt = k51_5.toInt + 1 := g5_iadd (a := k51_5.toInt) (b := 1) rfl (by decide) (by omega) (by omega)
                        refine lv_goto (tgt := 51) hx hb dX12_lit_134 (by decide) ?_
                        exact ih_51_34 ((k51_5 + 1), (k51_4 + 1)) ls H locs (show Int.toNat (64 - (k51_5 + 1).toInt) < Int.toNat (64 - k51_5.toInt) from g_up (show k51_5.toInt < (k51_5 + 1).toInt by omega) (show k51_5.toInt < 64 by omega)) ⟨lv_sub hl [1, 0, 4, 5, 6, 7] rfl, hP, hD, hS, ⟨by omega, by omega⟩⟩
                ·
                  have i_39 : k64_7.toInt < 24 := by have z := g5_geN (a := k64_7.toInt) (b := 24) (by rfl) (by decide) c_39; omega
                  refine lv_iload hx hb dX12_lit_71 (lv_at hl 0 rfl) ?_
                  refine lv_if_ne (tgt := 92) hx hb dX12_lit_73 (by decide) (fun c_47 => ?_) (fun c_47 => ?_)
                  ·
                    have n_47 : gNe (k64_6.toInt) (0) := by have z := g5_ne (a := k64_6.toInt) (b := 0) (by rfl) (by decide) c_47; unfold gNe; omega
                    have i_47 : k64_6.toInt ≥ 1 := by have z := g5_ne (a := k64_6.toInt) (b := 0) (by rfl) (by decide) c_47; omega
                    refine lv_iconst (v := 1) hx hb dX12_lit_92 (by decide) ?_
                    refine lv_goto (tgt := 97) hx hb dX12_lit_93 (by decide) ?_
                    refine lv_istore (lv' := [(6, .int 1), (7, .int k64_7), (4, .int k51_4), (5, .int k51_5), (0, .ref b_o), (1, .int p_1), (2, .int p_2), (3, .int p_3)]) hx hb dX12_lit_97 hl (by decide) rfl (fun ls hl => ?_)
                    refine lv_iinc (v := (k64_7 + 1)) (lv' := [(7, .int (k64_7 + 1)), (6, .int 1), (4, .int k51_4), (5, .int k51_5), (0, .ref b_o), (1, .int p_1), (2, .int p_2), (3, .int p_3)]) hx hb dX12_lit_99 hl (k := 1) rfl rfl (by decide) rfl (fun ls hl => ?_)
                    have t_48 : (k64_7 + 1).toInt = k64_7.toInt + 1 := g5_iadd (a := k64_7.toInt) (b := 1) rfl (by decide) (by omega) (by omega)
                    refine lv_goto (tgt := 64) hx hb dX12_lit_102 (by decide) ?_
                    exact ih_64_38 ((k64_7 + 1), 1) ls H locs (show Int.toNat (24 - (k64_7 + 1).toInt) < Int.toNat (24 - k64_7.toInt) from g_up (show k64_7.toInt < (k64_7 + 1).toInt by omega) (show k64_7.toInt < 24 by omega)) ⟨lv_sub hl [1, 0, 2, 3, 4, 5, 6, 7] rfl, hP, hD, hS, ⟨by omega, by omega⟩, ⟨by decide, by decide⟩⟩
                  ·
                    have i_47 : k64_6.toInt = 0 := by have z := g5_neN (a := k64_6.toInt) (b := 0) (by rfl) (by decide) c_47; omega
                    refine lv_aload_n hx hb dX12_lit_76 rfl (lv_at hl 4 rfl) ?_
                    refine va_get (D := G.1) (ci := 12) (v := .ref b_ip) (C := RX12) (T := TX12) (N := 52) hx hb hts inG_X12 hown hK hP 0 rfl rfl 41 (by decide) (hts _ fl_X12_85) (fun _ h9 => h9) rfl dX12_lit_77 ?_
                    refine lv_bipush (v := 64) hx hb dX12_lit_80 (by decide) ?_
                    refine lv_iload hx hb dX12_lit_82 (lv_at hl 1 rfl) ?_
                    refine lv_imul hx hb dX12_lit_84 ?_
                    have t_49 : (64 * k64_7).toInt = 64 * k64_7.toInt := g5_imul (a := 64) (b := k64_7.toInt) (by decide) (by rfl) (by omega) (by omega)
                    refine lv_iload hx hb dX12_lit_85 (lv_at hl 3 rfl) ?_
                    refine lv_iadd hx hb dX12_lit_87 ?_
                    have t_50 : ((64 * k64_7) + k51_5).toInt = (64 * k64_7).toInt + k51_5.toInt := g5_iadd (a := (64 * k64_7).toInt) (b := k51_5.toInt) (by rfl) (by rfl) (by omega) (by omega)
                    refine va_zald hx hb hK hP 5 2 rfl rfl (i := ((64 * k64_7) + k51_5)) (vp_in_iff.mpr ⟨by omega, by omega⟩) dX12_lit_88 ?_
                    refine lv_if_eq (tgt := 96) hx hb dX12_lit_89 (by decide) (fun c_51 => ?_) (fun c_51 => ?_)
                    ·
                      have i_51 : (z32 ((64 * k64_7) + k51_5).toNatClampNeg).toInt = 0 := by have z := g5_eq (a := (z32 ((64 * k64_7) + k51_5).toNatClampNeg).toInt) (b := 0) (by rfl) (by decide) c_51; omega
                      refine lv_iconst (v := 0) hx hb dX12_lit_96 (by decide) ?_
                      refine lv_istore (lv' := [(6, .int 0), (7, .int k64_7), (4, .int k51_4), (5, .int k51_5), (0, .ref b_o), (1, .int p_1), (2, .int p_2), (3, .int p_3)]) hx hb dX12_lit_97 hl (by decide) rfl (fun ls hl => ?_)
                      refine lv_iinc (v := (k64_7 + 1)) (lv' := [(7, .int (k64_7 + 1)), (6, .int 0), (4, .int k51_4), (5, .int k51_5), (0, .ref b_o), (1, .int p_1), (2, .int p_2), (3, .int p_3)]) hx hb dX12_lit_99 hl (k := 1) rfl rfl (by decide) rfl (fun ls hl => ?_)
                      have t_52 : (k64_7 + 1).toInt = k64_7.toInt + 1 := g5_iadd (a := k64_7.toInt) (b := 1) rfl (by decide) (by omega) (by omega)
                      refine lv_goto (tgt := 64) hx hb dX12_lit_102 (by decide) ?_
                      exact ih_64_38 ((k64_7 + 1), 0) ls H locs (show Int.toNat (24 - (k64_7 + 1).toInt) < Int.toNat (24 - k64_7.toInt) from g_up (show k64_7.toInt < (k64_7 + 1).toInt by omega) (show k64_7.toInt < 24 by omega)) ⟨lv_sub hl [1, 0, 2, 3, 4, 5, 6, 7] rfl, hP, hD, hS, ⟨by omega, by omega⟩, ⟨by decide, by decide⟩⟩
                    ·
                      have n_51 : gNe ((z32 ((64 * k64_7) + k51_5).toNatClampNeg).toInt) (0) := by have z := g5_eqN (a := (z32 ((64 * k64_7) + k51_5).toNatClampNeg).toInt) (b := 0) (by rfl) (by decide) c_51; unfold gNe; omega
                      refine lv_iconst (v := 1) hx hb dX12_lit_92 (by decide) ?_
                      refine lv_goto (tgt := 97) hx hb dX12_lit_93 (by decide) ?_
                      refine lv_istore (lv' := [(6, .int 1), (7, .int k64_7), (4, .int k51_4), (5, .int k51_5), (0, .ref b_o), (1, .int p_1), (2, .int p_2), (3, .int p_3)]) hx hb dX12_lit_97 hl (by decide) rfl (fun ls hl => ?_)
                      refine lv_iinc (v := (k64_7 + 1)) (lv' := [(7, .int (k64_7 + 1)), (6, .int 1), (4, .int k51_4), (5, .int k51_5), (0, .ref b_o), (1, .int p_1), (2, .int p_2), (3, .int p_3)]) hx hb dX12_lit_99 hl (k := 1) rfl rfl (by decide) rfl (fun ls hl => ?_)
                      have t_53 : (k64_7 + 1).toInt = k64_7.toInt + 1 := g5_iadd (a := k64_7.toInt) (b := 1) rfl (by decide) (by omega) (by omega)
                      refine lv_goto (tgt := 64) hx hb dX12_lit_102 (by decide) ?_
                      exact ih_64_38 ((k64_7 + 1), 1) ls H locs (show Int.toNat (24 - (k64_7 + 1).toInt) < Int.toNat (24 - k64_7.toInt) from g_up (show k64_7.toInt < (k64_7 + 1).toInt by omega) (show k64_7.toInt < 24 by omega)) ⟨lv_sub hl [1, 0, 2, 3, 4, 5, 6, 7] rfl, hP, hD, hS, ⟨by omega, by omega⟩, ⟨by decide, by decide⟩⟩
            ·
              exact absurd c_8 (by decide)
      ·
        have hP := g5_same hP hk1
        generalize H1 = H at hP hS ⊢
        refine lv_if_eq (tgt := 33) hx hb dX12_lit_16 (by decide) (fun c_54 => ?_) (fun c_54 => ?_)
        ·
          refine lv_iconst (v := (-1)) hx hb dX12_lit_33 (by decide) ?_
          exact W.iret (v := (-1)) hx hb hr (fun t ht hW => ⟨⟨(-1), [(b_o, (oc12 0 u_sa b_rf b_ro b_im b_ke u_fd b_tp u_td u_fr u_to u_so u_wo u_fa u_bd u_nc b_nl u_co b_op b_ar u_le b_pi b_pa u_pd u_od b_ws b_hw u_la b_se b_re u_bk u_va u_su u_ce u_ho u_wy u_bt u_ps b_pt u_tg u_sn b_ip u_ic b_ah b_be b_me u_wd b_tr b_ld u_st b_wn u_id)), (b_ro, (arI G 5740 v_ro)), (b_se, (arJ G 13 v_se)), (b_re, (arJ G 400 v_re)), (b_pt, (arI G 200 v_pt)), (b_ip, (arZ G 1536 v_ip))], rfl, ⟨(-1), 0, u_la, u_bk, u_va, u_su, u_ce, u_ho, u_wy, u_bt, u_ps, u_tg, u_sn, v_se, v_re, v_pt, v_ip, h_u_la, h_u_bk, h_u_ce, h_u_ho, h_u_wy, h_u_bt, h_u_ps, r_pt, rfl, rfl⟩, by rw [ht]; exact hP.sub [0, 1, 2, 3, 4, 5] rfl, hD.sub [0, 1, 2, 3, 4, 5] (by decide) rfl⟩, hS.F ht⟩) hS.2.2 dX12_lit_34
        ·
          exact absurd c_54 (by decide)
  ·
    have hP := g5_same hP hk1
    generalize H1 = H at hP hS ⊢
    refine lv_if_eq (tgt := 33) hx hb dX12_lit_9 (by decide) (fun c_55 => ?_) (fun c_55 => ?_)
    ·
      refine lv_iconst (v := (-1)) hx hb dX12_lit_33 (by decide) ?_
      exact W.iret (v := (-1)) hx hb hr (fun t ht hW => ⟨⟨(-1), [(b_o, (oc12 0 u_sa b_rf b_ro b_im b_ke u_fd b_tp u_td u_fr u_to u_so u_wo u_fa u_bd u_nc b_nl u_co b_op b_ar u_le b_pi b_pa u_pd u_od b_ws b_hw u_la b_se b_re u_bk u_va u_su u_ce u_ho u_wy u_bt u_ps b_pt u_tg u_sn b_ip u_ic b_ah b_be b_me u_wd b_tr b_ld u_st b_wn u_id)), (b_ro, (arI G 5740 v_ro)), (b_se, (arJ G 13 v_se)), (b_re, (arJ G 400 v_re)), (b_pt, (arI G 200 v_pt)), (b_ip, (arZ G 1536 v_ip))], rfl, ⟨(-1), 0, u_la, u_bk, u_va, u_su, u_ce, u_ho, u_wy, u_bt, u_ps, u_tg, u_sn, v_se, v_re, v_pt, v_ip, h_u_la, h_u_bk, h_u_ce, h_u_ho, h_u_wy, h_u_bt, h_u_ps, r_pt, rfl, rfl⟩, by rw [ht]; exact hP.sub [0, 1, 2, 3, 4, 5] rfl, hD.sub [0, 1, 2, 3, 4, 5] (by decide) rfl⟩, hS.F ht⟩) hS.2.2 dX12_lit_34
    ·
      exact absurd c_55 (by decide)
theorem dgX12_markAll_0 : ∀ r ∈ ([(0, (.aload_n 0, 1)), (1, (.invokevirtual 413, 3)), (4, (.iconst 0, 1)), (5, (.istore_n 1, 1)), (6, (.iload_n 1, 1)), (7, (.aload_n 0, 1)), (8, (.getfield 13, 3)), (11, (.iconst 1, 1)), (12, (.iaload, 1)), (13, (.if_icmp .ge 44, 3)), (16, (.iconst 0, 1)), (17, (.istore_n 2, 1)), (18, (.iload_n 2, 1)), (19, (.bipush 24, 2)), (21, (.if_icmp .ge 30, 3)), (24, (.aload_n 0, 1)), (25, (.iload_n 1, 1)), (26, (.iload_n 2, 1)), (27, (.invokevirtual 187, 3)), (30, (.iconst (-1), 1)), (31, (.if_icmp .eq 14, 3)), (34, (.aload_n 0, 1)), (35, (.aload_n 0, 1)), (36, (.iload_n 1, 1)), (37, (.iload_n 2, 1)), (38, (.invokevirtual 187, 3)), (41, (.iload_n 2, 1)), (42, (.invokevirtual 416, 3)), (45, (.iinc 2 1, 3)), (48, (.goto (-30), 3)), (51, (.iinc 1 1, 3)), (54, (.goto (-48), 3)), (57, (.return_, 1))] : List (Nat × (Instr × Nat))), decode cX12_markAll r.1 = .ok r.2 := by decide +kernel
theorem dX12_markAll_0 : decode cX12_markAll 0 = .ok (.aload_n 0, 1) := dgX12_markAll_0 (0, (.aload_n 0, 1)) (List.mem_of_getElem? (i := 0) rfl)
theorem dX12_markAll_1 : decode cX12_markAll 1 = .ok (.invokevirtual 413, 3) := dgX12_markAll_0 (1, (.invokevirtual 413, 3)) (List.mem_of_getElem? (i := 1) rfl)
theorem dX12_markAll_4 : decode cX12_markAll 4 = .ok (.iconst 0, 1) := dgX12_markAll_0 (4, (.iconst 0, 1)) (List.mem_of_getElem? (i := 2) rfl)
theorem dX12_markAll_5 : decode cX12_markAll 5 = .ok (.istore_n 1, 1) := dgX12_markAll_0 (5, (.istore_n 1, 1)) (List.mem_of_getElem? (i := 3) rfl)
theorem dX12_markAll_6 : decode cX12_markAll 6 = .ok (.iload_n 1, 1) := dgX12_markAll_0 (6, (.iload_n 1, 1)) (List.mem_of_getElem? (i := 4) rfl)
theorem dX12_markAll_7 : decode cX12_markAll 7 = .ok (.aload_n 0, 1) := dgX12_markAll_0 (7, (.aload_n 0, 1)) (List.mem_of_getElem? (i := 5) rfl)
theorem dX12_markAll_8 : decode cX12_markAll 8 = .ok (.getfield 13, 3) := dgX12_markAll_0 (8, (.getfield 13, 3)) (List.mem_of_getElem? (i := 6) rfl)
theorem dX12_markAll_11 : decode cX12_markAll 11 = .ok (.iconst 1, 1) := dgX12_markAll_0 (11, (.iconst 1, 1)) (List.mem_of_getElem? (i := 7) rfl)
theorem dX12_markAll_12 : decode cX12_markAll 12 = .ok (.iaload, 1) := dgX12_markAll_0 (12, (.iaload, 1)) (List.mem_of_getElem? (i := 8) rfl)
theorem dX12_markAll_13 : decode cX12_markAll 13 = .ok (.if_icmp .ge 44, 3) := dgX12_markAll_0 (13, (.if_icmp .ge 44, 3)) (List.mem_of_getElem? (i := 9) rfl)
theorem dX12_markAll_16 : decode cX12_markAll 16 = .ok (.iconst 0, 1) := dgX12_markAll_0 (16, (.iconst 0, 1)) (List.mem_of_getElem? (i := 10) rfl)
theorem dX12_markAll_17 : decode cX12_markAll 17 = .ok (.istore_n 2, 1) := dgX12_markAll_0 (17, (.istore_n 2, 1)) (List.mem_of_getElem? (i := 11) rfl)
theorem dX12_markAll_18 : decode cX12_markAll 18 = .ok (.iload_n 2, 1) := dgX12_markAll_0 (18, (.iload_n 2, 1)) (List.mem_of_getElem? (i := 12) rfl)
theorem dX12_markAll_19 : decode cX12_markAll 19 = .ok (.bipush 24, 2) := dgX12_markAll_0 (19, (.bipush 24, 2)) (List.mem_of_getElem? (i := 13) rfl)
theorem dX12_markAll_21 : decode cX12_markAll 21 = .ok (.if_icmp .ge 30, 3) := dgX12_markAll_0 (21, (.if_icmp .ge 30, 3)) (List.mem_of_getElem? (i := 14) rfl)
theorem dX12_markAll_24 : decode cX12_markAll 24 = .ok (.aload_n 0, 1) := dgX12_markAll_0 (24, (.aload_n 0, 1)) (List.mem_of_getElem? (i := 15) rfl)
theorem dX12_markAll_25 : decode cX12_markAll 25 = .ok (.iload_n 1, 1) := dgX12_markAll_0 (25, (.iload_n 1, 1)) (List.mem_of_getElem? (i := 16) rfl)
theorem dX12_markAll_26 : decode cX12_markAll 26 = .ok (.iload_n 2, 1) := dgX12_markAll_0 (26, (.iload_n 2, 1)) (List.mem_of_getElem? (i := 17) rfl)
theorem dX12_markAll_27 : decode cX12_markAll 27 = .ok (.invokevirtual 187, 3) := dgX12_markAll_0 (27, (.invokevirtual 187, 3)) (List.mem_of_getElem? (i := 18) rfl)
theorem dX12_markAll_30 : decode cX12_markAll 30 = .ok (.iconst (-1), 1) := dgX12_markAll_0 (30, (.iconst (-1), 1)) (List.mem_of_getElem? (i := 19) rfl)
theorem dX12_markAll_31 : decode cX12_markAll 31 = .ok (.if_icmp .eq 14, 3) := dgX12_markAll_0 (31, (.if_icmp .eq 14, 3)) (List.mem_of_getElem? (i := 20) rfl)
theorem dX12_markAll_34 : decode cX12_markAll 34 = .ok (.aload_n 0, 1) := dgX12_markAll_0 (34, (.aload_n 0, 1)) (List.mem_of_getElem? (i := 21) rfl)
theorem dX12_markAll_35 : decode cX12_markAll 35 = .ok (.aload_n 0, 1) := dgX12_markAll_0 (35, (.aload_n 0, 1)) (List.mem_of_getElem? (i := 22) rfl)
theorem dX12_markAll_36 : decode cX12_markAll 36 = .ok (.iload_n 1, 1) := dgX12_markAll_0 (36, (.iload_n 1, 1)) (List.mem_of_getElem? (i := 23) rfl)
theorem dX12_markAll_37 : decode cX12_markAll 37 = .ok (.iload_n 2, 1) := dgX12_markAll_0 (37, (.iload_n 2, 1)) (List.mem_of_getElem? (i := 24) rfl)
theorem dX12_markAll_38 : decode cX12_markAll 38 = .ok (.invokevirtual 187, 3) := dgX12_markAll_0 (38, (.invokevirtual 187, 3)) (List.mem_of_getElem? (i := 25) rfl)
theorem dX12_markAll_41 : decode cX12_markAll 41 = .ok (.iload_n 2, 1) := dgX12_markAll_0 (41, (.iload_n 2, 1)) (List.mem_of_getElem? (i := 26) rfl)
theorem dX12_markAll_42 : decode cX12_markAll 42 = .ok (.invokevirtual 416, 3) := dgX12_markAll_0 (42, (.invokevirtual 416, 3)) (List.mem_of_getElem? (i := 27) rfl)
theorem dX12_markAll_45 : decode cX12_markAll 45 = .ok (.iinc 2 1, 3) := dgX12_markAll_0 (45, (.iinc 2 1, 3)) (List.mem_of_getElem? (i := 28) rfl)
theorem dX12_markAll_48 : decode cX12_markAll 48 = .ok (.goto (-30), 3) := dgX12_markAll_0 (48, (.goto (-30), 3)) (List.mem_of_getElem? (i := 29) rfl)
theorem dX12_markAll_51 : decode cX12_markAll 51 = .ok (.iinc 1 1, 3) := dgX12_markAll_0 (51, (.iinc 1 1, 3)) (List.mem_of_getElem? (i := 30) rfl)
theorem dX12_markAll_54 : decode cX12_markAll 54 = .ok (.goto (-48), 3) := dgX12_markAll_0 (54, (.goto (-48), 3)) (List.mem_of_getElem? (i := 31) rfl)
theorem dX12_markAll_57 : decode cX12_markAll 57 = .ok (.return_, 1) := dgX12_markAll_0 (57, (.return_, 1)) (List.mem_of_getElem? (i := 32) rfl)
set_option maxHeartbeats 4000000 in
set_option maxRecDepth 100000 in
theorem n_markAll (l : Launch) (G : g5_G) (b_o b_ro b_se b_re b_pt b_ip b_rf b_im b_ke b_tp b_nl b_op b_ar b_pi b_pa b_ws b_hw b_ah b_be b_me b_tr b_ld b_wn : Nat) (sz : Nat) (u_th : Int32) (u_sa : Int32) (u_fd : Int32) (u_td : Int32) (u_fr : Int32) (u_to : Int32) (u_so : Int32) (u_fa : Int32) (u_bd : Int32) (u_nc : Int32) (u_co : Int32) (u_le : Int32) (u_pd : Int32) (u_od : Int32) (u_la : Int32) (u_bk : Int32) (u_ce : Int32) (u_ho : Int32) (u_wy : Int32) (u_bt : Int32) (u_ps : Int32) (u_tg : Int32) (u_sn : Int32) (u_ic : Int32) (u_wd : Int32) (u_id : Int32) (u_wo : Int64) (u_va : Int64) (u_su : Int64) (u_st : Int64) (v_ro : Nat → Int32) (v_se : Nat → Int64) (v_re : Nat → Int64) (v_pt : Nat → Int32) (v_ip : Nat → Int32) (h_u_td : 0 ≤ u_td.toInt ∧ u_td.toInt ≤ 400) (h_u_fr : 0 ≤ u_fr.toInt ∧ u_fr.toInt ≤ 400) (h_u_to : 0 ≤ u_to.toInt ∧ u_to.toInt ≤ 400) (h_u_bd : 0 ≤ u_bd.toInt ∧ u_bd.toInt ≤ 1) (h_u_nc : 0 ≤ u_nc.toInt ∧ u_nc.toInt ≤ 12) (h_u_co : 0 ≤ u_co.toInt ∧ u_co.toInt ≤ 400) (h_u_pd : 0 ≤ u_pd.toInt ∧ u_pd.toInt ≤ 400) (h_u_la : 0 ≤ u_la.toInt ∧ u_la.toInt ≤ 4840) (h_u_bk : 0 ≤ u_bk.toInt ∧ u_bk.toInt ≤ 1) (h_u_ce : 0 ≤ u_ce.toInt ∧ u_ce.toInt ≤ 63) (h_u_ho : 0 ≤ u_ho.toInt ∧ u_ho.toInt ≤ 23) (h_u_wy : 0 ≤ u_wy.toInt ∧ u_wy.toInt ≤ 3) (h_u_bt : 0 ≤ u_bt.toInt ∧ u_bt.toInt ≤ 1000000) (h_u_ps : 0 ≤ u_ps.toInt ∧ u_ps.toInt ≤ 200) (h_u_ic : 0 ≤ u_ic.toInt ∧ u_ic.toInt ≤ 1) (h_u_id : 0 ≤ u_id.toInt ∧ u_id.toInt ≤ 1) (r_ro : MI v_ro) (r_pt : PTI v_pt) : Met l yX12_markAll (wsG yX12_markAll cX12_markAll 3 none) ({ frames := 8, cells := 0, slots := 0, locals := 200 }) (va_Pc [.ref b_o] (g5_P G [(b_o, (oc12 u_th u_sa b_rf b_ro b_im b_ke u_fd b_tp u_td u_fr u_to u_so u_wo u_fa u_bd u_nc b_nl u_co b_op b_ar u_le b_pi b_pa u_pd u_od b_ws b_hw u_la b_se b_re u_bk u_va u_su u_ce u_ho u_wy u_bt u_ps b_pt u_tg u_sn b_ip u_ic b_ah b_be b_me u_wd b_tr b_ld u_st b_wn u_id)), (b_ro, (arI G 5740 v_ro)), (b_se, (arJ G 13 v_se)), (b_re, (arJ G 400 v_re)), (b_pt, (arI G 200 v_pt)), (b_ip, (arZ G 1536 v_ip))] sz)) (va_Qv (fun (u : va_W) => (∃ (o_la : Int32) (o_bk : Int32) (o_va : Int64) (o_su : Int64) (o_ce : Int32) (o_ho : Int32) (o_wy : Int32) (o_bt : Int32) (o_ps : Int32) (o_tg : Int32) (o_sn : Int32) (o_se : Nat → Int64) (o_re : Nat → Int64) (o_pt : Nat → Int32) (o_ip : Nat → Int32), (0 ≤ o_la.toInt ∧ o_la.toInt ≤ 4840) ∧ (0 ≤ o_bk.toInt ∧ o_bk.toInt ≤ 1) ∧ (0 ≤ o_ce.toInt ∧ o_ce.toInt ≤ 63) ∧ (0 ≤ o_ho.toInt ∧ o_ho.toInt ≤ 23) ∧ (0 ≤ o_wy.toInt ∧ o_wy.toInt ≤ 3) ∧ (0 ≤ o_bt.toInt ∧ o_bt.toInt ≤ 1000000) ∧ (0 ≤ o_ps.toInt ∧ o_ps.toInt ≤ 200) ∧ (PTI o_pt) ∧ (u = [(b_o, (oc12 u_th u_sa b_rf b_ro b_im b_ke u_fd b_tp u_td u_fr u_to u_so u_wo u_fa u_bd u_nc b_nl u_co b_op b_ar u_le b_pi b_pa u_pd u_od b_ws b_hw o_la b_se b_re o_bk o_va o_su o_ce o_ho o_wy o_bt o_ps b_pt o_tg o_sn b_ip u_ic b_ah b_be b_me u_wd b_tr b_ld u_st b_wn u_id)), (b_ro, (arI G 5740 v_ro)), (b_se, (arJ G 13 o_se)), (b_re, (arJ G 400 o_re)), (b_pt, (arI G 200 o_pt)), (b_ip, (arZ G 1536 o_ip))]))) (g5_B G (va_A [(b_o, (oc12 u_th u_sa b_rf b_ro b_im b_ke u_fd b_tp u_td u_fr u_to u_so u_wo u_fa u_bd u_nc b_nl u_co b_op b_ar u_le b_pi b_pa u_pd u_od b_ws b_hw u_la b_se b_re u_bk u_va u_su u_ce u_ho u_wy u_bt u_ps b_pt u_tg u_sn b_ip u_ic b_ah b_be b_me u_wd b_tr b_ld u_st b_wn u_id)), (b_ro, (arI G 5740 v_ro)), (b_se, (arJ G 13 v_se)), (b_re, (arJ G 400 v_re)), (b_pt, (arI G 200 v_pt)), (b_ip, (arZ G 1536 v_ip))] sz)) (va_A [(b_o, (oc12 u_th u_sa b_rf b_ro b_im b_ke u_fd b_tp u_td u_fr u_to u_so u_wo u_fa u_bd u_nc b_nl u_co b_op b_ar u_le b_pi b_pa u_pd u_od b_ws b_hw u_la b_se b_re u_bk u_va u_su u_ce u_ho u_wy u_bt u_ps b_pt u_tg u_sn b_ip u_ic b_ah b_be b_me u_wd b_tr b_ld u_st b_wn u_id)), (b_ro, (arI G 5740 v_ro)), (b_se, (arJ G 13 v_se)), (b_re, (arJ G 400 v_re)), (b_pt, (arI G 200 v_pt)), (b_ip, (arZ G 1536 v_ip))] sz)) 0 0 (va_A [(b_o, (oc12 u_th u_sa b_rf b_ro b_im b_ke u_fd b_tp u_td u_fr u_to u_so u_wo u_fa u_bd u_nc b_nl u_co b_op b_ar u_le b_pi b_pa u_pd u_od b_ws b_hw u_la b_se b_re u_bk u_va u_su u_ce u_ho u_wy u_bt u_ps b_pt u_tg u_sn b_ip u_ic b_ah b_be b_me u_wd b_tr b_ld u_st b_wn u_id)), (b_ro, (arI G 5740 v_ro)), (b_se, (arJ G 13 v_se)), (b_re, (arJ G 400 v_re)), (b_pt, (arI G 200 v_pt)), (b_ip, (arZ G 1536 v_ip))] sz) := by
  refine Met.ofW (cc := cX12_markAll) (maxL := 3) (ret := none) (by decide) rfl ?_
  intro p e s m args below meth c s₁ B hml hv
  obtain ⟨rfl, hsz, hP, hK, hD0, hN, hT⟩ := hv
  have hx := B.exec
  have hb := B.bytes
  have hr := B.returns
  have hts : ∀ w ∈ tblG, w.before _ s = true := fun w h => atoms_spec (ws := (wsG yX12_markAll cX12_markAll 3 none)) B.pre w (List.mem_cons_of_mem _ h)
  have hown : s.vm.findClass RX12 = some m.cls := findClass_of_methodNamed B.named
  have hlocks := B.notSynchronized
  subst hsz
  have hD := hD0.self (sz := s.heap.size)
  generalize hAe : va_A [(b_o, (oc12 u_th u_sa b_rf b_ro b_im b_ke u_fd b_tp u_td u_fr u_to u_so u_wo u_fa u_bd u_nc b_nl u_co b_op b_ar u_le b_pi b_pa u_pd u_od b_ws b_hw u_la b_se b_re u_bk u_va u_su u_ce u_ho u_wy u_bt u_ps b_pt u_tg u_sn b_ip u_ic b_ah b_be b_me u_wd b_tr b_ld u_st b_wn u_id)), (b_ro, (arI G 5740 v_ro)), (b_se, (arJ G 13 v_se)), (b_re, (arJ G 400 v_re)), (b_pt, (arI G 200 v_pt)), (b_ip, (arZ G 1536 v_ip))] s.heap.size = A at hD hT ⊢
  have hA : ∀ q : Nat, s.heap.size ≤ q → A q := fun q h => by rw [← hAe]; exact Or.inr h
  have hS : va_S A s.heap s.heap [] := va_S.rf
  have hP : va_P G.1 vwCl [(b_o, (oc12 u_th u_sa b_rf b_ro b_im b_ke u_fd b_tp u_td u_fr u_to u_so u_wo u_fa u_bd u_nc b_nl u_co b_op b_ar u_le b_pi b_pa u_pd u_od b_ws b_hw u_la b_se b_re u_bk u_va u_su u_ce u_ho u_wy u_bt u_ps b_pt u_tg u_sn b_ip u_ic b_ah b_be b_me u_wd b_tr b_ld u_st b_wn u_id)), (b_ro, (arI G 5740 v_ro)), (b_se, (arJ G 13 v_se)), (b_re, (arJ G 400 v_re)), (b_pt, (arI G 200 v_pt)), (b_ip, (arZ G 1536 v_ip))] s.heap := hP
  have hl := lv_entry ([.ref b_o]) (n := 3) (Nat.le_of_ble_eq_true rfl)
  rw [lg_entry_eq]
  generalize (lg_sl ([.ref b_o]) ++ List.replicate (3 - (lg_sl ([.ref b_o])).length) Slot.unset).toArray = ls at hl ⊢
  have hl : lv_has ls 3 [(0, .ref b_o)] := hl
  refine lv_aload_n hx hb dX12_markAll_0 rfl (lv_at hl 0 rfl) ?_
  obtain ⟨hPc, hDc, hFc⟩ := g5_sub3 (wc := [(b_o, (oc12 u_th u_sa b_rf b_ro b_im b_ke u_fd b_tp u_td u_fr u_to u_so u_wo u_fa u_bd u_nc b_nl u_co b_op b_ar u_le b_pi b_pa u_pd u_od b_ws b_hw u_la b_se b_re u_bk u_va u_su u_ce u_ho u_wy u_bt u_ps b_pt u_tg u_sn b_ip u_ic b_ah b_be b_me u_wd b_tr b_ld u_st b_wn u_id)), (b_ip, (arZ G 1536 v_ip))]) hP hD hS hA [0, 5] (by decide) rfl
  refine va_callv (va_runV (As := []) (rest := []) ⟨hx, hb, hml, hown, hts⟩ (n_clearPoints l G b_o b_ip b_rf b_ro b_im b_ke b_tp b_nl b_op b_ar b_pi b_pa b_ws b_hw b_se b_re b_pt b_ah b_be b_me b_tr b_ld b_wn s.heap.size u_th u_sa u_fd u_td u_fr u_to u_so u_fa u_bd u_nc u_co u_le u_pd u_od u_la u_bk u_ce u_ho u_wy u_bt u_ps u_tg u_sn u_ic u_wd u_id u_wo u_va u_su u_st v_ip h_u_td h_u_fr h_u_to h_u_bd h_u_nc h_u_co h_u_pd h_u_la h_u_bk h_u_ce h_u_ho h_u_wy h_u_bt h_u_ps h_u_ic h_u_id) (cwV 0 hts gV_X12_413 rfl rfl rfl hv_X12_clearPoints ⟨Nat.le_of_ble_eq_true rfl, Nat.le_of_ble_eq_true rfl⟩) (g5_preV hPc hK hDc hN hT hS hFc (ci := 12) (q0 := 0) rfl rfl) rfl rfl hl.1 rfl (lv_room (Nat.le_of_ble_eq_true rfl)) dX12_markAll_1 ⟨Nat.le_of_ble_eq_true rfl, Nat.le_of_ble_eq_true rfl⟩) hS (fun q _ h => hFc q h) hFc (fun u t H1 locs ht hvm hw hB hz1 hk1 hS => ?_)
  obtain ⟨hP1, hD1⟩ := hB
  rw [ht] at hP1
  obtain ⟨z1, rfl⟩ := hw
  obtain ⟨hP, hD⟩ := va_join (wr := [(b_ro, (arI G 5740 v_ro)), (b_se, (arJ G 13 v_se)), (b_re, (arJ G 400 v_re)), (b_pt, (arI G 200 v_pt))]) hP hD [0, 5] [1, 2, 3, 4] rfl rfl (by decide) (by decide) hk1 hFc hP1 hD1
  generalize H1 = H at hP hS ⊢
  refine g5_rs [(b_ro, (arI G 5740 v_ro)), (b_se, (arJ G 13 v_se)), (b_re, (arJ G 400 v_re)), (b_pt, (arI G 200 v_pt)), (b_o, (oc12 u_th u_sa b_rf b_ro b_im b_ke u_fd b_tp u_td u_fr u_to u_so u_wo u_fa u_bd u_nc b_nl u_co b_op b_ar u_le b_pi b_pa u_pd u_od b_ws b_hw u_la b_se b_re u_bk u_va u_su u_ce u_ho u_wy u_bt u_ps b_pt u_tg u_sn b_ip u_ic b_ah b_be b_me u_wd b_tr b_ld u_st b_wn u_id)), (b_ip, (arZ G 1536 z1))] hP hD (fun hP hD => ?_)
  refine lv_iconst (v := 0) hx hb dX12_markAll_4 (by decide) ?_
  refine lv_istore_n (lv' := [(1, .int 0), (0, .ref b_o)]) hx hb dX12_markAll_5 rfl hl (by decide) rfl (fun ls hl => ?_)
  refine g5_loop (α := (Int32) × (Int32) × (Int32) × (Int64) × (Int64) × (Int32) × (Int32) × (Int32) × (Int32) × (Int32) × (Int32) × (Int32) × (Nat → Int64) × (Nat → Int64) × (Nat → Int32) × (Nat → Int32)) (fun (q : (Int32) × (Int32) × (Int32) × (Int64) × (Int64) × (Int32) × (Int32) × (Int32) × (Int32) × (Int32) × (Int32) × (Int32) × (Nat → Int64) × (Nat → Int64) × (Nat → Int32) × (Nat → Int32)) (ls : Array Slot) (H : Heap) (locs : List Loc) => match q with | (k6_1, k6_la, k6_bk, k6_va, k6_su, k6_ce, k6_ho, k6_wy, k6_bt, k6_ps, k6_tg, k6_sn, k6_se, k6_re, k6_pt, k6_ip) => lv_has ls 3 [(1, .int k6_1), (0, .ref b_o)] ∧ va_P G.1 vwCl [(b_ro, (arI G 5740 v_ro)), (b_se, (arJ G 13 k6_se)), (b_re, (arJ G 400 k6_re)), (b_pt, (arI G 200 k6_pt)), (b_o, (oc12 u_th u_sa b_rf b_ro b_im b_ke u_fd b_tp u_td u_fr u_to u_so u_wo u_fa u_bd u_nc b_nl u_co b_op b_ar u_le b_pi b_pa u_pd u_od b_ws b_hw k6_la b_se b_re k6_bk k6_va k6_su k6_ce k6_ho k6_wy k6_bt k6_ps b_pt k6_tg k6_sn b_ip u_ic b_ah b_be b_me u_wd b_tr b_ld u_st b_wn u_id)), (b_ip, (arZ G 1536 k6_ip))] H ∧ va_D A [(b_ro, (arI G 5740 v_ro)), (b_se, (arJ G 13 k6_se)), (b_re, (arJ G 400 k6_re)), (b_pt, (arI G 200 k6_pt)), (b_o, (oc12 u_th u_sa b_rf b_ro b_im b_ke u_fd b_tp u_td u_fr u_to u_so u_wo u_fa u_bd u_nc b_nl u_co b_op b_ar u_le b_pi b_pa u_pd u_od b_ws b_hw k6_la b_se b_re k6_bk k6_va k6_su k6_ce k6_ho k6_wy k6_bt k6_ps b_pt k6_tg k6_sn b_ip u_ic b_ah b_be b_me u_wd b_tr b_ld u_st b_wn u_id)), (b_ip, (arZ G 1536 k6_ip))] ∧ va_S A s.heap H locs ∧ (0 ≤ k6_1.toInt ∧ k6_1.toInt ≤ 5) ∧ (0 ≤ k6_la.toInt ∧ k6_la.toInt ≤ 4840) ∧ (0 ≤ k6_bk.toInt ∧ k6_bk.toInt ≤ 1) ∧ (0 ≤ k6_ce.toInt ∧ k6_ce.toInt ≤ 63) ∧ (0 ≤ k6_ho.toInt ∧ k6_ho.toInt ≤ 23) ∧ (0 ≤ k6_wy.toInt ∧ k6_wy.toInt ≤ 3) ∧ (0 ≤ k6_bt.toInt ∧ k6_bt.toInt ≤ 1000000) ∧ (0 ≤ k6_ps.toInt ∧ k6_ps.toInt ≤ 200) ∧ (PTI k6_pt)) (fun (q : (Int32) × (Int32) × (Int32) × (Int64) × (Int64) × (Int32) × (Int32) × (Int32) × (Int32) × (Int32) × (Int32) × (Int32) × (Nat → Int64) × (Nat → Int64) × (Nat → Int32) × (Nat → Int32)) => match q with | (k6_1, k6_la, k6_bk, k6_va, k6_su, k6_ce, k6_ho, k6_wy, k6_bt, k6_ps, k6_tg, k6_sn, k6_se, k6_re, k6_pt, k6_ip) => Int.toNat (5 - k6_1.toInt)) (0, u_la, u_bk, u_va, u_su, u_ce, u_ho, u_wy, u_bt, u_ps, u_tg, u_sn, v_se, v_re, v_pt, z1) ⟨lv_sub hl [0, 1] rfl, hP, hD, hS, ⟨by decide, by decide⟩, h_u_la, h_u_bk, h_u_ce, h_u_ho, h_u_wy, h_u_bt, h_u_ps, r_pt⟩ ?_
  rintro ⟨k6_1, k6_la, k6_bk, k6_va, k6_su, k6_ce, k6_ho, k6_wy, k6_bt, k6_ps, k6_tg, k6_sn, k6_se, k6_re, k6_pt, k6_ip⟩ ls H locs ⟨hl, hP, hD, hS, i_2, i_3, i_4, i_5, i_6, i_7, i_8, i_9, i_10⟩ ih_6_11
  have hl : lv_has ls 3 [(1, .int k6_1), (0, .ref b_o)] := hl
  have i_2 : 0 ≤ k6_1.toInt ∧ k6_1.toInt ≤ 5 := i_2
  have i_3 : 0 ≤ k6_la.toInt ∧ k6_la.toInt ≤ 4840 := i_3
  have i_4 : 0 ≤ k6_bk.toInt ∧ k6_bk.toInt ≤ 1 := i_4
  have i_5 : 0 ≤ k6_ce.toInt ∧ k6_ce.toInt ≤ 63 := i_5
  have i_6 : 0 ≤ k6_ho.toInt ∧ k6_ho.toInt ≤ 23 := i_6
  have i_7 : 0 ≤ k6_wy.toInt ∧ k6_wy.toInt ≤ 3 := i_7
  have i_8 : 0 ≤ k6_bt.toInt ∧ k6_bt.toInt ≤ 1000000 := i_8
  have i_9 : 0 ≤ k6_ps.toInt ∧ k6_ps.toInt ≤ 200 := i_9
  have i_10 : PTI k6_pt := i_10
  refine g5_rs [(b_ro, (arI G 5740 v_ro)), (b_se, (arJ G 13 k6_se)), (b_re, (arJ G 400 k6_re)), (b_pt, (arI G 200 k6_pt)), (b_o, (oc12 u_th u_sa b_rf b_ro b_im b_ke u_fd b_tp u_td u_fr u_to u_so u_wo u_fa u_bd u_nc b_nl u_co b_op b_ar u_le b_pi b_pa u_pd u_od b_ws b_hw k6_la b_se b_re k6_bk k6_va k6_su k6_ce k6_ho k6_wy k6_bt k6_ps b_pt k6_tg k6_sn b_ip u_ic b_ah b_be b_me u_wd b_tr b_ld u_st b_wn u_id)), (b_ip, (arZ G 1536 k6_ip))] hP hD (fun hP hD => ?_)
  refine lv_iload_n hx hb dX12_markAll_6 rfl (lv_at hl 0 rfl) ?_
  refine lv_aload_n hx hb dX12_markAll_7 rfl (lv_at hl 1 rfl) ?_
  refine va_get (D := G.1) (ci := 12) (v := .ref b_ro) (C := RX12) (T := TX12) (N := 52) hx hb hts inG_X12 hown hK hP 4 rfl rfl 3 (by decide) (hts _ fl_X12_13) (fun _ h9 => h9) rfl dX12_markAll_8 ?_
  refine lv_iconst (v := 1) hx hb dX12_markAll_11 (by decide) ?_
  refine va_iald hx hb hK hP 0 0 rfl rfl (i := 1) (by unfold vp_in; decide) dX12_markAll_12 ?_
  refine g5_ti (v := (v_ro 1)) rfl ?_
  have hr_12 : 0 ≤ (v_ro 1).toInt ∧ (v_ro 1).toInt ≤ 5 := mi_1 r_ro
  refine lv_icmp_ge (tgt := 57) hx hb dX12_markAll_13 (by decide) (fun c_13 => ?_) (fun c_13 => ?_)
  ·
    have i_13 : k6_1.toInt ≥ (v_ro 1).toInt := by have z := g5_ge (a := k6_1.toInt) (b := (v_ro 1).toInt) (by rfl) (by rfl) c_13; omega
    exact W.vret hx hb hr (fun t ht hW => ⟨⟨[(b_o, (oc12 u_th u_sa b_rf b_ro b_im b_ke u_fd b_tp u_td u_fr u_to u_so u_wo u_fa u_bd u_nc b_nl u_co b_op b_ar u_le b_pi b_pa u_pd u_od b_ws b_hw k6_la b_se b_re k6_bk k6_va k6_su k6_ce k6_ho k6_wy k6_bt k6_ps b_pt k6_tg k6_sn b_ip u_ic b_ah b_be b_me u_wd b_tr b_ld u_st b_wn u_id)), (b_ro, (arI G 5740 v_ro)), (b_se, (arJ G 13 k6_se)), (b_re, (arJ G 400 k6_re)), (b_pt, (arI G 200 k6_pt)), (b_ip, (arZ G 1536 k6_ip))], rfl, ⟨k6_la, k6_bk, k6_va, k6_su, k6_ce, k6_ho, k6_wy, k6_bt, k6_ps, k6_tg, k6_sn, k6_se, k6_re, k6_pt, k6_ip, i_3, i_4, i_5, i_6, i_7, i_8, i_9, i_10, rfl⟩, by rw [ht]; exact hP.sub [4, 0, 1, 2, 3, 5] rfl, hD.sub [4, 0, 1, 2, 3, 5] (by decide) rfl⟩, hS.F ht⟩) hS.2.2 dX12_markAll_57
  ·
    have i_13 : k6_1.toInt < (v_ro 1).toInt := by have z := g5_geN (a := k6_1.toInt) (b := (v_ro 1).toInt) (by rfl) (by rfl) c_13; omega
    refine lv_iconst (v := 0) hx hb dX12_markAll_16 (by decide) ?_
    refine lv_istore_n (lv' := [(2, .int 0), (1, .int k6_1), (0, .ref b_o)]) hx hb dX12_markAll_17 rfl hl (by decide) rfl (fun ls hl => ?_)
    refine g5_loop (α := (Int32) × (Int32) × (Int32) × (Int64) × (Int64) × (Int32) × (Int32) × (Int32) × (Int32) × (Int32) × (Int32) × (Int32) × (Nat → Int64) × (Nat → Int64) × (Nat → Int32) × (Nat → Int32)) (fun (q : (Int32) × (Int32) × (Int32) × (Int64) × (Int64) × (Int32) × (Int32) × (Int32) × (Int32) × (Int32) × (Int32) × (Int32) × (Nat → Int64) × (Nat → Int64) × (Nat → Int32) × (Nat → Int32)) (ls : Array Slot) (H : Heap) (locs : List Loc) => match q with | (k18_2, k18_la, k18_bk, k18_va, k18_su, k18_ce, k18_ho, k18_wy, k18_bt, k18_ps, k18_tg, k18_sn, k18_se, k18_re, k18_pt, k18_ip) => lv_has ls 3 [(2, .int k18_2), (1, .int k6_1), (0, .ref b_o)] ∧ va_P G.1 vwCl [(b_ro, (arI G 5740 v_ro)), (b_se, (arJ G 13 k18_se)), (b_re, (arJ G 400 k18_re)), (b_pt, (arI G 200 k18_pt)), (b_o, (oc12 u_th u_sa b_rf b_ro b_im b_ke u_fd b_tp u_td u_fr u_to u_so u_wo u_fa u_bd u_nc b_nl u_co b_op b_ar u_le b_pi b_pa u_pd u_od b_ws b_hw k18_la b_se b_re k18_bk k18_va k18_su k18_ce k18_ho k18_wy k18_bt k18_ps b_pt k18_tg k18_sn b_ip u_ic b_ah b_be b_me u_wd b_tr b_ld u_st b_wn u_id)), (b_ip, (arZ G 1536 k18_ip))] H ∧ va_D A [(b_ro, (arI G 5740 v_ro)), (b_se, (arJ G 13 k18_se)), (b_re, (arJ G 400 k18_re)), (b_pt, (arI G 200 k18_pt)), (b_o, (oc12 u_th u_sa b_rf b_ro b_im b_ke u_fd b_tp u_td u_fr u_to u_so u_wo u_fa u_bd u_nc b_nl u_co b_op b_ar u_le b_pi b_pa u_pd u_od b_ws b_hw k18_la b_se b_re k18_bk k18_va k18_su k18_ce k18_ho k18_wy k18_bt k18_ps b_pt k18_tg k18_sn b_ip u_ic b_ah b_be b_me u_wd b_tr b_ld u_st b_wn u_id)), (b_ip, (arZ G 1536 k18_ip))] ∧ va_S A s.heap H locs ∧ (0 ≤ k18_2.toInt ∧ k18_2.toInt ≤ 24) ∧ (0 ≤ k18_la.toInt ∧ k18_la.toInt ≤ 4840) ∧ (0 ≤ k18_bk.toInt ∧ k18_bk.toInt ≤ 1) ∧ (0 ≤ k18_ce.toInt ∧ k18_ce.toInt ≤ 63) ∧ (0 ≤ k18_ho.toInt ∧ k18_ho.toInt ≤ 23) ∧ (0 ≤ k18_wy.toInt ∧ k18_wy.toInt ≤ 3) ∧ (0 ≤ k18_bt.toInt ∧ k18_bt.toInt ≤ 1000000) ∧ (0 ≤ k18_ps.toInt ∧ k18_ps.toInt ≤ 200) ∧ (PTI k18_pt)) (fun (q : (Int32) × (Int32) × (Int32) × (Int64) × (Int64) × (Int32) × (Int32) × (Int32) × (Int32) × (Int32) × (Int32) × (Int32) × (Nat → Int64) × (Nat → Int64) × (Nat → Int32) × (Nat → Int32)) => match q with | (k18_2, k18_la, k18_bk, k18_va, k18_su, k18_ce, k18_ho, k18_wy, k18_bt, k18_ps, k18_tg, k18_sn, k18_se, k18_re, k18_pt, k18_ip) => Int.toNat (24 - k18_2.toInt)) (0, k6_la, k6_bk, k6_va, k6_su, k6_ce, k6_ho, k6_wy, k6_bt, k6_ps, k6_tg, k6_sn, k6_se, k6_re, k6_pt, k6_ip) ⟨lv_sub hl [0, 1, 2] rfl, hP, hD, hS, ⟨by decide, by decide⟩, i_3, i_4, i_5, i_6, i_7, i_8, i_9, i_10⟩ ?_
    rintro ⟨k18_2, k18_la, k18_bk, k18_va, k18_su, k18_ce, k18_ho, k18_wy, k18_bt, k18_ps, k18_tg, k18_sn, k18_se, k18_re, k18_pt, k18_ip⟩ ls H locs ⟨hl, hP, hD, hS, i_14, i_15, i_16, i_17, i_18, i_19, i_20, i_21, i_22⟩ ih_18_23
    have hl : lv_has ls 3 [(2, .int k18_2), (1, .int k6_1), (0, .ref b_o)] := hl
    have i_14 : 0 ≤ k18_2.toInt ∧ k18_2.toInt ≤ 24 := i_14
    have i_15 : 0 ≤ k18_la.toInt ∧ k18_la.toInt ≤ 4840 := i_15
    have i_16 : 0 ≤ k18_bk.toInt ∧ k18_bk.toInt ≤ 1 := i_16
    have i_17 : 0 ≤ k18_ce.toInt ∧ k18_ce.toInt ≤ 63 := i_17
    have i_18 : 0 ≤ k18_ho.toInt ∧ k18_ho.toInt ≤ 23 := i_18
    have i_19 : 0 ≤ k18_wy.toInt ∧ k18_wy.toInt ≤ 3 := i_19
    have i_20 : 0 ≤ k18_bt.toInt ∧ k18_bt.toInt ≤ 1000000 := i_20
    have i_21 : 0 ≤ k18_ps.toInt ∧ k18_ps.toInt ≤ 200 := i_21
    have i_22 : PTI k18_pt := i_22
    refine g5_rs [(b_ro, (arI G 5740 v_ro)), (b_se, (arJ G 13 k18_se)), (b_re, (arJ G 400 k18_re)), (b_pt, (arI G 200 k18_pt)), (b_o, (oc12 u_th u_sa b_rf b_ro b_im b_ke u_fd b_tp u_td u_fr u_to u_so u_wo u_fa u_bd u_nc b_nl u_co b_op b_ar u_le b_pi b_pa u_pd u_od b_ws b_hw k18_la b_se b_re k18_bk k18_va k18_su k18_ce k18_ho k18_wy k18_bt k18_ps b_pt k18_tg k18_sn b_ip u_ic b_ah b_be b_me u_wd b_tr b_ld u_st b_wn u_id)), (b_ip, (arZ G 1536 k18_ip))] hP hD (fun hP hD => ?_)
    refine lv_iload_n hx hb dX12_markAll_18 rfl (lv_at hl 0 rfl) ?_
    refine lv_bipush (v := 24) hx hb dX12_markAll_19 (by decide) ?_
    refine lv_icmp_ge (tgt := 51) hx hb dX12_markAll_21 (by decide) (fun c_24 => ?_) (fun c_24 => ?_)
    ·
      have i_24 : k18_2.toInt ≥ 24 := by have z := g5_ge (a := k18_2.toInt) (b := 24) (by rfl) (by decide) c_24; omega
      refine lv_iinc (v := (k6_1 + 1)) (lv' := [(1, .int (k6_1 + 1)), (2, .int k18_2), (0, .ref b_o)]) hx hb dX12_markAll_51 hl (k := 1) rfl rfl (by decide) rfl (fun ls hl => ?_)
      have t_25 : (k6_1 + 1).toInt = k6_1.toInt + 1 := g5_iadd (a := k6_1.toInt) (b := 1) rfl (by decide) (by omega) (by omega)
      refine lv_goto (tgt := 6) hx hb dX12_markAll_54 (by decide) ?_
      exact ih_6_11 ((k6_1 + 1), k18_la, k18_bk, k18_va, k18_su, k18_ce, k18_ho, k18_wy, k18_bt, k18_ps, k18_tg, k18_sn, k18_se, k18_re, k18_pt, k18_ip) ls H locs (show Int.toNat (5 - (k6_1 + 1).toInt) < Int.toNat (5 - k6_1.toInt) from g_up (show k6_1.toInt < (k6_1 + 1).toInt by omega) (show k6_1.toInt < 5 by omega)) ⟨lv_sub hl [0, 2] rfl, hP, hD, hS, ⟨by omega, by omega⟩, i_15, i_16, i_17, i_18, i_19, i_20, i_21, i_22⟩
    ·
      have i_24 : k18_2.toInt < 24 := by have z := g5_geN (a := k18_2.toInt) (b := 24) (by rfl) (by decide) c_24; omega
      refine lv_aload_n hx hb dX12_markAll_24 rfl (lv_at hl 2 rfl) ?_
      refine lv_iload_n hx hb dX12_markAll_25 rfl (lv_at hl 1 rfl) ?_
      refine lv_iload_n hx hb dX12_markAll_26 rfl (lv_at hl 0 rfl) ?_
      obtain ⟨hPc, hDc, hFc⟩ := g5_sub3 (wc := [(b_o, (oc12 u_th u_sa b_rf b_ro b_im b_ke u_fd b_tp u_td u_fr u_to u_so u_wo u_fa u_bd u_nc b_nl u_co b_op b_ar u_le b_pi b_pa u_pd u_od b_ws b_hw k18_la b_se b_re k18_bk k18_va k18_su k18_ce k18_ho k18_wy k18_bt k18_ps b_pt k18_tg k18_sn b_ip u_ic b_ah b_be b_me u_wd b_tr b_ld u_st b_wn u_id)), (b_ro, (arI G 5740 v_ro))]) hP hD hS hA [4, 0] (by decide) rfl
      refine va_calli (va_runV (As := [.int k6_1, .int k18_2]) (rest := []) ⟨hx, hb, hml, hown, hts⟩ (n_whereIsX l G b_o b_ro b_rf b_im b_ke b_tp b_nl b_op b_ar b_pi b_pa b_ws b_hw b_se b_re b_pt b_ip b_ah b_be b_me b_tr b_ld b_wn H.size u_th u_sa u_fd u_td u_fr u_to u_so u_fa u_bd u_nc u_co u_le u_pd u_od k18_la k18_bk k18_ce k18_ho k18_wy k18_bt k18_ps k18_tg k18_sn u_ic u_wd u_id k6_1 k18_2 u_wo k18_va k18_su u_st v_ro h_u_td h_u_fr h_u_to h_u_bd h_u_nc h_u_co h_u_pd i_15 i_16 i_17 i_18 i_19 i_20 i_21 h_u_ic h_u_id ⟨by omega, by omega⟩ ⟨by omega, by omega⟩ (r_ro)) (cwV 2 hts gV_X12_187 rfl rfl rfl hv_X12_whereIs ⟨Nat.le_of_ble_eq_true rfl, Nat.le_of_ble_eq_true rfl⟩) (g5_preV hPc hK hDc hN hT hS hFc (ci := 12) (q0 := 0) rfl rfl) rfl rfl hl.1 rfl (lv_room (Nat.le_of_ble_eq_true rfl)) dX12_markAll_27 ⟨Nat.le_of_ble_eq_true rfl, Nat.le_of_ble_eq_true rfl⟩) hS (fun q _ h => hFc q h) hFc (fun r u t H1 locs ht hvm hw hB hz1 hk1 hS => ?_)
      obtain ⟨hP1, hD1⟩ := hB
      rw [ht] at hP1
      obtain ⟨z28, i_26, i_27, y29, rfl⟩ := hw
      have i_26 : (-1) ≤ z28.toInt ∧ z28.toInt ≤ 63 := i_26
      have i_27 : z28.toInt = (v_ro ((110 + (24 * k6_1)) + k18_2).toNatClampNeg).toInt := i_27
      obtain ⟨hP, hD⟩ := va_join (wr := [(b_se, (arJ G 13 k18_se)), (b_re, (arJ G 400 k18_re)), (b_pt, (arI G 200 k18_pt)), (b_ip, (arZ G 1536 k18_ip))]) hP hD [4, 0] [1, 2, 3, 5] rfl rfl (by decide) (by decide) hk1 hFc hP1 hD1
      generalize H1 = H at hP hS ⊢
      refine g5_rs [(b_se, (arJ G 13 k18_se)), (b_re, (arJ G 400 k18_re)), (b_pt, (arI G 200 k18_pt)), (b_ip, (arZ G 1536 k18_ip)), (b_o, (oc12 u_th u_sa b_rf b_ro b_im b_ke u_fd b_tp u_td u_fr u_to u_so u_wo u_fa u_bd u_nc b_nl u_co b_op b_ar u_le b_pi b_pa u_pd u_od b_ws b_hw k18_la b_se b_re k18_bk k18_va k18_su k18_ce k18_ho k18_wy k18_bt k18_ps b_pt k18_tg k18_sn b_ip u_ic b_ah b_be b_me u_wd b_tr b_ld u_st b_wn u_id)), (b_ro, (arI G 5740 v_ro))] hP hD (fun hP hD => ?_)
      refine g5_ti (v := z28) y29 ?_
      refine lv_iconst (v := (-1)) hx hb dX12_markAll_30 (by decide) ?_
      refine lv_icmp_eq (tgt := 45) hx hb dX12_markAll_31 (by decide) (fun c_30 => ?_) (fun c_30 => ?_)
      ·
        have i_30 : z28.toInt = (-1) := by have z := g5_eq (a := z28.toInt) (b := (-1)) (by rfl) (by decide) c_30; omega
        refine lv_iinc (v := (k18_2 + 1)) (lv' := [(2, .int (k18_2 + 1)), (1, .int k6_1), (0, .ref b_o)]) hx hb dX12_markAll_45 hl (k := 0) rfl rfl (by decide) rfl (fun ls hl => ?_)
        have t_31 : (k18_2 + 1).toInt = k18_2.toInt + 1 := g5_iadd (a := k18_2.toInt) (b := 1) rfl (by decide) (by omega) (by omega)
        refine lv_goto (tgt := 18) hx hb dX12_markAll_48 (by decide) ?_
        exact ih_18_23 ((k18_2 + 1), k18_la, k18_bk, k18_va, k18_su, k18_ce, k18_ho, k18_wy, k18_bt, k18_ps, k18_tg, k18_sn, k18_se, k18_re, k18_pt, k18_ip) ls H locs (show Int.toNat (24 - (k18_2 + 1).toInt) < Int.toNat (24 - k18_2.toInt) from g_up (show k18_2.toInt < (k18_2 + 1).toInt by omega) (show k18_2.toInt < 24 by omega)) ⟨lv_sub hl [0, 1, 2] rfl, hP.sub [5, 0, 1, 2, 4, 3] rfl, hD.sub [5, 0, 1, 2, 4, 3] (by decide) rfl, hS, ⟨by omega, by omega⟩, i_15, i_16, i_17, i_18, i_19, i_20, i_21, i_22⟩
      ·
        have n_30 : gNe (z28.toInt) ((-1)) := by have z := g5_eqN (a := z28.toInt) (b := (-1)) (by rfl) (by decide) c_30; unfold gNe; omega
        have i_30 : z28.toInt ≥ 0 := by have z := g5_eqN (a := z28.toInt) (b := (-1)) (by rfl) (by decide) c_30; omega
        refine lv_aload_n hx hb dX12_markAll_34 rfl (lv_at hl 2 rfl) ?_
        refine lv_aload_n hx hb dX12_markAll_35 rfl (lv_at hl 2 rfl) ?_
        refine lv_iload_n hx hb dX12_markAll_36 rfl (lv_at hl 1 rfl) ?_
        refine lv_iload_n hx hb dX12_markAll_37 rfl (lv_at hl 0 rfl) ?_
        obtain ⟨hPc, hDc, hFc⟩ := g5_sub3 (wc := [(b_o, (oc12 u_th u_sa b_rf b_ro b_im b_ke u_fd b_tp u_td u_fr u_to u_so u_wo u_fa u_bd u_nc b_nl u_co b_op b_ar u_le b_pi b_pa u_pd u_od b_ws b_hw k18_la b_se b_re k18_bk k18_va k18_su k18_ce k18_ho k18_wy k18_bt k18_ps b_pt k18_tg k18_sn b_ip u_ic b_ah b_be b_me u_wd b_tr b_ld u_st b_wn u_id)), (b_ro, (arI G 5740 v_ro))]) hP hD hS hA [4, 5] (by decide) rfl
        refine va_calli (va_runV (As := [.int k6_1, .int k18_2]) (rest := [.ref b_o]) ⟨hx, hb, hml, hown, hts⟩ (n_whereIsX l G b_o b_ro b_rf b_im b_ke b_tp b_nl b_op b_ar b_pi b_pa b_ws b_hw b_se b_re b_pt b_ip b_ah b_be b_me b_tr b_ld b_wn H.size u_th u_sa u_fd u_td u_fr u_to u_so u_fa u_bd u_nc u_co u_le u_pd u_od k18_la k18_bk k18_ce k18_ho k18_wy k18_bt k18_ps k18_tg k18_sn u_ic u_wd u_id k6_1 k18_2 u_wo k18_va k18_su u_st v_ro h_u_td h_u_fr h_u_to h_u_bd h_u_nc h_u_co h_u_pd i_15 i_16 i_17 i_18 i_19 i_20 i_21 h_u_ic h_u_id ⟨by omega, by omega⟩ ⟨by omega, by omega⟩ (r_ro)) (cwV 2 hts gV_X12_187 rfl rfl rfl hv_X12_whereIs ⟨Nat.le_of_ble_eq_true rfl, Nat.le_of_ble_eq_true rfl⟩) (g5_preV hPc hK hDc hN hT hS hFc (ci := 12) (q0 := 0) rfl rfl) rfl rfl hl.1 rfl (lv_room (Nat.le_of_ble_eq_true rfl)) dX12_markAll_38 ⟨Nat.le_of_ble_eq_true rfl, Nat.le_of_ble_eq_true rfl⟩) hS (fun q _ h => hFc q h) hFc (fun r u t H1 locs ht hvm hw hB hz1 hk1 hS => ?_)
        obtain ⟨hP1, hD1⟩ := hB
        rw [ht] at hP1
        obtain ⟨z34, i_32, i_33, y35, rfl⟩ := hw
        have i_32 : (-1) ≤ z34.toInt ∧ z34.toInt ≤ 63 := i_32
        have i_33 : z34.toInt = (v_ro ((110 + (24 * k6_1)) + k18_2).toNatClampNeg).toInt := i_33
        obtain ⟨hP, hD⟩ := va_join (wr := [(b_se, (arJ G 13 k18_se)), (b_re, (arJ G 400 k18_re)), (b_pt, (arI G 200 k18_pt)), (b_ip, (arZ G 1536 k18_ip))]) hP hD [4, 5] [0, 1, 2, 3] rfl rfl (by decide) (by decide) hk1 hFc hP1 hD1
        generalize H1 = H at hP hS ⊢
        refine g5_rs [(b_se, (arJ G 13 k18_se)), (b_re, (arJ G 400 k18_re)), (b_pt, (arI G 200 k18_pt)), (b_ip, (arZ G 1536 k18_ip)), (b_o, (oc12 u_th u_sa b_rf b_ro b_im b_ke u_fd b_tp u_td u_fr u_to u_so u_wo u_fa u_bd u_nc b_nl u_co b_op b_ar u_le b_pi b_pa u_pd u_od b_ws b_hw k18_la b_se b_re k18_bk k18_va k18_su k18_ce k18_ho k18_wy k18_bt k18_ps b_pt k18_tg k18_sn b_ip u_ic b_ah b_be b_me u_wd b_tr b_ld u_st b_wn u_id)), (b_ro, (arI G 5740 v_ro))] hP hD (fun hP hD => ?_)
        refine g5_ti (v := z34) y35 ?_
        refine lv_iload_n hx hb dX12_markAll_41 rfl (lv_at hl 0 rfl) ?_
        obtain ⟨hPc, hDc, hFc⟩ := g5_sub3 (wc := [(b_o, (oc12 u_th u_sa b_rf b_ro b_im b_ke u_fd b_tp u_td u_fr u_to u_so u_wo u_fa u_bd u_nc b_nl u_co b_op b_ar u_le b_pi b_pa u_pd u_od b_ws b_hw k18_la b_se b_re k18_bk k18_va k18_su k18_ce k18_ho k18_wy k18_bt k18_ps b_pt k18_tg k18_sn b_ip u_ic b_ah b_be b_me u_wd b_tr b_ld u_st b_wn u_id)), (b_ro, (arI G 5740 v_ro)), (b_se, (arJ G 13 k18_se)), (b_re, (arJ G 400 k18_re)), (b_pt, (arI G 200 k18_pt)), (b_ip, (arZ G 1536 k18_ip))]) hP hD hS hA [4, 5, 0, 1, 2, 3] (by decide) rfl
        refine va_callv (va_runV (As := [.int z34, .int k18_2]) (rest := []) ⟨hx, hb, hml, hown, hts⟩ (n_mark l G b_o b_ro b_se b_re b_pt b_ip b_rf b_im b_ke b_tp b_nl b_op b_ar b_pi b_pa b_ws b_hw b_ah b_be b_me b_tr b_ld b_wn H.size u_th u_sa u_fd u_td u_fr u_to u_so u_fa u_bd u_nc u_co u_le u_pd u_od k18_la k18_bk k18_ce k18_ho k18_wy k18_bt k18_ps k18_tg k18_sn u_ic u_wd u_id z34 k18_2 u_wo k18_va k18_su u_st v_ro k18_se k18_re k18_pt k18_ip h_u_td h_u_fr h_u_to h_u_bd h_u_nc h_u_co h_u_pd i_15 i_16 i_17 i_18 i_19 i_20 i_21 h_u_ic h_u_id ⟨by omega, by omega⟩ ⟨by omega, by omega⟩ (r_ro) (i_22)) (cwV 2 hts gV_X12_416 rfl rfl rfl hv_X12_mark ⟨Nat.le_of_ble_eq_true rfl, Nat.le_of_ble_eq_true rfl⟩) (g5_preV hPc hK hDc hN hT hS hFc (ci := 12) (q0 := 0) rfl rfl) rfl rfl hl.1 rfl (lv_room (Nat.le_of_ble_eq_true rfl)) dX12_markAll_42 ⟨Nat.le_of_ble_eq_true rfl, Nat.le_of_ble_eq_true rfl⟩) hS (fun q _ h => hFc q h) hFc (fun u t H1 locs ht hvm hw hB hz1 hk1 hS => ?_)
        obtain ⟨hP1, hD1⟩ := hB
        rw [ht] at hP1
        obtain ⟨z44, z45, z46, z47, z48, z49, z50, z51, z52, z53, z54, z55, z56, z57, z58, i_36, i_37, i_38, i_39, i_40, i_41, i_42, i_43, rfl⟩ := hw
        have i_36 : 0 ≤ z44.toInt ∧ z44.toInt ≤ 4840 := i_36
        have i_37 : 0 ≤ z45.toInt ∧ z45.toInt ≤ 1 := i_37
        have i_38 : 0 ≤ z48.toInt ∧ z48.toInt ≤ 63 := i_38
        have i_39 : 0 ≤ z49.toInt ∧ z49.toInt ≤ 23 := i_39
        have i_40 : 0 ≤ z50.toInt ∧ z50.toInt ≤ 3 := i_40
        have i_41 : 0 ≤ z51.toInt ∧ z51.toInt ≤ 1000000 := i_41
        have i_42 : 0 ≤ z52.toInt ∧ z52.toInt ≤ 200 := i_42
        have i_43 : PTI z57 := i_43
        obtain ⟨hP, hD⟩ := va_join (wr := []) hP hD [4, 5, 0, 1, 2, 3] [] rfl rfl (by decide) (by decide) hk1 hFc hP1 hD1
        generalize H1 = H at hP hS ⊢
        refine g5_rs [(b_o, (oc12 u_th u_sa b_rf b_ro b_im b_ke u_fd b_tp u_td u_fr u_to u_so u_wo u_fa u_bd u_nc b_nl u_co b_op b_ar u_le b_pi b_pa u_pd u_od b_ws b_hw z44 b_se b_re z45 z46 z47 z48 z49 z50 z51 z52 b_pt z53 z54 b_ip u_ic b_ah b_be b_me u_wd b_tr b_ld u_st b_wn u_id)), (b_ro, (arI G 5740 v_ro)), (b_se, (arJ G 13 z55)), (b_re, (arJ G 400 z56)), (b_pt, (arI G 200 z57)), (b_ip, (arZ G 1536 z58))] hP hD (fun hP hD => ?_)
        refine lv_iinc (v := (k18_2 + 1)) (lv' := [(2, .int (k18_2 + 1)), (1, .int k6_1), (0, .ref b_o)]) hx hb dX12_markAll_45 hl (k := 0) rfl rfl (by decide) rfl (fun ls hl => ?_)
        have t_59 : (k18_2 + 1).toInt = k18_2.toInt + 1 := g5_iadd (a := k18_2.toInt) (b := 1) rfl (by decide) (by omega) (by omega)
        refine lv_goto (tgt := 18) hx hb dX12_markAll_48 (by decide) ?_
        exact ih_18_23 ((k18_2 + 1), z44, z45, z46, z47, z48, z49, z50, z51, z52, z53, z54, z55, z56, z57, z58) ls H locs (show Int.toNat (24 - (k18_2 + 1).toInt) < Int.toNat (24 - k18_2.toInt) from g_up (show k18_2.toInt < (k18_2 + 1).toInt by omega) (show k18_2.toInt < 24 by omega)) ⟨lv_sub hl [0, 1, 2] rfl, hP.sub [1, 2, 3, 4, 0, 5] rfl, hD.sub [1, 2, 3, 4, 0, 5] (by decide) rfl, hS, ⟨by omega, by omega⟩, i_36, i_37, i_38, i_39, i_40, i_41, i_42, i_43⟩
theorem dgX12_unseen_0 : ∀ r ∈ ([(0, (.aload_n 0, 1)), (1, (.iconst 0, 1)), (2, (.putfield 107, 3)), (5, (.iload_n 1, 1)), (6, (.invokestatic 138, 3)), (9, (.ifCond .ne 5, 3)), (12, (.iconst (-1), 1)), (13, (.ireturn, 1)), (14, (.aload_n 0, 1)), (15, (.invokevirtual 419, 3)), (18, (.iconst 0, 1)), (19, (.istore_n 2, 1)), (20, (.iconst 0, 1)), (21, (.istore_n 3, 1)), (22, (.iload_n 3, 1)), (23, (.bipush 24, 2)), (25, (.if_icmp .ge 31, 3)), (28, (.iload_n 2, 1)), (29, (.aload_n 0, 1)), (30, (.getfield 85, 3)), (33, (.bipush 64, 2)), (35, (.iload_n 3, 1)), (36, (.imul, 1)), (37, (.iload_n 1, 1)), (38, (.iadd, 1)), (39, (.baload, 1)), (40, (.ifCond .eq 7, 3)), (43, (.iconst 0, 1)), (44, (.goto 4, 3)), (47, (.iconst 1, 1)), (48, (.iadd, 1)), (49, (.istore_n 2, 1)), (50, (.iinc 3 1, 3)), (53, (.goto (-31), 3)), (56, (.iload_n 2, 1)), (57, (.ireturn, 1))] : List (Nat × (Instr × Nat))), decode cX12_unseen r.1 = .ok r.2 := by decide +kernel
theorem dX12_unseen_0 : decode cX12_unseen 0 = .ok (.aload_n 0, 1) := dgX12_unseen_0 (0, (.aload_n 0, 1)) (List.mem_of_getElem? (i := 0) rfl)
theorem dX12_unseen_1 : decode cX12_unseen 1 = .ok (.iconst 0, 1) := dgX12_unseen_0 (1, (.iconst 0, 1)) (List.mem_of_getElem? (i := 1) rfl)
theorem dX12_unseen_2 : decode cX12_unseen 2 = .ok (.putfield 107, 3) := dgX12_unseen_0 (2, (.putfield 107, 3)) (List.mem_of_getElem? (i := 2) rfl)
theorem dX12_unseen_5 : decode cX12_unseen 5 = .ok (.iload_n 1, 1) := dgX12_unseen_0 (5, (.iload_n 1, 1)) (List.mem_of_getElem? (i := 3) rfl)
theorem dX12_unseen_6 : decode cX12_unseen 6 = .ok (.invokestatic 138, 3) := dgX12_unseen_0 (6, (.invokestatic 138, 3)) (List.mem_of_getElem? (i := 4) rfl)
theorem dX12_unseen_9 : decode cX12_unseen 9 = .ok (.ifCond .ne 5, 3) := dgX12_unseen_0 (9, (.ifCond .ne 5, 3)) (List.mem_of_getElem? (i := 5) rfl)
theorem dX12_unseen_12 : decode cX12_unseen 12 = .ok (.iconst (-1), 1) := dgX12_unseen_0 (12, (.iconst (-1), 1)) (List.mem_of_getElem? (i := 6) rfl)
theorem dX12_unseen_13 : decode cX12_unseen 13 = .ok (.ireturn, 1) := dgX12_unseen_0 (13, (.ireturn, 1)) (List.mem_of_getElem? (i := 7) rfl)
theorem dX12_unseen_14 : decode cX12_unseen 14 = .ok (.aload_n 0, 1) := dgX12_unseen_0 (14, (.aload_n 0, 1)) (List.mem_of_getElem? (i := 8) rfl)
theorem dX12_unseen_15 : decode cX12_unseen 15 = .ok (.invokevirtual 419, 3) := dgX12_unseen_0 (15, (.invokevirtual 419, 3)) (List.mem_of_getElem? (i := 9) rfl)
theorem dX12_unseen_18 : decode cX12_unseen 18 = .ok (.iconst 0, 1) := dgX12_unseen_0 (18, (.iconst 0, 1)) (List.mem_of_getElem? (i := 10) rfl)
theorem dX12_unseen_19 : decode cX12_unseen 19 = .ok (.istore_n 2, 1) := dgX12_unseen_0 (19, (.istore_n 2, 1)) (List.mem_of_getElem? (i := 11) rfl)
theorem dX12_unseen_20 : decode cX12_unseen 20 = .ok (.iconst 0, 1) := dgX12_unseen_0 (20, (.iconst 0, 1)) (List.mem_of_getElem? (i := 12) rfl)
theorem dX12_unseen_21 : decode cX12_unseen 21 = .ok (.istore_n 3, 1) := dgX12_unseen_0 (21, (.istore_n 3, 1)) (List.mem_of_getElem? (i := 13) rfl)
theorem dX12_unseen_22 : decode cX12_unseen 22 = .ok (.iload_n 3, 1) := dgX12_unseen_0 (22, (.iload_n 3, 1)) (List.mem_of_getElem? (i := 14) rfl)
theorem dX12_unseen_23 : decode cX12_unseen 23 = .ok (.bipush 24, 2) := dgX12_unseen_0 (23, (.bipush 24, 2)) (List.mem_of_getElem? (i := 15) rfl)
theorem dX12_unseen_25 : decode cX12_unseen 25 = .ok (.if_icmp .ge 31, 3) := dgX12_unseen_0 (25, (.if_icmp .ge 31, 3)) (List.mem_of_getElem? (i := 16) rfl)
theorem dX12_unseen_28 : decode cX12_unseen 28 = .ok (.iload_n 2, 1) := dgX12_unseen_0 (28, (.iload_n 2, 1)) (List.mem_of_getElem? (i := 17) rfl)
theorem dX12_unseen_29 : decode cX12_unseen 29 = .ok (.aload_n 0, 1) := dgX12_unseen_0 (29, (.aload_n 0, 1)) (List.mem_of_getElem? (i := 18) rfl)
theorem dX12_unseen_30 : decode cX12_unseen 30 = .ok (.getfield 85, 3) := dgX12_unseen_0 (30, (.getfield 85, 3)) (List.mem_of_getElem? (i := 19) rfl)
theorem dX12_unseen_33 : decode cX12_unseen 33 = .ok (.bipush 64, 2) := dgX12_unseen_0 (33, (.bipush 64, 2)) (List.mem_of_getElem? (i := 20) rfl)
theorem dX12_unseen_35 : decode cX12_unseen 35 = .ok (.iload_n 3, 1) := dgX12_unseen_0 (35, (.iload_n 3, 1)) (List.mem_of_getElem? (i := 21) rfl)
theorem dX12_unseen_36 : decode cX12_unseen 36 = .ok (.imul, 1) := dgX12_unseen_0 (36, (.imul, 1)) (List.mem_of_getElem? (i := 22) rfl)
theorem dX12_unseen_37 : decode cX12_unseen 37 = .ok (.iload_n 1, 1) := dgX12_unseen_0 (37, (.iload_n 1, 1)) (List.mem_of_getElem? (i := 23) rfl)
theorem dX12_unseen_38 : decode cX12_unseen 38 = .ok (.iadd, 1) := dgX12_unseen_0 (38, (.iadd, 1)) (List.mem_of_getElem? (i := 24) rfl)
theorem dX12_unseen_39 : decode cX12_unseen 39 = .ok (.baload, 1) := dgX12_unseen_0 (39, (.baload, 1)) (List.mem_of_getElem? (i := 25) rfl)
theorem dX12_unseen_40 : decode cX12_unseen 40 = .ok (.ifCond .eq 7, 3) := dgX12_unseen_0 (40, (.ifCond .eq 7, 3)) (List.mem_of_getElem? (i := 26) rfl)
theorem dX12_unseen_43 : decode cX12_unseen 43 = .ok (.iconst 0, 1) := dgX12_unseen_0 (43, (.iconst 0, 1)) (List.mem_of_getElem? (i := 27) rfl)
theorem dX12_unseen_44 : decode cX12_unseen 44 = .ok (.goto 4, 3) := dgX12_unseen_0 (44, (.goto 4, 3)) (List.mem_of_getElem? (i := 28) rfl)
theorem dX12_unseen_47 : decode cX12_unseen 47 = .ok (.iconst 1, 1) := dgX12_unseen_0 (47, (.iconst 1, 1)) (List.mem_of_getElem? (i := 29) rfl)
theorem dX12_unseen_48 : decode cX12_unseen 48 = .ok (.iadd, 1) := dgX12_unseen_0 (48, (.iadd, 1)) (List.mem_of_getElem? (i := 30) rfl)
theorem dX12_unseen_49 : decode cX12_unseen 49 = .ok (.istore_n 2, 1) := dgX12_unseen_0 (49, (.istore_n 2, 1)) (List.mem_of_getElem? (i := 31) rfl)
theorem dX12_unseen_50 : decode cX12_unseen 50 = .ok (.iinc 3 1, 3) := dgX12_unseen_0 (50, (.iinc 3 1, 3)) (List.mem_of_getElem? (i := 32) rfl)
theorem dX12_unseen_53 : decode cX12_unseen 53 = .ok (.goto (-31), 3) := dgX12_unseen_0 (53, (.goto (-31), 3)) (List.mem_of_getElem? (i := 33) rfl)
theorem dX12_unseen_56 : decode cX12_unseen 56 = .ok (.iload_n 2, 1) := dgX12_unseen_0 (56, (.iload_n 2, 1)) (List.mem_of_getElem? (i := 34) rfl)
theorem dX12_unseen_57 : decode cX12_unseen 57 = .ok (.ireturn, 1) := dgX12_unseen_0 (57, (.ireturn, 1)) (List.mem_of_getElem? (i := 35) rfl)
theorem ml_X12_419 : Cond.methodLink RX12 419 yX12_markAll ∈ tblG := tg 1692 (by decide +kernel) (by decide +kernel)
theorem im_X12_markAll : Cond.instanceMethod yX12_markAll ∈ tblG := tg 1694 (by decide +kernel) (by decide +kernel)
theorem se_X12_markAll : Cond.selects RX12 yX12_markAll yX12_markAll ∈ tblG := tg 74 (by decide +kernel) (by decide +kernel)
theorem cd_X12_markAll : Cond.code yX12_markAll cX12_markAll 3 none ∈ tblG := tg 1695 (by decide +kernel) (by decide +kernel)
theorem gW_X12_markAll : GoodIn tblG (wsG yX12_markAll cX12_markAll 3 none) := tgi cd_X12_markAll
theorem gV_X12_419 : GoodIn tblG (wsV RX12 419 RX12 yX12_markAll (wsG yX12_markAll cX12_markAll 3 none)) := tgV ml_X12_419 im_X12_markAll se_X12_markAll ini_X12 gW_X12_markAll
theorem hv_X12_markAll : yX12_markAll.cls = RX12 ∧ yX12_markAll.cls ≠ "java/lang/invoke/MethodHandle" ∧ yX12_markAll.cls ≠ "java/lang/invoke/VarHandle" ∧ (parseMethodDescriptor yX12_markAll.desc).map (fun d => d.parameters.length) = some 0 := by decide +kernel
set_option maxHeartbeats 4000000 in
set_option maxRecDepth 100000 in
theorem n_unseen (l : Launch) (G : g5_G) (b_o b_ro b_se b_re b_pt b_ip b_rf b_im b_ke b_tp b_nl b_op b_ar b_pi b_pa b_ws b_hw b_ah b_be b_me b_tr b_ld b_wn : Nat) (sz : Nat) (u_th : Int32) (u_sa : Int32) (u_fd : Int32) (u_td : Int32) (u_fr : Int32) (u_to : Int32) (u_so : Int32) (u_fa : Int32) (u_bd : Int32) (u_nc : Int32) (u_co : Int32) (u_le : Int32) (u_pd : Int32) (u_od : Int32) (u_la : Int32) (u_bk : Int32) (u_ce : Int32) (u_ho : Int32) (u_wy : Int32) (u_bt : Int32) (u_ps : Int32) (u_tg : Int32) (u_sn : Int32) (u_ic : Int32) (u_wd : Int32) (u_id : Int32) (p_1 : Int32) (u_wo : Int64) (u_va : Int64) (u_su : Int64) (u_st : Int64) (v_ro : Nat → Int32) (v_se : Nat → Int64) (v_re : Nat → Int64) (v_pt : Nat → Int32) (v_ip : Nat → Int32) (h_u_td : 0 ≤ u_td.toInt ∧ u_td.toInt ≤ 400) (h_u_fr : 0 ≤ u_fr.toInt ∧ u_fr.toInt ≤ 400) (h_u_to : 0 ≤ u_to.toInt ∧ u_to.toInt ≤ 400) (h_u_bd : 0 ≤ u_bd.toInt ∧ u_bd.toInt ≤ 1) (h_u_nc : 0 ≤ u_nc.toInt ∧ u_nc.toInt ≤ 12) (h_u_co : 0 ≤ u_co.toInt ∧ u_co.toInt ≤ 400) (h_u_pd : 0 ≤ u_pd.toInt ∧ u_pd.toInt ≤ 400) (h_u_la : 0 ≤ u_la.toInt ∧ u_la.toInt ≤ 4840) (h_u_bk : 0 ≤ u_bk.toInt ∧ u_bk.toInt ≤ 1) (h_u_ce : 0 ≤ u_ce.toInt ∧ u_ce.toInt ≤ 63) (h_u_ho : 0 ≤ u_ho.toInt ∧ u_ho.toInt ≤ 23) (h_u_wy : 0 ≤ u_wy.toInt ∧ u_wy.toInt ≤ 3) (h_u_bt : 0 ≤ u_bt.toInt ∧ u_bt.toInt ≤ 1000000) (h_u_ps : 0 ≤ u_ps.toInt ∧ u_ps.toInt ≤ 200) (h_u_ic : 0 ≤ u_ic.toInt ∧ u_ic.toInt ≤ 1) (h_u_id : 0 ≤ u_id.toInt ∧ u_id.toInt ≤ 1) (r_ro : MI v_ro) (r_pt : PTI v_pt) : Met l yX12_unseen (wsG yX12_unseen cX12_unseen 4 (some .int)) ({ frames := 9, cells := 0, slots := 0, locals := 222 }) (va_Pc [.ref b_o, .int p_1] (g5_P G [(b_o, (oc12 u_th u_sa b_rf b_ro b_im b_ke u_fd b_tp u_td u_fr u_to u_so u_wo u_fa u_bd u_nc b_nl u_co b_op b_ar u_le b_pi b_pa u_pd u_od b_ws b_hw u_la b_se b_re u_bk u_va u_su u_ce u_ho u_wy u_bt u_ps b_pt u_tg u_sn b_ip u_ic b_ah b_be b_me u_wd b_tr b_ld u_st b_wn u_id)), (b_ro, (arI G 5740 v_ro)), (b_se, (arJ G 13 v_se)), (b_re, (arJ G 400 v_re)), (b_pt, (arI G 200 v_pt)), (b_ip, (arZ G 1536 v_ip))] sz)) (va_Qi (fun (r : Int32) (u : va_W) => (∃ (o_r : Int32) (o_th : Int32) (o_la : Int32) (o_bk : Int32) (o_va : Int64) (o_su : Int64) (o_ce : Int32) (o_ho : Int32) (o_wy : Int32) (o_bt : Int32) (o_ps : Int32) (o_tg : Int32) (o_sn : Int32) (o_se : Nat → Int64) (o_re : Nat → Int64) (o_pt : Nat → Int32) (o_ip : Nat → Int32), (0 ≤ o_la.toInt ∧ o_la.toInt ≤ 4840) ∧ (0 ≤ o_bk.toInt ∧ o_bk.toInt ≤ 1) ∧ (0 ≤ o_ce.toInt ∧ o_ce.toInt ≤ 63) ∧ (0 ≤ o_ho.toInt ∧ o_ho.toInt ≤ 23) ∧ (0 ≤ o_wy.toInt ∧ o_wy.toInt ≤ 3) ∧ (0 ≤ o_bt.toInt ∧ o_bt.toInt ≤ 1000000) ∧ (0 ≤ o_ps.toInt ∧ o_ps.toInt ≤ 200) ∧ (PTI o_pt) ∧ (r = o_r) ∧ (u = [(b_o, (oc12 o_th u_sa b_rf b_ro b_im b_ke u_fd b_tp u_td u_fr u_to u_so u_wo u_fa u_bd u_nc b_nl u_co b_op b_ar u_le b_pi b_pa u_pd u_od b_ws b_hw o_la b_se b_re o_bk o_va o_su o_ce o_ho o_wy o_bt o_ps b_pt o_tg o_sn b_ip u_ic b_ah b_be b_me u_wd b_tr b_ld u_st b_wn u_id)), (b_ro, (arI G 5740 v_ro)), (b_se, (arJ G 13 o_se)), (b_re, (arJ G 400 o_re)), (b_pt, (arI G 200 o_pt)), (b_ip, (arZ G 1536 o_ip))]))) (g5_B G (va_A [(b_o, (oc12 u_th u_sa b_rf b_ro b_im b_ke u_fd b_tp u_td u_fr u_to u_so u_wo u_fa u_bd u_nc b_nl u_co b_op b_ar u_le b_pi b_pa u_pd u_od b_ws b_hw u_la b_se b_re u_bk u_va u_su u_ce u_ho u_wy u_bt u_ps b_pt u_tg u_sn b_ip u_ic b_ah b_be b_me u_wd b_tr b_ld u_st b_wn u_id)), (b_ro, (arI G 5740 v_ro)), (b_se, (arJ G 13 v_se)), (b_re, (arJ G 400 v_re)), (b_pt, (arI G 200 v_pt)), (b_ip, (arZ G 1536 v_ip))] sz)) (va_A [(b_o, (oc12 u_th u_sa b_rf b_ro b_im b_ke u_fd b_tp u_td u_fr u_to u_so u_wo u_fa u_bd u_nc b_nl u_co b_op b_ar u_le b_pi b_pa u_pd u_od b_ws b_hw u_la b_se b_re u_bk u_va u_su u_ce u_ho u_wy u_bt u_ps b_pt u_tg u_sn b_ip u_ic b_ah b_be b_me u_wd b_tr b_ld u_st b_wn u_id)), (b_ro, (arI G 5740 v_ro)), (b_se, (arJ G 13 v_se)), (b_re, (arJ G 400 v_re)), (b_pt, (arI G 200 v_pt)), (b_ip, (arZ G 1536 v_ip))] sz)) 0 0 (va_A [(b_o, (oc12 u_th u_sa b_rf b_ro b_im b_ke u_fd b_tp u_td u_fr u_to u_so u_wo u_fa u_bd u_nc b_nl u_co b_op b_ar u_le b_pi b_pa u_pd u_od b_ws b_hw u_la b_se b_re u_bk u_va u_su u_ce u_ho u_wy u_bt u_ps b_pt u_tg u_sn b_ip u_ic b_ah b_be b_me u_wd b_tr b_ld u_st b_wn u_id)), (b_ro, (arI G 5740 v_ro)), (b_se, (arJ G 13 v_se)), (b_re, (arJ G 400 v_re)), (b_pt, (arI G 200 v_pt)), (b_ip, (arZ G 1536 v_ip))] sz) := by
  refine Met.ofW (cc := cX12_unseen) (maxL := 4) (ret := (some .int)) (by decide) rfl ?_
  intro p e s m args below meth c s₁ B hml hv
  obtain ⟨rfl, hsz, hP, hK, hD0, hN, hT⟩ := hv
  have hx := B.exec
  have hb := B.bytes
  have hr := B.returns
  have hts : ∀ w ∈ tblG, w.before _ s = true := fun w h => atoms_spec (ws := (wsG yX12_unseen cX12_unseen 4 (some .int))) B.pre w (List.mem_cons_of_mem _ h)
  have hown : s.vm.findClass RX12 = some m.cls := findClass_of_methodNamed B.named
  have hlocks := B.notSynchronized
  subst hsz
  have hD := hD0.self (sz := s.heap.size)
  generalize hAe : va_A [(b_o, (oc12 u_th u_sa b_rf b_ro b_im b_ke u_fd b_tp u_td u_fr u_to u_so u_wo u_fa u_bd u_nc b_nl u_co b_op b_ar u_le b_pi b_pa u_pd u_od b_ws b_hw u_la b_se b_re u_bk u_va u_su u_ce u_ho u_wy u_bt u_ps b_pt u_tg u_sn b_ip u_ic b_ah b_be b_me u_wd b_tr b_ld u_st b_wn u_id)), (b_ro, (arI G 5740 v_ro)), (b_se, (arJ G 13 v_se)), (b_re, (arJ G 400 v_re)), (b_pt, (arI G 200 v_pt)), (b_ip, (arZ G 1536 v_ip))] s.heap.size = A at hD hT ⊢
  have hA : ∀ q : Nat, s.heap.size ≤ q → A q := fun q h => by rw [← hAe]; exact Or.inr h
  have hS : va_S A s.heap s.heap [] := va_S.rf
  have hP : va_P G.1 vwCl [(b_o, (oc12 u_th u_sa b_rf b_ro b_im b_ke u_fd b_tp u_td u_fr u_to u_so u_wo u_fa u_bd u_nc b_nl u_co b_op b_ar u_le b_pi b_pa u_pd u_od b_ws b_hw u_la b_se b_re u_bk u_va u_su u_ce u_ho u_wy u_bt u_ps b_pt u_tg u_sn b_ip u_ic b_ah b_be b_me u_wd b_tr b_ld u_st b_wn u_id)), (b_ro, (arI G 5740 v_ro)), (b_se, (arJ G 13 v_se)), (b_re, (arJ G 400 v_re)), (b_pt, (arI G 200 v_pt)), (b_ip, (arZ G 1536 v_ip))] s.heap := hP
  have hl := lv_entry ([.ref b_o, .int p_1]) (n := 4) (Nat.le_of_ble_eq_true rfl)
  rw [lg_entry_eq]
  generalize (lg_sl ([.ref b_o, .int p_1]) ++ List.replicate (4 - (lg_sl ([.ref b_o, .int p_1])).length) Slot.unset).toArray = ls at hl ⊢
  have hl : lv_has ls 4 [(0, .ref b_o), (1, .int p_1)] := hl
  refine lv_aload_n hx hb dX12_unseen_0 rfl (lv_at hl 0 rfl) ?_
  refine lv_iconst (v := 0) hx hb dX12_unseen_1 (by decide) ?_
  refine va_put (D := G.1) (ci := 12) (v := .int 0) (ty := .int) (C := RX12) (T := TX12) (N := 52) hx hb hts inG_X12 tyX12 tyX12_ok nmX12 hown hK hP hD hS 0 rfl rfl 0 (by decide) (hts _ fl_X12_107) (fun _ h9 => h9) rfl (by decide +kernel) rfl rfl (Nat.le_of_ble_eq_true rfl) dX12_unseen_2 (fun H locs hP hD hS => ?_)
  refine g5_rs [(b_o, (oc12 0 u_sa b_rf b_ro b_im b_ke u_fd b_tp u_td u_fr u_to u_so u_wo u_fa u_bd u_nc b_nl u_co b_op b_ar u_le b_pi b_pa u_pd u_od b_ws b_hw u_la b_se b_re u_bk u_va u_su u_ce u_ho u_wy u_bt u_ps b_pt u_tg u_sn b_ip u_ic b_ah b_be b_me u_wd b_tr b_ld u_st b_wn u_id)), (b_ro, (arI G 5740 v_ro)), (b_se, (arJ G 13 v_se)), (b_re, (arJ G 400 v_re)), (b_pt, (arI G 200 v_pt)), (b_ip, (arZ G 1536 v_ip))] hP hD (fun hP hD => ?_)
  refine lv_iload_n hx hb dX12_unseen_5 rfl (lv_at hl 1 rfl) ?_
  obtain ⟨hPc, hDc, hFc⟩ := g5_sub3 (wc := []) hP hD hS hA [] (by decide) rfl
  refine va_calli (va_runS (As := [.int p_1]) (rest := []) ⟨hx, hb, hml, hown, hts⟩ (n_isCell l G H.size p_1) (va_cwS 1 hts gS_X12_138 rfl rfl rfl hs_X12_isCell ⟨Nat.le_of_ble_eq_true rfl, Nat.le_of_ble_eq_true rfl⟩) (g5_preS hPc hK hDc hN hT hS hFc) rfl rfl hl.1 rfl (lv_room (Nat.le_of_ble_eq_true rfl)) dX12_unseen_6 ⟨Nat.le_of_ble_eq_true rfl, Nat.le_of_ble_eq_true rfl⟩) hS (fun q _ h => hFc q h) hFc (fun r u t H1 locs ht hvm hw hB hz1 hk1 hS => ?_)
  obtain ⟨hP1, hD1⟩ := hB
  rw [ht] at hP1
  rcases hw with ⟨i_1, rfl, rfl⟩ | ⟨rfl, rfl⟩
  ·
    have i_1 : 0 ≤ p_1.toInt ∧ p_1.toInt ≤ 63 := i_1
    have hP := g5_same hP hk1
    generalize H1 = H at hP hS ⊢
    refine lv_if_ne (tgt := 14) hx hb dX12_unseen_9 (by decide) (fun c_2 => ?_) (fun c_2 => ?_)
    ·
      refine lv_aload_n hx hb dX12_unseen_14 rfl (lv_at hl 0 rfl) ?_
      obtain ⟨hPc, hDc, hFc⟩ := g5_sub3 (wc := [(b_o, (oc12 0 u_sa b_rf b_ro b_im b_ke u_fd b_tp u_td u_fr u_to u_so u_wo u_fa u_bd u_nc b_nl u_co b_op b_ar u_le b_pi b_pa u_pd u_od b_ws b_hw u_la b_se b_re u_bk u_va u_su u_ce u_ho u_wy u_bt u_ps b_pt u_tg u_sn b_ip u_ic b_ah b_be b_me u_wd b_tr b_ld u_st b_wn u_id)), (b_ro, (arI G 5740 v_ro)), (b_se, (arJ G 13 v_se)), (b_re, (arJ G 400 v_re)), (b_pt, (arI G 200 v_pt)), (b_ip, (arZ G 1536 v_ip))]) hP hD hS hA [0, 1, 2, 3, 4, 5] (by decide) rfl
      refine va_callv (va_runV (As := []) (rest := []) ⟨hx, hb, hml, hown, hts⟩ (n_markAll l G b_o b_ro b_se b_re b_pt b_ip b_rf b_im b_ke b_tp b_nl b_op b_ar b_pi b_pa b_ws b_hw b_ah b_be b_me b_tr b_ld b_wn H.size 0 u_sa u_fd u_td u_fr u_to u_so u_fa u_bd u_nc u_co u_le u_pd u_od u_la u_bk u_ce u_ho u_wy u_bt u_ps u_tg u_sn u_ic u_wd u_id u_wo u_va u_su u_st v_ro v_se v_re v_pt v_ip h_u_td h_u_fr h_u_to h_u_bd h_u_nc h_u_co h_u_pd h_u_la h_u_bk h_u_ce h_u_ho h_u_wy h_u_bt h_u_ps h_u_ic h_u_id (r_ro) (r_pt)) (cwV 0 hts gV_X12_419 rfl rfl rfl hv_X12_markAll ⟨Nat.le_of_ble_eq_true rfl, Nat.le_of_ble_eq_true rfl⟩) (g5_preV hPc hK hDc hN hT hS hFc (ci := 12) (q0 := 0) rfl rfl) rfl rfl hl.1 rfl (lv_room (Nat.le_of_ble_eq_true rfl)) dX12_unseen_15 ⟨Nat.le_of_ble_eq_true rfl, Nat.le_of_ble_eq_true rfl⟩) hS (fun q _ h => hFc q h) hFc (fun u t H1 locs ht hvm hw hB hz1 hk1 hS => ?_)
      obtain ⟨hP1, hD1⟩ := hB
      rw [ht] at hP1
      obtain ⟨z11, z12, z13, z14, z15, z16, z17, z18, z19, z20, z21, z22, z23, z24, z25, i_3, i_4, i_5, i_6, i_7, i_8, i_9, i_10, rfl⟩ := hw
      have i_3 : 0 ≤ z11.toInt ∧ z11.toInt ≤ 4840 := i_3
      have i_4 : 0 ≤ z12.toInt ∧ z12.toInt ≤ 1 := i_4
      have i_5 : 0 ≤ z15.toInt ∧ z15.toInt ≤ 63 := i_5
      have i_6 : 0 ≤ z16.toInt ∧ z16.toInt ≤ 23 := i_6
      have i_7 : 0 ≤ z17.toInt ∧ z17.toInt ≤ 3 := i_7
      have i_8 : 0 ≤ z18.toInt ∧ z18.toInt ≤ 1000000 := i_8
      have i_9 : 0 ≤ z19.toInt ∧ z19.toInt ≤ 200 := i_9
      have i_10 : PTI z24 := i_10
      obtain ⟨hP, hD⟩ := va_join (wr := []) hP hD [0, 1, 2, 3, 4, 5] [] rfl rfl (by decide) (by decide) hk1 hFc hP1 hD1
      generalize H1 = H at hP hS ⊢
      refine g5_rs [(b_o, (oc12 0 u_sa b_rf b_ro b_im b_ke u_fd b_tp u_td u_fr u_to u_so u_wo u_fa u_bd u_nc b_nl u_co b_op b_ar u_le b_pi b_pa u_pd u_od b_ws b_hw z11 b_se b_re z12 z13 z14 z15 z16 z17 z18 z19 b_pt z20 z21 b_ip u_ic b_ah b_be b_me u_wd b_tr b_ld u_st b_wn u_id)), (b_ro, (arI G 5740 v_ro)), (b_se, (arJ G 13 z22)), (b_re, (arJ G 400 z23)), (b_pt, (arI G 200 z24)), (b_ip, (arZ G 1536 z25))] hP hD (fun hP hD => ?_)
      refine lv_iconst (v := 0) hx hb dX12_unseen_18 (by decide) ?_
      refine lv_istore_n (lv' := [(2, .int 0), (0, .ref b_o), (1, .int p_1)]) hx hb dX12_unseen_19 rfl hl (by decide) rfl (fun ls hl => ?_)
      refine lv_iconst (v := 0) hx hb dX12_unseen_20 (by decide) ?_
      refine lv_istore_n (lv' := [(3, .int 0), (2, .int 0), (0, .ref b_o), (1, .int p_1)]) hx hb dX12_unseen_21 rfl hl (by decide) rfl (fun ls hl => ?_)
      refine g5_loop (α := (Int32) × (Int32)) (fun (q : (Int32) × (Int32)) (ls : Array Slot) (H : Heap) (locs : List Loc) => match q with | (k22_3, k22_2) => lv_has ls 4 [(2, .int k22_2), (3, .int k22_3), (0, .ref b_o), (1, .int p_1)] ∧ va_P G.1 vwCl [(b_o, (oc12 0 u_sa b_rf b_ro b_im b_ke u_fd b_tp u_td u_fr u_to u_so u_wo u_fa u_bd u_nc b_nl u_co b_op b_ar u_le b_pi b_pa u_pd u_od b_ws b_hw z11 b_se b_re z12 z13 z14 z15 z16 z17 z18 z19 b_pt z20 z21 b_ip u_ic b_ah b_be b_me u_wd b_tr b_ld u_st b_wn u_id)), (b_ro, (arI G 5740 v_ro)), (b_se, (arJ G 13 z22)), (b_re, (arJ G 400 z23)), (b_pt, (arI G 200 z24)), (b_ip, (arZ G 1536 z25))] H ∧ va_D A [(b_o, (oc12 0 u_sa b_rf b_ro b_im b_ke u_fd b_tp u_td u_fr u_to u_so u_wo u_fa u_bd u_nc b_nl u_co b_op b_ar u_le b_pi b_pa u_pd u_od b_ws b_hw z11 b_se b_re z12 z13 z14 z15 z16 z17 z18 z19 b_pt z20 z21 b_ip u_ic b_ah b_be b_me u_wd b_tr b_ld u_st b_wn u_id)), (b_ro, (arI G 5740 v_ro)), (b_se, (arJ G 13 z22)), (b_re, (arJ G 400 z23)), (b_pt, (arI G 200 z24)), (b_ip, (arZ G 1536 z25))] ∧ va_S A s.heap H locs ∧ (0 ≤ k22_3.toInt ∧ k22_3.toInt ≤ 24)) (fun (q : (Int32) × (Int32)) => match q with | (k22_3, k22_2) => Int.toNat (24 - k22_3.toInt)) (0, 0) ⟨lv_sub hl [1, 0, 2, 3] rfl, hP, hD, hS, ⟨by decide, by decide⟩⟩ ?_
      rintro ⟨k22_3, k22_2⟩ ls H locs ⟨hl, hP, hD, hS, i_26⟩ ih_22_27
      have hl : lv_has ls 4 [(2, .int k22_2), (3, .int k22_3), (0, .ref b_o), (1, .int p_1)] := hl
      have i_26 : 0 ≤ k22_3.toInt ∧ k22_3.toInt ≤ 24 := i_26
      refine g5_rs [(b_o, (oc12 0 u_sa b_rf b_ro b_im b_ke u_fd b_tp u_td u_fr u_to u_so u_wo u_fa u_bd u_nc b_nl u_co b_op b_ar u_le b_pi b_pa u_pd u_od b_ws b_hw z11 b_se b_re z12 z13 z14 z15 z16 z17 z18 z19 b_pt z20 z21 b_ip u_ic b_ah b_be b_me u_wd b_tr b_ld u_st b_wn u_id)), (b_ro, (arI G 5740 v_ro)), (b_se, (arJ G 13 z22)), (b_re, (arJ G 400 z23)), (b_pt, (arI G 200 z24)), (b_ip, (arZ G 1536 z25))] hP hD (fun hP hD => ?_)
      refine lv_iload_n hx hb dX12_unseen_22 rfl (lv_at hl 1 rfl) ?_
      refine lv_bipush (v := 24) hx hb dX12_unseen_23 (by decide) ?_
      refine lv_icmp_ge (tgt := 56) hx hb dX12_unseen_25 (by decide) (fun c_28 => ?_) (fun c_28 => ?_)
      ·
        have i_28 : k22_3.toInt ≥ 24 := by have z := g5_ge (a := k22_3.toInt) (b := 24) (by rfl) (by decide) c_28; omega
        refine lv_iload_n hx hb dX12_unseen_56 rfl (lv_at hl 0 rfl) ?_
        exact W.iret (v := k22_2) hx hb hr (fun t ht hW => ⟨⟨k22_2, [(b_o, (oc12 0 u_sa b_rf b_ro b_im b_ke u_fd b_tp u_td u_fr u_to u_so u_wo u_fa u_bd u_nc b_nl u_co b_op b_ar u_le b_pi b_pa u_pd u_od b_ws b_hw z11 b_se b_re z12 z13 z14 z15 z16 z17 z18 z19 b_pt z20 z21 b_ip u_ic b_ah b_be b_me u_wd b_tr b_ld u_st b_wn u_id)), (b_ro, (arI G 5740 v_ro)), (b_se, (arJ G 13 z22)), (b_re, (arJ G 400 z23)), (b_pt, (arI G 200 z24)), (b_ip, (arZ G 1536 z25))], rfl, ⟨k22_2, 0, z11, z12, z13, z14, z15, z16, z17, z18, z19, z20, z21, z22, z23, z24, z25, i_3, i_4, i_5, i_6, i_7, i_8, i_9, i_10, rfl, rfl⟩, by rw [ht]; exact hP.sub [0, 1, 2, 3, 4, 5] rfl, hD.sub [0, 1, 2, 3, 4, 5] (by decide) rfl⟩, hS.F ht⟩) hS.2.2 dX12_unseen_57
      ·
        have i_28 : k22_3.toInt < 24 := by have z := g5_geN (a := k22_3.toInt) (b := 24) (by rfl) (by decide) c_28; omega
        refine lv_iload_n hx hb dX12_unseen_28 rfl (lv_at hl 0 rfl) ?_
        refine lv_aload_n hx hb dX12_unseen_29 rfl (lv_at hl 2 rfl) ?_
        refine va_get (D := G.1) (ci := 12) (v := .ref b_ip) (C := RX12) (T := TX12) (N := 52) hx hb hts inG_X12 hown hK hP 0 rfl rfl 41 (by decide) (hts _ fl_X12_85) (fun _ h9 => h9) rfl dX12_unseen_30 ?_
        refine lv_bipush (v := 64) hx hb dX12_unseen_33 (by decide) ?_
        refine lv_iload_n hx hb dX12_unseen_35 rfl (lv_at hl 1 rfl) ?_
        refine lv_imul hx hb dX12_unseen_36 ?_
        have t_29 : (64 * k22_3).toInt = 64 * k22_3.toInt := g5_imul (a := 64) (b := k22_3.toInt) (by decide) (by rfl) (by omega) (by omega)
        refine lv_iload_n hx hb dX12_unseen_37 rfl (lv_at hl 3 rfl) ?_
        refine lv_iadd hx hb dX12_unseen_38 ?_
        have t_30 : ((64 * k22_3) + p_1).toInt = (64 * k22_3).toInt + p_1.toInt := g5_iadd (a := (64 * k22_3).toInt) (b := p_1.toInt) (by rfl) (by rfl) (by omega) (by omega)
        refine va_zald hx hb hK hP 5 2 rfl rfl (i := ((64 * k22_3) + p_1)) (vp_in_iff.mpr ⟨by omega, by omega⟩) dX12_unseen_39 ?_
        refine lv_if_eq (tgt := 47) hx hb dX12_unseen_40 (by decide) (fun c_31 => ?_) (fun c_31 => ?_)
        ·
          have i_31 : (z25 ((64 * k22_3) + p_1).toNatClampNeg).toInt = 0 := by have z := g5_eq (a := (z25 ((64 * k22_3) + p_1).toNatClampNeg).toInt) (b := 0) (by rfl) (by decide) c_31; omega
          refine lv_iconst (v := 1) hx hb dX12_unseen_47 (by decide) ?_
          refine lv_iadd hx hb dX12_unseen_48 ?_
          refine lv_istore_n (lv' := [(2, .int (k22_2 + 1)), (3, .int k22_3), (0, .ref b_o), (1, .int p_1)]) hx hb dX12_unseen_49 rfl hl (by decide) rfl (fun ls hl => ?_)
          refine lv_iinc (v := (k22_3 + 1)) (lv' := [(3, .int (k22_3 + 1)), (2, .int (k22_2 + 1)), (0, .ref b_o), (1, .int p_1)]) hx hb dX12_unseen_50 hl (k := 1) rfl rfl (by decide) rfl (fun ls hl => ?_)
          have t_32 : (k22_3 + 1).toInt = k22_3.toInt + 1 := g5_iadd (a := k22_3.toInt) (b := 1) rfl (by decide) (by omega) (by omega)
          refine lv_goto (tgt := 22) hx hb dX12_unseen_53 (by decide) ?_
          exact ih_22_27 ((k22_3 + 1), (k22_2 + 1)) ls H locs (show Int.toNat (24 - (k22_3 + 1).toInt) < Int.toNat (24 - k22_3.toInt) from g_up (show k22_3.toInt < (k22_3 + 1).toInt by omega) (show k22_3.toInt < 24 by omega)) ⟨lv_sub hl [1, 0, 2, 3] rfl, hP, hD, hS, ⟨by omega, by omega⟩⟩
        ·
          have n_31 : gNe ((z25 ((64 * k22_3) + p_1).toNatClampNeg).toInt) (0) := by have z := g5_eqN (a := (z25 ((64 * k22_3) + p_1).toNatClampNeg).toInt) (b := 0) (by rfl) (by decide) c_31; unfold gNe; omega
          refine lv_iconst (v := 0) hx hb dX12_unseen_43 (by decide) ?_
          refine lv_goto (tgt := 48) hx hb dX12_unseen_44 (by decide) ?_
          refine lv_iadd hx hb dX12_unseen_48 ?_
          refine g5_ti (v := k22_2) (by simp) ?_
          refine lv_istore_n (lv' := [(2, .int k22_2), (3, .int k22_3), (0, .ref b_o), (1, .int p_1)]) hx hb dX12_unseen_49 rfl hl (by decide) rfl (fun ls hl => ?_)
          refine lv_iinc (v := (k22_3 + 1)) (lv' := [(3, .int (k22_3 + 1)), (2, .int k22_2), (0, .ref b_o), (1, .int p_1)]) hx hb dX12_unseen_50 hl (k := 1) rfl rfl (by decide) rfl (fun ls hl => ?_)
          have t_33 : (k22_3 + 1).toInt = k22_3.toInt + 1 := g5_iadd (a := k22_3.toInt) (b := 1) rfl (by decide) (by omega) (by omega)
          refine lv_goto (tgt := 22) hx hb dX12_unseen_53 (by decide) ?_
          exact ih_22_27 ((k22_3 + 1), k22_2) ls H locs (show Int.toNat (24 - (k22_3 + 1).toInt) < Int.toNat (24 - k22_3.toInt) from g_up (show k22_3.toInt < (k22_3 + 1).toInt by omega) (show k22_3.toInt < 24 by omega)) ⟨lv_sub hl [1, 0, 2, 3] rfl, hP, hD, hS, ⟨by omega, by omega⟩⟩
    ·
      exact absurd c_2 (by decide)
  ·
    have hP := g5_same hP hk1
    generalize H1 = H at hP hS ⊢
    refine lv_if_ne (tgt := 14) hx hb dX12_unseen_9 (by decide) (fun c_34 => ?_) (fun c_34 => ?_)
    ·
      exact absurd c_34 (by decide)
    ·
      refine lv_iconst (v := (-1)) hx hb dX12_unseen_12 (by decide) ?_
      exact W.iret (v := (-1)) hx hb hr (fun t ht hW => ⟨⟨(-1), [(b_o, (oc12 0 u_sa b_rf b_ro b_im b_ke u_fd b_tp u_td u_fr u_to u_so u_wo u_fa u_bd u_nc b_nl u_co b_op b_ar u_le b_pi b_pa u_pd u_od b_ws b_hw u_la b_se b_re u_bk u_va u_su u_ce u_ho u_wy u_bt u_ps b_pt u_tg u_sn b_ip u_ic b_ah b_be b_me u_wd b_tr b_ld u_st b_wn u_id)), (b_ro, (arI G 5740 v_ro)), (b_se, (arJ G 13 v_se)), (b_re, (arJ G 400 v_re)), (b_pt, (arI G 200 v_pt)), (b_ip, (arZ G 1536 v_ip))], rfl, ⟨(-1), 0, u_la, u_bk, u_va, u_su, u_ce, u_ho, u_wy, u_bt, u_ps, u_tg, u_sn, v_se, v_re, v_pt, v_ip, h_u_la, h_u_bk, h_u_ce, h_u_ho, h_u_wy, h_u_bt, h_u_ps, r_pt, rfl, rfl⟩, by rw [ht]; exact hP.sub [0, 1, 2, 3, 4, 5] rfl, hD.sub [0, 1, 2, 3, 4, 5] (by decide) rfl⟩, hS.F ht⟩) hS.2.2 dX12_unseen_13
theorem dgX12_lacking_0 : ∀ r ∈ ([(0, (.iconst 0, 1)), (1, (.istore_n 2, 1)), (2, (.iconst 0, 1)), (3, (.istore_n 3, 1)), (4, (.iload_n 3, 1)), (5, (.aload_n 0, 1)), (6, (.getfield 13, 3)), (9, (.bipush 8, 2)), (11, (.iaload, 1)), (12, (.if_icmp .ge 134, 3)), (15, (.sipush 300, 3)), (18, (.bipush 6, 2)), (20, (.iload_n 3, 1)), (21, (.imul, 1)), (22, (.iadd, 1)), (23, (.istore 4, 2)), (25, (.aload_n 0, 1)), (26, (.aload_n 0, 1)), (27, (.getfield 13, 3)), (30, (.iload 4, 2)), (32, (.iaload, 1)), (33, (.aload_n 0, 1)), (34, (.getfield 13, 3)), (37, (.iload 4, 2)), (39, (.iconst 1, 1)), (40, (.iadd, 1)), (41, (.iaload, 1)), (42, (.aload_n 0, 1)), (43, (.getfield 13, 3)), (46, (.iload 4, 2)), (48, (.iconst 2, 1)), (49, (.iadd, 1)), (50, (.iaload, 1)), (51, (.iload_n 1, 1)), (52, (.invokevirtual 401, 3)), (55, (.iconst 0, 1)), (56, (.istore 5, 2)), (58, (.iconst 0, 1)), (59, (.istore 6, 2)), (61, (.iload 6, 2))] : List (Nat × (Instr × Nat))), decode cX12_lacking r.1 = .ok r.2 := by decide +kernel
theorem dX12_lacking_0 : decode cX12_lacking 0 = .ok (.iconst 0, 1) := dgX12_lacking_0 (0, (.iconst 0, 1)) (List.mem_of_getElem? (i := 0) rfl)
theorem dX12_lacking_1 : decode cX12_lacking 1 = .ok (.istore_n 2, 1) := dgX12_lacking_0 (1, (.istore_n 2, 1)) (List.mem_of_getElem? (i := 1) rfl)
theorem dX12_lacking_2 : decode cX12_lacking 2 = .ok (.iconst 0, 1) := dgX12_lacking_0 (2, (.iconst 0, 1)) (List.mem_of_getElem? (i := 2) rfl)
theorem dX12_lacking_3 : decode cX12_lacking 3 = .ok (.istore_n 3, 1) := dgX12_lacking_0 (3, (.istore_n 3, 1)) (List.mem_of_getElem? (i := 3) rfl)
theorem dX12_lacking_4 : decode cX12_lacking 4 = .ok (.iload_n 3, 1) := dgX12_lacking_0 (4, (.iload_n 3, 1)) (List.mem_of_getElem? (i := 4) rfl)
theorem dX12_lacking_5 : decode cX12_lacking 5 = .ok (.aload_n 0, 1) := dgX12_lacking_0 (5, (.aload_n 0, 1)) (List.mem_of_getElem? (i := 5) rfl)
theorem dX12_lacking_6 : decode cX12_lacking 6 = .ok (.getfield 13, 3) := dgX12_lacking_0 (6, (.getfield 13, 3)) (List.mem_of_getElem? (i := 6) rfl)
theorem dX12_lacking_9 : decode cX12_lacking 9 = .ok (.bipush 8, 2) := dgX12_lacking_0 (9, (.bipush 8, 2)) (List.mem_of_getElem? (i := 7) rfl)
theorem dX12_lacking_11 : decode cX12_lacking 11 = .ok (.iaload, 1) := dgX12_lacking_0 (11, (.iaload, 1)) (List.mem_of_getElem? (i := 8) rfl)
theorem dX12_lacking_12 : decode cX12_lacking 12 = .ok (.if_icmp .ge 134, 3) := dgX12_lacking_0 (12, (.if_icmp .ge 134, 3)) (List.mem_of_getElem? (i := 9) rfl)
theorem dX12_lacking_15 : decode cX12_lacking 15 = .ok (.sipush 300, 3) := dgX12_lacking_0 (15, (.sipush 300, 3)) (List.mem_of_getElem? (i := 10) rfl)
theorem dX12_lacking_18 : decode cX12_lacking 18 = .ok (.bipush 6, 2) := dgX12_lacking_0 (18, (.bipush 6, 2)) (List.mem_of_getElem? (i := 11) rfl)
theorem dX12_lacking_20 : decode cX12_lacking 20 = .ok (.iload_n 3, 1) := dgX12_lacking_0 (20, (.iload_n 3, 1)) (List.mem_of_getElem? (i := 12) rfl)
theorem dX12_lacking_21 : decode cX12_lacking 21 = .ok (.imul, 1) := dgX12_lacking_0 (21, (.imul, 1)) (List.mem_of_getElem? (i := 13) rfl)
theorem dX12_lacking_22 : decode cX12_lacking 22 = .ok (.iadd, 1) := dgX12_lacking_0 (22, (.iadd, 1)) (List.mem_of_getElem? (i := 14) rfl)
theorem dX12_lacking_23 : decode cX12_lacking 23 = .ok (.istore 4, 2) := dgX12_lacking_0 (23, (.istore 4, 2)) (List.mem_of_getElem? (i := 15) rfl)
theorem dX12_lacking_25 : decode cX12_lacking 25 = .ok (.aload_n 0, 1) := dgX12_lacking_0 (25, (.aload_n 0, 1)) (List.mem_of_getElem? (i := 16) rfl)
theorem dX12_lacking_26 : decode cX12_lacking 26 = .ok (.aload_n 0, 1) := dgX12_lacking_0 (26, (.aload_n 0, 1)) (List.mem_of_getElem? (i := 17) rfl)
theorem dX12_lacking_27 : decode cX12_lacking 27 = .ok (.getfield 13, 3) := dgX12_lacking_0 (27, (.getfield 13, 3)) (List.mem_of_getElem? (i := 18) rfl)
theorem dX12_lacking_30 : decode cX12_lacking 30 = .ok (.iload 4, 2) := dgX12_lacking_0 (30, (.iload 4, 2)) (List.mem_of_getElem? (i := 19) rfl)
theorem dX12_lacking_32 : decode cX12_lacking 32 = .ok (.iaload, 1) := dgX12_lacking_0 (32, (.iaload, 1)) (List.mem_of_getElem? (i := 20) rfl)
theorem dX12_lacking_33 : decode cX12_lacking 33 = .ok (.aload_n 0, 1) := dgX12_lacking_0 (33, (.aload_n 0, 1)) (List.mem_of_getElem? (i := 21) rfl)
theorem dX12_lacking_34 : decode cX12_lacking 34 = .ok (.getfield 13, 3) := dgX12_lacking_0 (34, (.getfield 13, 3)) (List.mem_of_getElem? (i := 22) rfl)
theorem dX12_lacking_37 : decode cX12_lacking 37 = .ok (.iload 4, 2) := dgX12_lacking_0 (37, (.iload 4, 2)) (List.mem_of_getElem? (i := 23) rfl)
theorem dX12_lacking_39 : decode cX12_lacking 39 = .ok (.iconst 1, 1) := dgX12_lacking_0 (39, (.iconst 1, 1)) (List.mem_of_getElem? (i := 24) rfl)
theorem dX12_lacking_40 : decode cX12_lacking 40 = .ok (.iadd, 1) := dgX12_lacking_0 (40, (.iadd, 1)) (List.mem_of_getElem? (i := 25) rfl)
theorem dX12_lacking_41 : decode cX12_lacking 41 = .ok (.iaload, 1) := dgX12_lacking_0 (41, (.iaload, 1)) (List.mem_of_getElem? (i := 26) rfl)
theorem dX12_lacking_42 : decode cX12_lacking 42 = .ok (.aload_n 0, 1) := dgX12_lacking_0 (42, (.aload_n 0, 1)) (List.mem_of_getElem? (i := 27) rfl)
theorem dX12_lacking_43 : decode cX12_lacking 43 = .ok (.getfield 13, 3) := dgX12_lacking_0 (43, (.getfield 13, 3)) (List.mem_of_getElem? (i := 28) rfl)
theorem dX12_lacking_46 : decode cX12_lacking 46 = .ok (.iload 4, 2) := dgX12_lacking_0 (46, (.iload 4, 2)) (List.mem_of_getElem? (i := 29) rfl)
theorem dX12_lacking_48 : decode cX12_lacking 48 = .ok (.iconst 2, 1) := dgX12_lacking_0 (48, (.iconst 2, 1)) (List.mem_of_getElem? (i := 30) rfl)
theorem dX12_lacking_49 : decode cX12_lacking 49 = .ok (.iadd, 1) := dgX12_lacking_0 (49, (.iadd, 1)) (List.mem_of_getElem? (i := 31) rfl)
theorem dX12_lacking_50 : decode cX12_lacking 50 = .ok (.iaload, 1) := dgX12_lacking_0 (50, (.iaload, 1)) (List.mem_of_getElem? (i := 32) rfl)
theorem dX12_lacking_51 : decode cX12_lacking 51 = .ok (.iload_n 1, 1) := dgX12_lacking_0 (51, (.iload_n 1, 1)) (List.mem_of_getElem? (i := 33) rfl)
theorem dX12_lacking_52 : decode cX12_lacking 52 = .ok (.invokevirtual 401, 3) := dgX12_lacking_0 (52, (.invokevirtual 401, 3)) (List.mem_of_getElem? (i := 34) rfl)
theorem dX12_lacking_55 : decode cX12_lacking 55 = .ok (.iconst 0, 1) := dgX12_lacking_0 (55, (.iconst 0, 1)) (List.mem_of_getElem? (i := 35) rfl)
theorem dX12_lacking_56 : decode cX12_lacking 56 = .ok (.istore 5, 2) := dgX12_lacking_0 (56, (.istore 5, 2)) (List.mem_of_getElem? (i := 36) rfl)
theorem dX12_lacking_58 : decode cX12_lacking 58 = .ok (.iconst 0, 1) := dgX12_lacking_0 (58, (.iconst 0, 1)) (List.mem_of_getElem? (i := 37) rfl)
theorem dX12_lacking_59 : decode cX12_lacking 59 = .ok (.istore 6, 2) := dgX12_lacking_0 (59, (.istore 6, 2)) (List.mem_of_getElem? (i := 38) rfl)
theorem dX12_lacking_61 : decode cX12_lacking 61 = .ok (.iload 6, 2) := dgX12_lacking_0 (61, (.iload 6, 2)) (List.mem_of_getElem? (i := 39) rfl)
