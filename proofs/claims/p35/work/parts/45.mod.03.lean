set_option maxHeartbeats 4000000 in
set_option maxRecDepth 100000 in
theorem n_lit (l : Launch) (G : g5_G) (b_o b_ro b_se b_re b_pt b_ip b_rf b_im b_ke b_tp b_nl b_op b_ar b_pi b_pa b_ws b_hw b_ah b_be b_me b_tr b_ld b_wn : Nat) (sz : Nat) (u_th : Int32) (u_sa : Int32) (u_fd : Int32) (u_td : Int32) (u_fr : Int32) (u_to : Int32) (u_so : Int32) (u_fa : Int32) (u_bd : Int32) (u_nc : Int32) (u_co : Int32) (u_le : Int32) (u_pd : Int32) (u_od : Int32) (u_la : Int32) (u_bk : Int32) (u_ce : Int32) (u_ho : Int32) (u_wy : Int32) (u_bt : Int32) (u_ps : Int32) (u_tg : Int32) (u_sn : Int32) (u_ic : Int32) (u_wd : Int32) (u_id : Int32) (p_1 : Int32) (p_2 : Int32) (p_3 : Int32) (u_wo : Int64) (u_va : Int64) (u_su : Int64) (u_st : Int64) (v_ro : Nat → Int32) (v_se : Nat → Int64) (v_re : Nat → Int64) (v_pt : Nat → Int32) (v_ip : Nat → Int32) (h_u_td : 0 ≤ u_td.toInt ∧ u_td.toInt ≤ 400) (h_u_fr : 0 ≤ u_fr.toInt ∧ u_fr.toInt ≤ 400) (h_u_to : 0 ≤ u_to.toInt ∧ u_to.toInt ≤ 400) (h_u_bd : 0 ≤ u_bd.toInt ∧ u_bd.toInt ≤ 1) (h_u_nc : 0 ≤ u_nc.toInt ∧ u_nc.toInt ≤ 12) (h_u_co : 0 ≤ u_co.toInt ∧ u_co.toInt ≤ 400) (h_u_pd : 0 ≤ u_pd.toInt ∧ u_pd.toInt ≤ 400) (h_u_la : 0 ≤ u_la.toInt ∧ u_la.toInt ≤ 4840) (h_u_bk : 0 ≤ u_bk.toInt ∧ u_bk.toInt ≤ 1) (h_u_ce : 0 ≤ u_ce.toInt ∧ u_ce.toInt ≤ 63) (h_u_ho : 0 ≤ u_ho.toInt ∧ u_ho.toInt ≤ 23) (h_u_wy : 0 ≤ u_wy.toInt ∧ u_wy.toInt ≤ 3) (h_u_bt : 0 ≤ u_bt.toInt ∧ u_bt.toInt ≤ 1000000) (h_u_ps : 0 ≤ u_ps.toInt ∧ u_ps.toInt ≤ 200) (h_u_ic : 0 ≤ u_ic.toInt ∧ u_ic.toInt ≤ 1) (h_u_id : 0 ≤ u_id.toInt ∧ u_id.toInt ≤ 1) (r_ro : MI v_ro) (r_pt : PTI v_pt) : Met l yX12_lit (wsG yX12_lit cX12_lit 8 (some .int)) ({ frames := 8, cells := 0, slots := 0, locals := 200 }) (va_Pc [.ref b_o, .int p_1, .int p_2, .int p_3] (g5_P G [(b_o, (oc12 u_th u_sa b_rf b_ro b_im b_ke u_fd b_tp u_td u_fr u_to u_so u_wo u_fa u_bd u_nc b_nl u_co b_op b_ar u_le b_pi b_pa u_pd u_od b_ws b_hw u_la b_se b_re u_bk u_va u_su u_ce u_ho u_wy u_bt u_ps b_pt u_tg u_sn b_ip u_ic b_ah b_be b_me u_wd b_tr b_ld u_st b_wn u_id)), (b_ro, (arI G 5740 v_ro)), (b_se, (arJ G 13 v_se)), (b_re, (arJ G 400 v_re)), (b_pt, (arI G 200 v_pt)), (b_ip, (arZ G 1536 v_ip))] sz)) (va_Qi (fun (r : Int32) (u : va_W) => (∃ (o_r : Int32) (o_th : Int32) (o_la : Int32) (o_bk : Int32) (o_va : Int64) (o_su : Int64) (o_ce : Int32) (o_ho : Int32) (o_wy : Int32) (o_bt : Int32) (o_ps : Int32) (o_tg : Int32) (o_sn : Int32) (o_se : Nat → Int64) (o_re : Nat → Int64) (o_pt : Nat → Int32) (o_ip : Nat → Int32), (0 ≤ o_la.toInt ∧ o_la.toInt ≤ 4840) ∧ (0 ≤ o_bk.toInt ∧ o_bk.toInt ≤ 1) ∧ (0 ≤ o_ce.toInt ∧ o_ce.toInt ≤ 63) ∧ (0 ≤ o_ho.toInt ∧ o_ho.toInt ≤ 23) ∧ (0 ≤ o_wy.toInt ∧ o_wy.toInt ≤ 3) ∧ (0 ≤ o_bt.toInt ∧ o_bt.toInt ≤ 1000000) ∧ (0 ≤ o_ps.toInt ∧ o_ps.toInt ≤ 200) ∧ (PTI o_pt) ∧ (r = o_r) ∧ (u = [(b_o, (oc12 o_th u_sa b_rf b_ro b_im b_ke u_fd b_tp u_td u_fr u_to u_so u_wo u_fa u_bd u_nc b_nl u_co b_op b_ar u_le b_pi b_pa u_pd u_od b_ws b_hw o_la b_se b_re o_bk o_va o_su o_ce o_ho o_wy o_bt o_ps b_pt o_tg o_sn b_ip u_ic b_ah b_be b_me u_wd b_tr b_ld u_st b_wn u_id)), (b_ro, (arI G 5740 v_ro)), (b_se, (arJ G 13 o_se)), (b_re, (arJ G 400 o_re)), (b_pt, (arI G 200 o_pt)), (b_ip, (arZ G 1536 o_ip))]))) (g5_B G (va_A [(b_o, (oc12 u_th u_sa b_rf b_ro b_im b_ke u_fd b_tp u_td u_fr u_to u_so u_wo u_fa u_bd u_nc b_nl u_co b_op b_ar u_le b_pi b_pa u_pd u_od b_ws b_hw u_la b_se b_re u_bk u_va u_su u_ce u_ho u_wy u_bt u_ps b_pt u_tg u_sn b_ip u_ic b_ah b_be b_me u_wd b_tr b_ld u_st b_wn u_id)), (b_ro, (arI G 5740 v_ro)), (b_se, (arJ G 13 v_se)), (b_re, (arJ G 400 v_re)), (b_pt, (arI G 200 v_pt)), (b_ip, (arZ G 1536 v_ip))] sz)) (va_A [(b_o, (oc12 u_th u_sa b_rf b_ro b_im b_ke u_fd b_tp u_td u_fr u_to u_so u_wo u_fa u_bd u_nc b_nl u_co b_op b_ar u_le b_pi b_pa u_pd u_od b_ws b_hw u_la b_se b_re u_bk u_va u_su u_ce u_ho u_wy u_bt u_ps b_pt u_tg u_sn b_ip u_ic b_ah b_be b_me u_wd b_tr b_ld u_st b_wn u_id)), (b_ro, (arI G 5740 v_ro)), (b_se, (arJ G 13 v_se)), (b_re, (arJ G 400 v_re)), (b_pt, (arI G 200 v_pt)), (b_ip, (arZ G 1536 v_ip))] sz)) 0 0 (va_A [(b_o, (oc12 u_th u_sa b_rf b_ro b_im b_ke u_fd b_tp u_td u_fr u_to u_so u_wo u_fa u_bd u_nc b_nl u_co b_op b_ar u_le b_pi b_pa u_pd u_od b_ws b_hw u_la b_se b_re u_bk u_va u_su u_ce u_ho u_wy u_bt u_ps b_pt u_tg u_sn b_ip u_ic b_ah b_be b_me u_wd b_tr b_ld u_st b_wn u_id)), (b_ro, (arI G 5740 v_ro)), (b_se, (arJ G 13 v_se)), (b_re, (arJ G 400 v_re)), (b_pt, (arI G 200 v_pt)), (b_ip, (arZ G 1536 v_ip))] sz) := by
  refine Met.ofW (cc := cX12_lit) (maxL := 8) (ret := (some .int)) (by decide +kernel) rfl ?_
  intro p e s m args below meth c s₁ B hml hv
  obtain ⟨rfl, hsz, hP, hK, hD0, hN, hT⟩ := hv
  have hx := B.exec
  have hb := B.bytes
  have hr := B.returns
  have hts : ∀ w ∈ tblG, w.before _ s = true := fun w h => atoms_spec (ws := (wsG yX12_lit cX12_lit 8 (some .int))) B.pre w (List.mem_cons_of_mem _ h)
  have hown : s.vm.findClass RX12 = some m.cls := findClass_of_methodNamed B.named
  have hlocks := B.notSynchronized
  subst hsz
  have hD := hD0.self (sz := s.heap.size)
  generalize hAe : va_A [(b_o, (oc12 u_th u_sa b_rf b_ro b_im b_ke u_fd b_tp u_td u_fr u_to u_so u_wo u_fa u_bd u_nc b_nl u_co b_op b_ar u_le b_pi b_pa u_pd u_od b_ws b_hw u_la b_se b_re u_bk u_va u_su u_ce u_ho u_wy u_bt u_ps b_pt u_tg u_sn b_ip u_ic b_ah b_be b_me u_wd b_tr b_ld u_st b_wn u_id)), (b_ro, (arI G 5740 v_ro)), (b_se, (arJ G 13 v_se)), (b_re, (arJ G 400 v_re)), (b_pt, (arI G 200 v_pt)), (b_ip, (arZ G 1536 v_ip))] s.heap.size = A at hD hT ⊢
  have hA : ∀ q : Nat, s.heap.size ≤ q → A q := fun q h => by rw [← hAe]; exact Or.inr h
  have hS : va_S A s.heap s.heap [] := va_S.rf
  replace hP : va_P G.1 vwCl [(b_o, (oc12 u_th u_sa b_rf b_ro b_im b_ke u_fd b_tp u_td u_fr u_to u_so u_wo u_fa u_bd u_nc b_nl u_co b_op b_ar u_le b_pi b_pa u_pd u_od b_ws b_hw u_la b_se b_re u_bk u_va u_su u_ce u_ho u_wy u_bt u_ps b_pt u_tg u_sn b_ip u_ic b_ah b_be b_me u_wd b_tr b_ld u_st b_wn u_id)), (b_ro, (arI G 5740 v_ro)), (b_se, (arJ G 13 v_se)), (b_re, (arJ G 400 v_re)), (b_pt, (arI G 200 v_pt)), (b_ip, (arZ G 1536 v_ip))] s.heap := hP
  have hl := lv_entry ([.ref b_o, .int p_1, .int p_2, .int p_3]) (n := 8) (Nat.le_of_ble_eq_true rfl)
  rw [lg_entry_eq]
  generalize (lg_sl ([.ref b_o, .int p_1, .int p_2, .int p_3]) ++ List.replicate (8 - (lg_sl ([.ref b_o, .int p_1, .int p_2, .int p_3])).length) Slot.unset).toArray = ls at hl ⊢
  replace hl : lv_has ls 8 [(0, .ref b_o), (1, .int p_1), (2, .int p_2), (3, .int p_3)] := hl
  refine lv_aload_n hx hb dX12_lit_0 rfl (lv_at hl 0 rfl) ?_
  refine lv_iconst (v := 0) hx hb dX12_lit_1 (by decide +kernel) ?_
  refine va_put (D := G.1) (ci := 12) (v := .int 0) (ty := .int) (C := RX12) (T := TX12) (N := 52) hx hb hts inG_X12 tyX12 tyX12_ok nmX12 hown hK hP hD hS 0 rfl rfl 0 (by decide +kernel) (hts _ fl_X12_107) (fun _ h9 => h9) rfl (by decide +kernel) rfl rfl (Nat.le_of_ble_eq_true rfl) dX12_lit_2 ?_
  clear hP hD hS
  intro H locs hP hD hS
  refine g5_rs [(b_o, (oc12 0 u_sa b_rf b_ro b_im b_ke u_fd b_tp u_td u_fr u_to u_so u_wo u_fa u_bd u_nc b_nl u_co b_op b_ar u_le b_pi b_pa u_pd u_od b_ws b_hw u_la b_se b_re u_bk u_va u_su u_ce u_ho u_wy u_bt u_ps b_pt u_tg u_sn b_ip u_ic b_ah b_be b_me u_wd b_tr b_ld u_st b_wn u_id)), (b_ro, (arI G 5740 v_ro)), (b_se, (arJ G 13 v_se)), (b_re, (arJ G 400 v_re)), (b_pt, (arI G 200 v_pt)), (b_ip, (arZ G 1536 v_ip))] hP hD ?_
  clear hP hD
  intro hP hD
  refine lv_iload_n hx hb dX12_lit_5 rfl (lv_at hl 1 rfl) ?_
  refine W.eq (g2 := F0 m 6 ls [.int p_1]) rfl ?_
  obtain ⟨hPc, hDc, hFc⟩ := g5_sub3 (wc := []) hP hD hS hA [] (by decide +kernel) rfl
  refine va_calli (va_runS (As := [.int p_1]) (rest := []) ⟨hx, hb, hml, hown, hts⟩ (n_isCell l G H.size p_1) (va_cwS 1 hts gS_X12_138 rfl rfl rfl hs_X12_isCell ⟨Nat.le_of_ble_eq_true rfl, Nat.le_of_ble_eq_true rfl⟩) (g5_preS hPc hK hDc hN hT hS hFc) rfl rfl hl.1 rfl (lv_room (Nat.le_of_ble_eq_true rfl)) dX12_lit_6 ⟨Nat.le_of_ble_eq_true rfl, Nat.le_of_ble_eq_true rfl⟩) hS (fun q _ h => hFc q h) hFc (fun r u t H locs ht hvm hw hB hz1 hk1 hS => ?_)
  obtain ⟨hP1, hD1⟩ := hB
  have hP1 := g5_ht ht hP1
  rcases hw with ⟨(i_1 : 0 ≤ p_1.toInt ∧ p_1.toInt ≤ 63), rfl, rfl⟩ | ⟨rfl, rfl⟩
  ·
    have hJ9 := g5_same hP hk1
    clear hP hPc hDc hFc ht hvm hz1 hk1 hP1 hD1
    have hP := hJ9
    clear hJ9
    refine lv_if_eq (tgt := 33) hx hb dX12_lit_9 (by decide +kernel) (fun c_2 => ?_) (fun c_2 => ?_)
    ·
      exact absurd c_2 (by decide +kernel)
    ·
      refine lv_iload_n hx hb dX12_lit_12 rfl (lv_at hl 2 rfl) ?_
      obtain ⟨hPc, hDc, hFc⟩ := g5_sub3 (wc := []) hP hD hS hA [] (by decide +kernel) rfl
      refine va_calli (va_runS (As := [.int p_2]) (rest := []) ⟨hx, hb, hml, hown, hts⟩ (n_isHour l G H.size p_2) (va_cwS 1 hts gS_X12_175 rfl rfl rfl hs_X12_isHour ⟨Nat.le_of_ble_eq_true rfl, Nat.le_of_ble_eq_true rfl⟩) (g5_preS hPc hK hDc hN hT hS hFc) rfl rfl hl.1 rfl (lv_room (Nat.le_of_ble_eq_true rfl)) dX12_lit_13 ⟨Nat.le_of_ble_eq_true rfl, Nat.le_of_ble_eq_true rfl⟩) hS (fun q _ h => hFc q h) hFc (fun r u t H locs ht hvm hw hB hz1 hk1 hS => ?_)
      obtain ⟨hP1, hD1⟩ := hB
      have hP1 := g5_ht ht hP1
      rcases hw with ⟨(i_3 : 0 ≤ p_2.toInt ∧ p_2.toInt ≤ 23), rfl, rfl⟩ | ⟨rfl, rfl⟩
      ·
        have hJ9 := g5_same hP hk1
        clear hP hPc hDc hFc ht hvm hz1 hk1 hP1 hD1
        have hP := hJ9
        clear hJ9
        refine lv_if_eq (tgt := 33) hx hb dX12_lit_16 (by decide +kernel) (fun c_4 => ?_) (fun c_4 => ?_)
        ·
          exact absurd c_4 (by decide +kernel)
        ·
          refine lv_iload_n hx hb dX12_lit_19 rfl (lv_at hl 3 rfl) ?_
          refine lv_i2l (v := p_3.toInt64) hx hb dX12_lit_20 rfl ?_
          refine lv_ldc2 (v := (-1)) hx hb hown (hts _ kl_X12_178) dX12_lit_21 ?_
          refine lv_ldc2 (v := 63) hx hb hown (hts _ kl_X12_128) dX12_lit_24 ?_
          refine W.eq (g2 := F0 m 27 ls [.long 63, .long (-1), .long p_3.toInt64]) rfl ?_
          obtain ⟨hPc, hDc, hFc⟩ := g5_sub3 (wc := []) hP hD hS hA [] (by decide +kernel) rfl
          refine va_calli (va_runS (As := [.long p_3.toInt64, .long (-1), .long 63]) (rest := []) ⟨hx, hb, hml, hown, hts⟩ (n_in_m1_63 l G H.size p_3) (va_cwS 3 hts gS_X12_121 rfl rfl rfl hs_X12_in ⟨Nat.le_of_ble_eq_true rfl, Nat.le_of_ble_eq_true rfl⟩) (g5_preS hPc hK hDc hN hT hS hFc) rfl rfl hl.1 rfl (lv_room (Nat.le_of_ble_eq_true rfl)) dX12_lit_27 ⟨Nat.le_of_ble_eq_true rfl, Nat.le_of_ble_eq_true rfl⟩) hS (fun q _ h => hFc q h) hFc (fun r u t H locs ht hvm hw hB hz1 hk1 hS => ?_)
          obtain ⟨hP1, hD1⟩ := hB
          have hP1 := g5_ht ht hP1
          rcases hw with ⟨(i_5 : p_3.toInt < (-1) ∨ 63 < p_3.toInt), rfl, rfl⟩ | ⟨(i_6 : (-1) ≤ p_3.toInt ∧ p_3.toInt ≤ 63), rfl, rfl⟩
          ·
            have hJ9 := g5_same hP hk1
            clear hP hPc hDc hFc ht hvm hz1 hk1 hP1 hD1
            have hP := hJ9
            clear hJ9
            refine lv_if_ne (tgt := 35) hx hb dX12_lit_30 (by decide +kernel) (fun c_7 => ?_) (fun c_7 => ?_)
            ·
              exact absurd c_7 (by decide +kernel)
            ·
              refine lv_iconst (v := (-1)) hx hb dX12_lit_33 (by decide +kernel) ?_
              exact W.iret (v := (-1)) hx hb hr (fun t ht hW => ⟨⟨(-1), [(b_o, (oc12 0 u_sa b_rf b_ro b_im b_ke u_fd b_tp u_td u_fr u_to u_so u_wo u_fa u_bd u_nc b_nl u_co b_op b_ar u_le b_pi b_pa u_pd u_od b_ws b_hw u_la b_se b_re u_bk u_va u_su u_ce u_ho u_wy u_bt u_ps b_pt u_tg u_sn b_ip u_ic b_ah b_be b_me u_wd b_tr b_ld u_st b_wn u_id)), (b_ro, (arI G 5740 v_ro)), (b_se, (arJ G 13 v_se)), (b_re, (arJ G 400 v_re)), (b_pt, (arI G 200 v_pt)), (b_ip, (arZ G 1536 v_ip))], rfl, ⟨(-1), 0, u_la, u_bk, u_va, u_su, u_ce, u_ho, u_wy, u_bt, u_ps, u_tg, u_sn, v_se, v_re, v_pt, v_ip, h_u_la, h_u_bk, h_u_ce, h_u_ho, h_u_wy, h_u_bt, h_u_ps, r_pt, rfl, rfl⟩, by rw [ht]; exact hP.sub [0, 1, 2, 3, 4, 5] rfl, hD.sub [0, 1, 2, 3, 4, 5] (by decide +kernel) rfl⟩, hS.F ht⟩) hS.2.2 dX12_lit_34
          ·
            have hJ9 := g5_same hP hk1
            clear hP hPc hDc hFc ht hvm hz1 hk1 hP1 hD1
            have hP := hJ9
            clear hJ9
            refine lv_if_ne (tgt := 35) hx hb dX12_lit_30 (by decide +kernel) (fun c_8 => ?_) (fun c_8 => ?_)
            ·
              refine lv_aload_n hx hb dX12_lit_35 rfl (lv_at hl 0 rfl) ?_
              obtain ⟨hPc, hDc, hFc⟩ := g5_sub3 (wc := [(b_o, (oc12 0 u_sa b_rf b_ro b_im b_ke u_fd b_tp u_td u_fr u_to u_so u_wo u_fa u_bd u_nc b_nl u_co b_op b_ar u_le b_pi b_pa u_pd u_od b_ws b_hw u_la b_se b_re u_bk u_va u_su u_ce u_ho u_wy u_bt u_ps b_pt u_tg u_sn b_ip u_ic b_ah b_be b_me u_wd b_tr b_ld u_st b_wn u_id)), (b_ip, (arZ G 1536 v_ip))]) hP hD hS hA [0, 5] (by decide +kernel) rfl
              refine va_callv (va_runV (As := []) (rest := []) ⟨hx, hb, hml, hown, hts⟩ (n_clearPoints l G b_o b_ip b_rf b_ro b_im b_ke b_tp b_nl b_op b_ar b_pi b_pa b_ws b_hw b_se b_re b_pt b_ah b_be b_me b_tr b_ld b_wn H.size 0 u_sa u_fd u_td u_fr u_to u_so u_fa u_bd u_nc u_co u_le u_pd u_od u_la u_bk u_ce u_ho u_wy u_bt u_ps u_tg u_sn u_ic u_wd u_id u_wo u_va u_su u_st v_ip h_u_td h_u_fr h_u_to h_u_bd h_u_nc h_u_co h_u_pd h_u_la h_u_bk h_u_ce h_u_ho h_u_wy h_u_bt h_u_ps h_u_ic h_u_id) (cwV 0 hts gV_X12_413 rfl rfl rfl hv_X12_clearPoints ⟨Nat.le_of_ble_eq_true rfl, Nat.le_of_ble_eq_true rfl⟩) (g5_preV hPc hK hDc hN hT hS hFc (ci := 12) (q0 := 0) rfl rfl) rfl rfl hl.1 rfl (lv_room (Nat.le_of_ble_eq_true rfl)) dX12_lit_36 ⟨Nat.le_of_ble_eq_true rfl, Nat.le_of_ble_eq_true rfl⟩) hS (fun q _ h => hFc q h) hFc (fun u t H locs ht hvm hw hB hz1 hk1 hS => ?_)
              obtain ⟨hP1, hD1⟩ := hB
              have hP1 := g5_ht ht hP1
              obtain ⟨z9, rfl⟩ := hw
              have hJ9 := va_join (wr := [(b_ro, (arI G 5740 v_ro)), (b_se, (arJ G 13 v_se)), (b_re, (arJ G 400 v_re)), (b_pt, (arI G 200 v_pt))]) hP hD [0, 5] [1, 2, 3, 4] rfl rfl (by decide +kernel) (by decide +kernel) hk1 hFc hP1 hD1
              clear hP hD hPc hDc hFc ht hvm hz1 hk1 hP1 hD1
              obtain ⟨hP, hD⟩ := hJ9
              refine g5_rs [(b_ro, (arI G 5740 v_ro)), (b_se, (arJ G 13 v_se)), (b_re, (arJ G 400 v_re)), (b_pt, (arI G 200 v_pt)), (b_o, (oc12 0 u_sa b_rf b_ro b_im b_ke u_fd b_tp u_td u_fr u_to u_so u_wo u_fa u_bd u_nc b_nl u_co b_op b_ar u_le b_pi b_pa u_pd u_od b_ws b_hw u_la b_se b_re u_bk u_va u_su u_ce u_ho u_wy u_bt u_ps b_pt u_tg u_sn b_ip u_ic b_ah b_be b_me u_wd b_tr b_ld u_st b_wn u_id)), (b_ip, (arZ G 1536 z9))] hP hD ?_
              clear hP hD
              intro hP hD
              refine lv_aload_n hx hb dX12_lit_39 rfl (lv_at hl 0 rfl) ?_
              refine lv_iload_n hx hb dX12_lit_40 rfl (lv_at hl 1 rfl) ?_
              refine W.eq (g2 := F0 m 41 ls [.int p_1, .ref b_o]) rfl ?_
              refine lv_iload_n hx hb dX12_lit_41 rfl (lv_at hl 2 rfl) ?_
              obtain ⟨hPc, hDc, hFc⟩ := g5_sub3 (wc := [(b_o, (oc12 0 u_sa b_rf b_ro b_im b_ke u_fd b_tp u_td u_fr u_to u_so u_wo u_fa u_bd u_nc b_nl u_co b_op b_ar u_le b_pi b_pa u_pd u_od b_ws b_hw u_la b_se b_re u_bk u_va u_su u_ce u_ho u_wy u_bt u_ps b_pt u_tg u_sn b_ip u_ic b_ah b_be b_me u_wd b_tr b_ld u_st b_wn u_id)), (b_ro, (arI G 5740 v_ro)), (b_se, (arJ G 13 v_se)), (b_re, (arJ G 400 v_re)), (b_pt, (arI G 200 v_pt)), (b_ip, (arZ G 1536 z9))]) hP hD hS hA [4, 0, 1, 2, 3, 5] (by decide +kernel) rfl
              refine va_callv (va_runV (As := [.int p_1, .int p_2]) (rest := []) ⟨hx, hb, hml, hown, hts⟩ (n_mark l G b_o b_ro b_se b_re b_pt b_ip b_rf b_im b_ke b_tp b_nl b_op b_ar b_pi b_pa b_ws b_hw b_ah b_be b_me b_tr b_ld b_wn H.size 0 u_sa u_fd u_td u_fr u_to u_so u_fa u_bd u_nc u_co u_le u_pd u_od u_la u_bk u_ce u_ho u_wy u_bt u_ps u_tg u_sn u_ic u_wd u_id p_1 p_2 u_wo u_va u_su u_st v_ro v_se v_re v_pt z9 h_u_td h_u_fr h_u_to h_u_bd h_u_nc h_u_co h_u_pd h_u_la h_u_bk h_u_ce h_u_ho h_u_wy h_u_bt h_u_ps h_u_ic h_u_id i_1 i_3 (r_ro) (r_pt)) (cwV 2 hts gV_X12_416 rfl rfl rfl hv_X12_mark ⟨Nat.le_of_ble_eq_true rfl, Nat.le_of_ble_eq_true rfl⟩) (g5_preV hPc hK hDc hN hT hS hFc (ci := 12) (q0 := 0) rfl rfl) rfl rfl hl.1 rfl (lv_room (Nat.le_of_ble_eq_true rfl)) dX12_lit_42 ⟨Nat.le_of_ble_eq_true rfl, Nat.le_of_ble_eq_true rfl⟩) hS (fun q _ h => hFc q h) hFc (fun u t H locs ht hvm hw hB hz1 hk1 hS => ?_)
              obtain ⟨hP1, hD1⟩ := hB
              have hP1 := g5_ht ht hP1
              obtain ⟨z18, z19, z20, z21, z22, z23, z24, z25, z26, z27, z28, z29, z30, z31, z32, (i_10 : 0 ≤ z18.toInt ∧ z18.toInt ≤ 4840), (i_11 : 0 ≤ z19.toInt ∧ z19.toInt ≤ 1), (i_12 : 0 ≤ z22.toInt ∧ z22.toInt ≤ 63), (i_13 : 0 ≤ z23.toInt ∧ z23.toInt ≤ 23), (i_14 : 0 ≤ z24.toInt ∧ z24.toInt ≤ 3), (i_15 : 0 ≤ z25.toInt ∧ z25.toInt ≤ 1000000), (i_16 : 0 ≤ z26.toInt ∧ z26.toInt ≤ 200), (i_17 : PTI z31), rfl⟩ := hw
              have hJ9 := va_join (wr := []) hP hD [4, 0, 1, 2, 3, 5] [] rfl rfl (by decide +kernel) (by decide +kernel) hk1 hFc hP1 hD1
              clear hP hD hPc hDc hFc ht hvm hz1 hk1 hP1 hD1
              obtain ⟨hP, hD⟩ := hJ9
              refine g5_rs [(b_o, (oc12 0 u_sa b_rf b_ro b_im b_ke u_fd b_tp u_td u_fr u_to u_so u_wo u_fa u_bd u_nc b_nl u_co b_op b_ar u_le b_pi b_pa u_pd u_od b_ws b_hw z18 b_se b_re z19 z20 z21 z22 z23 z24 z25 z26 b_pt z27 z28 b_ip u_ic b_ah b_be b_me u_wd b_tr b_ld u_st b_wn u_id)), (b_ro, (arI G 5740 v_ro)), (b_se, (arJ G 13 z29)), (b_re, (arJ G 400 z30)), (b_pt, (arI G 200 z31)), (b_ip, (arZ G 1536 z32))] hP hD ?_
              clear hP hD
              intro hP hD
              refine lv_iconst (v := 0) hx hb dX12_lit_45 (by decide +kernel) ?_
              refine lv_istore (lv' := [(4, .int 0), (0, .ref b_o), (1, .int p_1), (2, .int p_2), (3, .int p_3)]) hx hb dX12_lit_46 hl (by decide +kernel) rfl ?_
              clear hl
              intro ls hl
              refine lv_iconst (v := 0) hx hb dX12_lit_48 (by decide +kernel) ?_
              refine W.eq (g2 := F0 m 49 ls [.int 0]) rfl ?_
              refine lv_istore (lv' := [(5, .int 0), (4, .int 0), (0, .ref b_o), (1, .int p_1), (2, .int p_2), (3, .int p_3)]) hx hb dX12_lit_49 hl (by decide +kernel) rfl ?_
              clear hl
              intro ls hl
              refine g5_loop (α := (Int32) × (Int32)) (fun (q : (Int32) × (Int32)) (ls : Array Slot) (H : Heap) (locs : List Loc) => match q with | (k51_5, k51_4) => lv_has ls 8 [(4, .int k51_4), (5, .int k51_5), (0, .ref b_o), (1, .int p_1), (2, .int p_2), (3, .int p_3)] ∧ va_P G.1 vwCl [(b_o, (oc12 0 u_sa b_rf b_ro b_im b_ke u_fd b_tp u_td u_fr u_to u_so u_wo u_fa u_bd u_nc b_nl u_co b_op b_ar u_le b_pi b_pa u_pd u_od b_ws b_hw z18 b_se b_re z19 z20 z21 z22 z23 z24 z25 z26 b_pt z27 z28 b_ip u_ic b_ah b_be b_me u_wd b_tr b_ld u_st b_wn u_id)), (b_ro, (arI G 5740 v_ro)), (b_se, (arJ G 13 z29)), (b_re, (arJ G 400 z30)), (b_pt, (arI G 200 z31)), (b_ip, (arZ G 1536 z32))] H ∧ va_D A [(b_o, (oc12 0 u_sa b_rf b_ro b_im b_ke u_fd b_tp u_td u_fr u_to u_so u_wo u_fa u_bd u_nc b_nl u_co b_op b_ar u_le b_pi b_pa u_pd u_od b_ws b_hw z18 b_se b_re z19 z20 z21 z22 z23 z24 z25 z26 b_pt z27 z28 b_ip u_ic b_ah b_be b_me u_wd b_tr b_ld u_st b_wn u_id)), (b_ro, (arI G 5740 v_ro)), (b_se, (arJ G 13 z29)), (b_re, (arJ G 400 z30)), (b_pt, (arI G 200 z31)), (b_ip, (arZ G 1536 z32))] ∧ va_S A s.heap H locs ∧ (0 ≤ k51_5.toInt ∧ k51_5.toInt ≤ 64)) (fun (q : (Int32) × (Int32)) => match q with | (k51_5, k51_4) => Int.toNat (64 - k51_5.toInt)) (0, 0) ⟨lv_sub hl [1, 0, 2, 3, 4, 5] rfl, hP, hD, hS, ⟨by decide, by decide⟩⟩ ?_
              rintro ⟨k51_5, k51_4⟩ ls H locs ⟨hl, hP, hD, hS, (i_33 : 0 ≤ k51_5.toInt ∧ k51_5.toInt ≤ 64)⟩ ih_51_34
              replace hl : lv_has ls 8 [(4, .int k51_4), (5, .int k51_5), (0, .ref b_o), (1, .int p_1), (2, .int p_2), (3, .int p_3)] := hl
              refine g5_rs [(b_o, (oc12 0 u_sa b_rf b_ro b_im b_ke u_fd b_tp u_td u_fr u_to u_so u_wo u_fa u_bd u_nc b_nl u_co b_op b_ar u_le b_pi b_pa u_pd u_od b_ws b_hw z18 b_se b_re z19 z20 z21 z22 z23 z24 z25 z26 b_pt z27 z28 b_ip u_ic b_ah b_be b_me u_wd b_tr b_ld u_st b_wn u_id)), (b_ro, (arI G 5740 v_ro)), (b_se, (arJ G 13 z29)), (b_re, (arJ G 400 z30)), (b_pt, (arI G 200 z31)), (b_ip, (arZ G 1536 z32))] hP hD ?_
              clear hP hD
              intro hP hD
              refine lv_iload hx hb dX12_lit_51 (lv_at hl 1 rfl) ?_
              refine lv_bipush (v := 64) hx hb dX12_lit_53 (by decide +kernel) ?_
              refine lv_icmp_ge (tgt := 137) hx hb dX12_lit_55 (by decide +kernel) (fun c_35 => ?_) (fun c_35 => ?_)
              ·
                have i_35 : k51_5.toInt ≥ 64 := g5_ge (a := k51_5.toInt) (b := 64) rfl (by decide +kernel) c_35
                refine lv_iload hx hb dX12_lit_137 (lv_at hl 0 rfl) ?_
                exact W.iret (v := k51_4) hx hb hr (fun t ht hW => ⟨⟨k51_4, [(b_o, (oc12 0 u_sa b_rf b_ro b_im b_ke u_fd b_tp u_td u_fr u_to u_so u_wo u_fa u_bd u_nc b_nl u_co b_op b_ar u_le b_pi b_pa u_pd u_od b_ws b_hw z18 b_se b_re z19 z20 z21 z22 z23 z24 z25 z26 b_pt z27 z28 b_ip u_ic b_ah b_be b_me u_wd b_tr b_ld u_st b_wn u_id)), (b_ro, (arI G 5740 v_ro)), (b_se, (arJ G 13 z29)), (b_re, (arJ G 400 z30)), (b_pt, (arI G 200 z31)), (b_ip, (arZ G 1536 z32))], rfl, ⟨k51_4, 0, z18, z19, z20, z21, z22, z23, z24, z25, z26, z27, z28, z29, z30, z31, z32, i_10, i_11, i_12, i_13, i_14, i_15, i_16, i_17, rfl, rfl⟩, by rw [ht]; exact hP.sub [0, 1, 2, 3, 4, 5] rfl, hD.sub [0, 1, 2, 3, 4, 5] (by decide +kernel) rfl⟩, hS.F ht⟩) hS.2.2 dX12_lit_139
              ·
                have i_35 : k51_5.toInt < 64 := g5_geN (a := k51_5.toInt) (b := 64) rfl (by decide +kernel) c_35
                refine lv_iconst (v := 0) hx hb dX12_lit_58 (by decide +kernel) ?_
                refine lv_istore (lv' := [(6, .int 0), (4, .int k51_4), (5, .int k51_5), (0, .ref b_o), (1, .int p_1), (2, .int p_2), (3, .int p_3)]) hx hb dX12_lit_59 hl (by decide +kernel) rfl ?_
                clear hl
                intro ls hl
                refine lv_iconst (v := 0) hx hb dX12_lit_61 (by decide +kernel) ?_
                refine lv_istore (lv' := [(7, .int 0), (6, .int 0), (4, .int k51_4), (5, .int k51_5), (0, .ref b_o), (1, .int p_1), (2, .int p_2), (3, .int p_3)]) hx hb dX12_lit_62 hl (by decide +kernel) rfl ?_
                clear hl
                intro ls hl
                refine g5_loop (α := (Int32) × (Int32)) (fun (q : (Int32) × (Int32)) (ls : Array Slot) (H : Heap) (locs : List Loc) => match q with | (k64_7, k64_6) => lv_has ls 8 [(6, .int k64_6), (7, .int k64_7), (4, .int k51_4), (5, .int k51_5), (0, .ref b_o), (1, .int p_1), (2, .int p_2), (3, .int p_3)] ∧ va_P G.1 vwCl [(b_o, (oc12 0 u_sa b_rf b_ro b_im b_ke u_fd b_tp u_td u_fr u_to u_so u_wo u_fa u_bd u_nc b_nl u_co b_op b_ar u_le b_pi b_pa u_pd u_od b_ws b_hw z18 b_se b_re z19 z20 z21 z22 z23 z24 z25 z26 b_pt z27 z28 b_ip u_ic b_ah b_be b_me u_wd b_tr b_ld u_st b_wn u_id)), (b_ro, (arI G 5740 v_ro)), (b_se, (arJ G 13 z29)), (b_re, (arJ G 400 z30)), (b_pt, (arI G 200 z31)), (b_ip, (arZ G 1536 z32))] H ∧ va_D A [(b_o, (oc12 0 u_sa b_rf b_ro b_im b_ke u_fd b_tp u_td u_fr u_to u_so u_wo u_fa u_bd u_nc b_nl u_co b_op b_ar u_le b_pi b_pa u_pd u_od b_ws b_hw z18 b_se b_re z19 z20 z21 z22 z23 z24 z25 z26 b_pt z27 z28 b_ip u_ic b_ah b_be b_me u_wd b_tr b_ld u_st b_wn u_id)), (b_ro, (arI G 5740 v_ro)), (b_se, (arJ G 13 z29)), (b_re, (arJ G 400 z30)), (b_pt, (arI G 200 z31)), (b_ip, (arZ G 1536 z32))] ∧ va_S A s.heap H locs ∧ (0 ≤ k64_7.toInt ∧ k64_7.toInt ≤ 24) ∧ (0 ≤ k64_6.toInt ∧ k64_6.toInt ≤ 1)) (fun (q : (Int32) × (Int32)) => match q with | (k64_7, k64_6) => Int.toNat (24 - k64_7.toInt)) (0, 0) ⟨lv_sub hl [1, 0, 2, 3, 4, 5, 6, 7] rfl, hP, hD, hS, ⟨by decide, by decide⟩, ⟨by decide, by decide⟩⟩ ?_
                rintro ⟨k64_7, k64_6⟩ ls H locs ⟨hl, hP, hD, hS, (i_36 : 0 ≤ k64_7.toInt ∧ k64_7.toInt ≤ 24), (i_37 : 0 ≤ k64_6.toInt ∧ k64_6.toInt ≤ 1)⟩ ih_64_38
                replace hl : lv_has ls 8 [(6, .int k64_6), (7, .int k64_7), (4, .int k51_4), (5, .int k51_5), (0, .ref b_o), (1, .int p_1), (2, .int p_2), (3, .int p_3)] := hl
                refine g5_rs [(b_o, (oc12 0 u_sa b_rf b_ro b_im b_ke u_fd b_tp u_td u_fr u_to u_so u_wo u_fa u_bd u_nc b_nl u_co b_op b_ar u_le b_pi b_pa u_pd u_od b_ws b_hw z18 b_se b_re z19 z20 z21 z22 z23 z24 z25 z26 b_pt z27 z28 b_ip u_ic b_ah b_be b_me u_wd b_tr b_ld u_st b_wn u_id)), (b_ro, (arI G 5740 v_ro)), (b_se, (arJ G 13 z29)), (b_re, (arJ G 400 z30)), (b_pt, (arI G 200 z31)), (b_ip, (arZ G 1536 z32))] hP hD ?_
                clear hP hD
                intro hP hD
                refine lv_iload hx hb dX12_lit_64 (lv_at hl 1 rfl) ?_
                refine lv_bipush (v := 24) hx hb dX12_lit_66 (by decide +kernel) ?_
                refine lv_icmp_ge (tgt := 105) hx hb dX12_lit_68 (by decide +kernel) (fun c_39 => ?_) (fun c_39 => ?_)
                ·
                  have i_39 : k64_7.toInt ≥ 24 := g5_ge (a := k64_7.toInt) (b := 24) rfl (by decide +kernel) c_39
                  refine lv_iload hx hb dX12_lit_105 (lv_at hl 2 rfl) ?_
                  refine lv_iload hx hb dX12_lit_107 (lv_at hl 0 rfl) ?_
                  refine lv_if_eq (tgt := 127) hx hb dX12_lit_109 (by decide +kernel) (fun c_40 => ?_) (fun c_40 => ?_)
                  ·
                    have i_40 : k64_6.toInt = 0 := g5_eq (a := k64_6.toInt) (b := 0) rfl (by decide +kernel) c_40
                    refine lv_iconst (v := 0) hx hb dX12_lit_127 (by decide +kernel) ?_
                    refine lv_iadd hx hb dX12_lit_128 ?_
                    refine g5_ti (v := k51_4) (by simp) ?_
                    refine lv_istore (lv' := [(4, .int k51_4), (6, .int k64_6), (7, .int k64_7), (5, .int k51_5), (0, .ref b_o), (1, .int p_1), (2, .int p_2), (3, .int p_3)]) hx hb dX12_lit_129 hl (by decide +kernel) rfl ?_
                    clear hl
                    intro ls hl
                    refine lv_iinc (v := (k51_5 + 1)) (lv' := [(5, .int (k51_5 + 1)), (4, .int k51_4), (6, .int k64_6), (7, .int k64_7), (0, .ref b_o), (1, .int p_1), (2, .int p_2), (3, .int p_3)]) hx hb dX12_lit_131 hl (k := 3) rfl rfl (by decide +kernel) rfl ?_
                    clear hl
                    intro ls hl
                    have t_41 : (k51_5 + 1).toInt = k51_5.toInt + 1 := g5_iadd (a := k51_5.toInt) (b := 1) rfl (by decide +kernel) (by omega) (by omega)
                    refine W.eq (g2 := F0 m 134 ls []) rfl ?_
                    refine lv_goto (tgt := 51) hx hb dX12_lit_134 (by decide +kernel) ?_
                    exact ih_51_34 ((k51_5 + 1), k51_4) ls H locs (show Int.toNat (64 - (k51_5 + 1).toInt) < Int.toNat (64 - k51_5.toInt) from g_up (show k51_5.toInt < (k51_5 + 1).toInt by omega) (show k51_5.toInt < 64 by omega)) ⟨lv_sub hl [1, 0, 4, 5, 6, 7] rfl, hP, hD, hS, ⟨by omega, by omega⟩⟩
                  ·
                    have n_40 : gNe (k64_6.toInt) (0) := g5_eqN (a := k64_6.toInt) (b := 0) rfl (by decide +kernel) c_40
                    have i_40 : k64_6.toInt ≥ 1 := by have z := g5_eqN (a := k64_6.toInt) (b := 0) (by rfl) (by decide +kernel) c_40; omega
                    refine lv_iload_n hx hb dX12_lit_112 rfl (lv_at hl 7 rfl) ?_
                    refine lv_iconst (v := (-1)) hx hb dX12_lit_113 (by decide +kernel) ?_
                    refine lv_icmp_eq (tgt := 123) hx hb dX12_lit_114 (by decide +kernel) (fun c_42 => ?_) (fun c_42 => ?_)
                    ·
                      have i_42 : p_3.toInt = (-1) := g5_eq (a := p_3.toInt) (b := (-1)) rfl (by decide +kernel) c_42
                      refine lv_iconst (v := 1) hx hb dX12_lit_123 (by decide +kernel) ?_
                      refine lv_goto (tgt := 128) hx hb dX12_lit_124 (by decide +kernel) ?_
                      refine lv_iadd hx hb dX12_lit_128 ?_
                      refine lv_istore (lv' := [(4, .int (k51_4 + 1)), (6, .int k64_6), (7, .int k64_7), (5, .int k51_5), (0, .ref b_o), (1, .int p_1), (2, .int p_2), (3, .int p_3)]) hx hb dX12_lit_129 hl (by decide +kernel) rfl ?_
                      clear hl
                      intro ls hl
                      refine W.eq (g2 := F0 m 131 ls []) rfl ?_
                      refine lv_iinc (v := (k51_5 + 1)) (lv' := [(5, .int (k51_5 + 1)), (4, .int (k51_4 + 1)), (6, .int k64_6), (7, .int k64_7), (0, .ref b_o), (1, .int p_1), (2, .int p_2), (3, .int p_3)]) hx hb dX12_lit_131 hl (k := 3) rfl rfl (by decide +kernel) rfl ?_
                      clear hl
                      intro ls hl
                      have t_43 : (k51_5 + 1).toInt = k51_5.toInt + 1 := g5_iadd (a := k51_5.toInt) (b := 1) rfl (by decide +kernel) (by omega) (by omega)
                      refine lv_goto (tgt := 51) hx hb dX12_lit_134 (by decide +kernel) ?_
                      exact ih_51_34 ((k51_5 + 1), (k51_4 + 1)) ls H locs (show Int.toNat (64 - (k51_5 + 1).toInt) < Int.toNat (64 - k51_5.toInt) from g_up (show k51_5.toInt < (k51_5 + 1).toInt by omega) (show k51_5.toInt < 64 by omega)) ⟨lv_sub hl [1, 0, 4, 5, 6, 7] rfl, hP, hD, hS, ⟨by omega, by omega⟩⟩
                    ·
                      have n_42 : gNe (p_3.toInt) ((-1)) := g5_eqN (a := p_3.toInt) (b := (-1)) rfl (by decide +kernel) c_42
                      have i_42 : p_3.toInt ≥ 0 := by have z := g5_eqN (a := p_3.toInt) (b := (-1)) (by rfl) (by decide +kernel) c_42; omega
                      refine lv_iload_n hx hb dX12_lit_117 rfl (lv_at hl 7 rfl) ?_
                      refine lv_iload hx hb dX12_lit_118 (lv_at hl 3 rfl) ?_
                      refine lv_icmp_ne (tgt := 127) hx hb dX12_lit_120 (by decide +kernel) (fun c_44 => ?_) (fun c_44 => ?_)
                      ·
                        have n_44 : gNe (p_3.toInt) (k51_5.toInt) := g5_ne (a := p_3.toInt) (b := k51_5.toInt) rfl rfl c_44
                        refine lv_iconst (v := 0) hx hb dX12_lit_127 (by decide +kernel) ?_
                        refine lv_iadd hx hb dX12_lit_128 ?_
                        refine g5_ti (v := k51_4) (by simp) ?_
                        refine lv_istore (lv' := [(4, .int k51_4), (6, .int k64_6), (7, .int k64_7), (5, .int k51_5), (0, .ref b_o), (1, .int p_1), (2, .int p_2), (3, .int p_3)]) hx hb dX12_lit_129 hl (by decide +kernel) rfl ?_
                        clear hl
                        intro ls hl
                        refine lv_iinc (v := (k51_5 + 1)) (lv' := [(5, .int (k51_5 + 1)), (4, .int k51_4), (6, .int k64_6), (7, .int k64_7), (0, .ref b_o), (1, .int p_1), (2, .int p_2), (3, .int p_3)]) hx hb dX12_lit_131 hl (k := 3) rfl rfl (by decide +kernel) rfl ?_
                        clear hl
                        intro ls hl
                        have t_45 : (k51_5 + 1).toInt = k51_5.toInt + 1 := g5_iadd (a := k51_5.toInt) (b := 1) rfl (by decide +kernel) (by omega) (by omega)
                        refine W.eq (g2 := F0 m 134 ls []) rfl ?_
                        refine lv_goto (tgt := 51) hx hb dX12_lit_134 (by decide +kernel) ?_
                        exact ih_51_34 ((k51_5 + 1), k51_4) ls H locs (show Int.toNat (64 - (k51_5 + 1).toInt) < Int.toNat (64 - k51_5.toInt) from g_up (show k51_5.toInt < (k51_5 + 1).toInt by omega) (show k51_5.toInt < 64 by omega)) ⟨lv_sub hl [1, 0, 4, 5, 6, 7] rfl, hP, hD, hS, ⟨by omega, by omega⟩⟩
                      ·
                        have i_44 : p_3.toInt = k51_5.toInt := g5_neN (a := p_3.toInt) (b := k51_5.toInt) rfl rfl c_44
                        refine lv_iconst (v := 1) hx hb dX12_lit_123 (by decide +kernel) ?_
                        refine lv_goto (tgt := 128) hx hb dX12_lit_124 (by decide +kernel) ?_
                        refine lv_iadd hx hb dX12_lit_128 ?_
                        refine lv_istore (lv' := [(4, .int (k51_4 + 1)), (6, .int k64_6), (7, .int k64_7), (5, .int k51_5), (0, .ref b_o), (1, .int p_1), (2, .int p_2), (3, .int p_3)]) hx hb dX12_lit_129 hl (by decide +kernel) rfl ?_
                        clear hl
                        intro ls hl
                        refine W.eq (g2 := F0 m 131 ls []) rfl ?_
                        refine lv_iinc (v := (k51_5 + 1)) (lv' := [(5, .int (k51_5 + 1)), (4, .int (k51_4 + 1)), (6, .int k64_6), (7, .int k64_7), (0, .ref b_o), (1, .int p_1), (2, .int p_2), (3, .int p_3)]) hx hb dX12_lit_131 hl (k := 3) rfl rfl (by decide +kernel) rfl ?_
                        clear hl
                        intro ls hl
                        have t_46 : (k51_5 + 1).toInt = k51_5.toInt + 1 := g5_iadd (a := k51_5.toInt) (b := 1) rfl (by decide +kernel) (by omega) (by omega)
                        refine lv_goto (tgt := 51) hx hb dX12_lit_134 (by decide +kernel) ?_
                        exact ih_51_34 ((k51_5 + 1), (k51_4 + 1)) ls H locs (show Int.toNat (64 - (k51_5 + 1).toInt) < Int.toNat (64 - k51_5.toInt) from g_up (show k51_5.toInt < (k51_5 + 1).toInt by omega) (show k51_5.toInt < 64 by omega)) ⟨lv_sub hl [1, 0, 4, 5, 6, 7] rfl, hP, hD, hS, ⟨by omega, by omega⟩⟩
                ·
                  have i_39 : k64_7.toInt < 24 := g5_geN (a := k64_7.toInt) (b := 24) rfl (by decide +kernel) c_39
                  refine lv_iload hx hb dX12_lit_71 (lv_at hl 0 rfl) ?_
                  refine lv_if_ne (tgt := 92) hx hb dX12_lit_73 (by decide +kernel) (fun c_47 => ?_) (fun c_47 => ?_)
                  ·
                    have n_47 : gNe (k64_6.toInt) (0) := g5_ne (a := k64_6.toInt) (b := 0) rfl (by decide +kernel) c_47
                    have i_47 : k64_6.toInt ≥ 1 := by have z := g5_ne (a := k64_6.toInt) (b := 0) (by rfl) (by decide +kernel) c_47; omega
                    refine lv_iconst (v := 1) hx hb dX12_lit_92 (by decide +kernel) ?_
                    refine lv_goto (tgt := 97) hx hb dX12_lit_93 (by decide +kernel) ?_
                    refine lv_istore (lv' := [(6, .int 1), (7, .int k64_7), (4, .int k51_4), (5, .int k51_5), (0, .ref b_o), (1, .int p_1), (2, .int p_2), (3, .int p_3)]) hx hb dX12_lit_97 hl (by decide +kernel) rfl ?_
                    clear hl
                    intro ls hl
                    refine lv_iinc (v := (k64_7 + 1)) (lv' := [(7, .int (k64_7 + 1)), (6, .int 1), (4, .int k51_4), (5, .int k51_5), (0, .ref b_o), (1, .int p_1), (2, .int p_2), (3, .int p_3)]) hx hb dX12_lit_99 hl (k := 1) rfl rfl (by decide +kernel) rfl ?_
                    clear hl
                    intro ls hl
                    have t_48 : (k64_7 + 1).toInt = k64_7.toInt + 1 := g5_iadd (a := k64_7.toInt) (b := 1) rfl (by decide +kernel) (by omega) (by omega)
                    refine W.eq (g2 := F0 m 102 ls []) rfl ?_
                    refine lv_goto (tgt := 64) hx hb dX12_lit_102 (by decide +kernel) ?_
                    exact ih_64_38 ((k64_7 + 1), 1) ls H locs (show Int.toNat (24 - (k64_7 + 1).toInt) < Int.toNat (24 - k64_7.toInt) from g_up (show k64_7.toInt < (k64_7 + 1).toInt by omega) (show k64_7.toInt < 24 by omega)) ⟨lv_sub hl [1, 0, 2, 3, 4, 5, 6, 7] rfl, hP, hD, hS, ⟨by omega, by omega⟩, ⟨by decide, by decide⟩⟩
                  ·
                    have i_47 : k64_6.toInt = 0 := g5_neN (a := k64_6.toInt) (b := 0) rfl (by decide +kernel) c_47
                    refine lv_aload_n hx hb dX12_lit_76 rfl (lv_at hl 4 rfl) ?_
                    refine va_get (D := G.1) (ci := 12) (v := .ref b_ip) (C := RX12) (T := TX12) (N := 52) hx hb hts inG_X12 hown hK hP 0 rfl rfl 41 (by decide +kernel) (hts _ fl_X12_85) (fun _ h9 => h9) rfl dX12_lit_77 ?_
                    refine lv_bipush (v := 64) hx hb dX12_lit_80 (by decide +kernel) ?_
                    refine lv_iload hx hb dX12_lit_82 (lv_at hl 1 rfl) ?_
                    refine W.eq (g2 := F0 m 84 ls [.int k64_7, .int 64, .ref b_ip]) rfl ?_
                    refine lv_imul hx hb dX12_lit_84 ?_
                    have t_49 : (64 * k64_7).toInt = 64 * k64_7.toInt := g5_imul (a := 64) (b := k64_7.toInt) (by decide +kernel) (by rfl) (by omega) (by omega)
                    refine lv_iload hx hb dX12_lit_85 (lv_at hl 3 rfl) ?_
                    refine lv_iadd hx hb dX12_lit_87 ?_
                    have t_50 : ((64 * k64_7) + k51_5).toInt = (64 * k64_7).toInt + k51_5.toInt := g5_iadd (a := (64 * k64_7).toInt) (b := k51_5.toInt) (by rfl) (by rfl) (by omega) (by omega)
                    refine va_zald hx hb hK hP 5 2 rfl rfl (i := ((64 * k64_7) + k51_5)) (vp_in_iff.mpr ⟨by omega, by omega⟩) dX12_lit_88 ?_
                    refine lv_if_eq (tgt := 96) hx hb dX12_lit_89 (by decide +kernel) (fun c_51 => ?_) (fun c_51 => ?_)
                    ·
                      have i_51 : (z32 ((64 * k64_7) + k51_5).toNatClampNeg).toInt = 0 := g5_eq (a := (z32 ((64 * k64_7) + k51_5).toNatClampNeg).toInt) (b := 0) rfl (by decide +kernel) c_51
                      refine lv_iconst (v := 0) hx hb dX12_lit_96 (by decide +kernel) ?_
                      refine lv_istore (lv' := [(6, .int 0), (7, .int k64_7), (4, .int k51_4), (5, .int k51_5), (0, .ref b_o), (1, .int p_1), (2, .int p_2), (3, .int p_3)]) hx hb dX12_lit_97 hl (by decide +kernel) rfl ?_
                      clear hl
                      intro ls hl
                      refine lv_iinc (v := (k64_7 + 1)) (lv' := [(7, .int (k64_7 + 1)), (6, .int 0), (4, .int k51_4), (5, .int k51_5), (0, .ref b_o), (1, .int p_1), (2, .int p_2), (3, .int p_3)]) hx hb dX12_lit_99 hl (k := 1) rfl rfl (by decide +kernel) rfl ?_
                      clear hl
                      intro ls hl
                      have t_52 : (k64_7 + 1).toInt = k64_7.toInt + 1 := g5_iadd (a := k64_7.toInt) (b := 1) rfl (by decide +kernel) (by omega) (by omega)
                      refine lv_goto (tgt := 64) hx hb dX12_lit_102 (by decide +kernel) ?_
                      exact ih_64_38 ((k64_7 + 1), 0) ls H locs (show Int.toNat (24 - (k64_7 + 1).toInt) < Int.toNat (24 - k64_7.toInt) from g_up (show k64_7.toInt < (k64_7 + 1).toInt by omega) (show k64_7.toInt < 24 by omega)) ⟨lv_sub hl [1, 0, 2, 3, 4, 5, 6, 7] rfl, hP, hD, hS, ⟨by omega, by omega⟩, ⟨by decide, by decide⟩⟩
                    ·
                      have n_51 : gNe ((z32 ((64 * k64_7) + k51_5).toNatClampNeg).toInt) (0) := g5_eqN (a := (z32 ((64 * k64_7) + k51_5).toNatClampNeg).toInt) (b := 0) rfl (by decide +kernel) c_51
                      refine lv_iconst (v := 1) hx hb dX12_lit_92 (by decide +kernel) ?_
                      refine lv_goto (tgt := 97) hx hb dX12_lit_93 (by decide +kernel) ?_
                      refine lv_istore (lv' := [(6, .int 1), (7, .int k64_7), (4, .int k51_4), (5, .int k51_5), (0, .ref b_o), (1, .int p_1), (2, .int p_2), (3, .int p_3)]) hx hb dX12_lit_97 hl (by decide +kernel) rfl ?_
                      clear hl
                      intro ls hl
                      refine lv_iinc (v := (k64_7 + 1)) (lv' := [(7, .int (k64_7 + 1)), (6, .int 1), (4, .int k51_4), (5, .int k51_5), (0, .ref b_o), (1, .int p_1), (2, .int p_2), (3, .int p_3)]) hx hb dX12_lit_99 hl (k := 1) rfl rfl (by decide +kernel) rfl ?_
                      clear hl
                      intro ls hl
                      have t_53 : (k64_7 + 1).toInt = k64_7.toInt + 1 := g5_iadd (a := k64_7.toInt) (b := 1) rfl (by decide +kernel) (by omega) (by omega)
                      refine W.eq (g2 := F0 m 102 ls []) rfl ?_
                      refine lv_goto (tgt := 64) hx hb dX12_lit_102 (by decide +kernel) ?_
                      exact ih_64_38 ((k64_7 + 1), 1) ls H locs (show Int.toNat (24 - (k64_7 + 1).toInt) < Int.toNat (24 - k64_7.toInt) from g_up (show k64_7.toInt < (k64_7 + 1).toInt by omega) (show k64_7.toInt < 24 by omega)) ⟨lv_sub hl [1, 0, 2, 3, 4, 5, 6, 7] rfl, hP, hD, hS, ⟨by omega, by omega⟩, ⟨by decide, by decide⟩⟩
            ·
              exact absurd c_8 (by decide +kernel)
      ·
        have hJ9 := g5_same hP hk1
        clear hP hPc hDc hFc ht hvm hz1 hk1 hP1 hD1
        have hP := hJ9
        clear hJ9
        refine lv_if_eq (tgt := 33) hx hb dX12_lit_16 (by decide +kernel) (fun c_54 => ?_) (fun c_54 => ?_)
        ·
          refine lv_iconst (v := (-1)) hx hb dX12_lit_33 (by decide +kernel) ?_
          exact W.iret (v := (-1)) hx hb hr (fun t ht hW => ⟨⟨(-1), [(b_o, (oc12 0 u_sa b_rf b_ro b_im b_ke u_fd b_tp u_td u_fr u_to u_so u_wo u_fa u_bd u_nc b_nl u_co b_op b_ar u_le b_pi b_pa u_pd u_od b_ws b_hw u_la b_se b_re u_bk u_va u_su u_ce u_ho u_wy u_bt u_ps b_pt u_tg u_sn b_ip u_ic b_ah b_be b_me u_wd b_tr b_ld u_st b_wn u_id)), (b_ro, (arI G 5740 v_ro)), (b_se, (arJ G 13 v_se)), (b_re, (arJ G 400 v_re)), (b_pt, (arI G 200 v_pt)), (b_ip, (arZ G 1536 v_ip))], rfl, ⟨(-1), 0, u_la, u_bk, u_va, u_su, u_ce, u_ho, u_wy, u_bt, u_ps, u_tg, u_sn, v_se, v_re, v_pt, v_ip, h_u_la, h_u_bk, h_u_ce, h_u_ho, h_u_wy, h_u_bt, h_u_ps, r_pt, rfl, rfl⟩, by rw [ht]; exact hP.sub [0, 1, 2, 3, 4, 5] rfl, hD.sub [0, 1, 2, 3, 4, 5] (by decide +kernel) rfl⟩, hS.F ht⟩) hS.2.2 dX12_lit_34
        ·
          exact absurd c_54 (by decide +kernel)
  ·
    have hJ9 := g5_same hP hk1
    clear hP hPc hDc hFc ht hvm hz1 hk1 hP1 hD1
    have hP := hJ9
    clear hJ9
    refine lv_if_eq (tgt := 33) hx hb dX12_lit_9 (by decide +kernel) (fun c_55 => ?_) (fun c_55 => ?_)
    ·
      refine lv_iconst (v := (-1)) hx hb dX12_lit_33 (by decide +kernel) ?_
      exact W.iret (v := (-1)) hx hb hr (fun t ht hW => ⟨⟨(-1), [(b_o, (oc12 0 u_sa b_rf b_ro b_im b_ke u_fd b_tp u_td u_fr u_to u_so u_wo u_fa u_bd u_nc b_nl u_co b_op b_ar u_le b_pi b_pa u_pd u_od b_ws b_hw u_la b_se b_re u_bk u_va u_su u_ce u_ho u_wy u_bt u_ps b_pt u_tg u_sn b_ip u_ic b_ah b_be b_me u_wd b_tr b_ld u_st b_wn u_id)), (b_ro, (arI G 5740 v_ro)), (b_se, (arJ G 13 v_se)), (b_re, (arJ G 400 v_re)), (b_pt, (arI G 200 v_pt)), (b_ip, (arZ G 1536 v_ip))], rfl, ⟨(-1), 0, u_la, u_bk, u_va, u_su, u_ce, u_ho, u_wy, u_bt, u_ps, u_tg, u_sn, v_se, v_re, v_pt, v_ip, h_u_la, h_u_bk, h_u_ce, h_u_ho, h_u_wy, h_u_bt, h_u_ps, r_pt, rfl, rfl⟩, by rw [ht]; exact hP.sub [0, 1, 2, 3, 4, 5] rfl, hD.sub [0, 1, 2, 3, 4, 5] (by decide +kernel) rfl⟩, hS.F ht⟩) hS.2.2 dX12_lit_34
    ·
      exact absurd c_55 (by decide +kernel)
theorem dgX12_markAll_0 : ∀ r ∈ ([(0, (.aload_n 0, 1)), (1, (.invokevirtual 413, 3)), (4, (.iconst 0, 1)), (5, (.istore_n 1, 1)), (6, (.iload_n 1, 1)), (7, (.aload_n 0, 1)), (8, (.getfield 13, 3)), (11, (.iconst 1, 1)), (12, (.iaload, 1)), (13, (.if_icmp .ge 44, 3)), (16, (.iconst 0, 1)), (17, (.istore_n 2, 1)), (18, (.iload_n 2, 1)), (19, (.bipush 24, 2)), (21, (.if_icmp .ge 30, 3)), (24, (.aload_n 0, 1)), (25, (.iload_n 1, 1)), (26, (.iload_n 2, 1)), (27, (.invokevirtual 187, 3)), (30, (.iconst (-1), 1)), (31, (.if_icmp .eq 14, 3)), (34, (.aload_n 0, 1)), (35, (.aload_n 0, 1)), (36, (.iload_n 1, 1)), (37, (.iload_n 2, 1)), (38, (.invokevirtual 187, 3)), (41, (.iload_n 2, 1)), (42, (.invokevirtual 416, 3)), (45, (.iinc 2 1, 3)), (48, (.goto (-30), 3)), (51, (.iinc 1 1, 3)), (54, (.goto (-48), 3)), (57, (.return_, 1))] : List (Nat × (Instr × Nat))), decode cX12_markAll r.1 = .ok r.2 := by decide +kernel
theorem dX12_markAll_0 : decode cX12_markAll 0 = .ok (.aload_n 0, 1) := dgX12_markAll_0 (0, (.aload_n 0, 1)) (List.mem_of_getElem? (i := 0) rfl)
theorem dX12_markAll_1 : decode cX12_markAll 1 = .ok (.invokevirtual 413, 3) := dgX12_markAll_0 (1, (.invokevirtual 413, 3)) (List.mem_of_getElem? (i := 1) rfl)
theorem dX12_markAll_4 : decode cX12_markAll 4 = .ok (.iconst 0, 1) := dgX12_markAll_0 (4, (.iconst 0, 1)) (List.mem_of_getElem? (i := 2) rfl)
theorem dX12_markAll_5 : decode cX12_markAll 5 = .ok (.istore_n 1, 1) := dgX12_markAll_0 (5, (.istore_n 1, 1)) (List.mem_of_getElem? (i := 3) rfl)
theorem dX12_markAll_6 : decode cX12_markAll 6 = .ok (.iload_n 1, 1) := dgX12_markAll_0 (6, (.iload_n 1, 1)) (List.mem_of_getElem? (i := 4) rfl)
theorem dX12_markAll_7 : decode cX12_markAll 7 = .ok (.aload_n 0, 1) := dgX12_markAll_0 (7, (.aload_n 0, 1)) (List.mem_of_getElem? (i := 5) rfl)
theorem dX12_markAll_8 : decode cX12_markAll 8 = .ok (.getfield 13, 3) := dgX12_markAll_0 (8, (.getfield 13, 3)) (List.mem_of_getElem? (i := 6) rfl)
theorem dX12_markAll_11 : decode cX12_markAll 11 = .ok (.iconst 1, 1) := dgX12_markAll_0 (11, (.iconst 1, 1)) (List.mem_of_getElem? (i := 7) rfl)
theorem dX12_markAll_12 : decode cX12_markAll 12 = .ok (.iaload, 1) := dgX12_markAll_0 (12, (.iaload, 1)) (List.mem_of_getElem? (i := 8) rfl)
theorem dX12_markAll_13 : decode cX12_markAll 13 = .ok (.if_icmp .ge 44, 3) := dgX12_markAll_0 (13, (.if_icmp .ge 44, 3)) (List.mem_of_getElem? (i := 9) rfl)
theorem dX12_markAll_16 : decode cX12_markAll 16 = .ok (.iconst 0, 1) := dgX12_markAll_0 (16, (.iconst 0, 1)) (List.mem_of_getElem? (i := 10) rfl)
theorem dX12_markAll_17 : decode cX12_markAll 17 = .ok (.istore_n 2, 1) := dgX12_markAll_0 (17, (.istore_n 2, 1)) (List.mem_of_getElem? (i := 11) rfl)
theorem dX12_markAll_18 : decode cX12_markAll 18 = .ok (.iload_n 2, 1) := dgX12_markAll_0 (18, (.iload_n 2, 1)) (List.mem_of_getElem? (i := 12) rfl)
theorem dX12_markAll_19 : decode cX12_markAll 19 = .ok (.bipush 24, 2) := dgX12_markAll_0 (19, (.bipush 24, 2)) (List.mem_of_getElem? (i := 13) rfl)
theorem dX12_markAll_21 : decode cX12_markAll 21 = .ok (.if_icmp .ge 30, 3) := dgX12_markAll_0 (21, (.if_icmp .ge 30, 3)) (List.mem_of_getElem? (i := 14) rfl)
theorem dX12_markAll_24 : decode cX12_markAll 24 = .ok (.aload_n 0, 1) := dgX12_markAll_0 (24, (.aload_n 0, 1)) (List.mem_of_getElem? (i := 15) rfl)
theorem dX12_markAll_25 : decode cX12_markAll 25 = .ok (.iload_n 1, 1) := dgX12_markAll_0 (25, (.iload_n 1, 1)) (List.mem_of_getElem? (i := 16) rfl)
theorem dX12_markAll_26 : decode cX12_markAll 26 = .ok (.iload_n 2, 1) := dgX12_markAll_0 (26, (.iload_n 2, 1)) (List.mem_of_getElem? (i := 17) rfl)
theorem dX12_markAll_27 : decode cX12_markAll 27 = .ok (.invokevirtual 187, 3) := dgX12_markAll_0 (27, (.invokevirtual 187, 3)) (List.mem_of_getElem? (i := 18) rfl)
theorem dX12_markAll_30 : decode cX12_markAll 30 = .ok (.iconst (-1), 1) := dgX12_markAll_0 (30, (.iconst (-1), 1)) (List.mem_of_getElem? (i := 19) rfl)
theorem dX12_markAll_31 : decode cX12_markAll 31 = .ok (.if_icmp .eq 14, 3) := dgX12_markAll_0 (31, (.if_icmp .eq 14, 3)) (List.mem_of_getElem? (i := 20) rfl)
theorem dX12_markAll_34 : decode cX12_markAll 34 = .ok (.aload_n 0, 1) := dgX12_markAll_0 (34, (.aload_n 0, 1)) (List.mem_of_getElem? (i := 21) rfl)
theorem dX12_markAll_35 : decode cX12_markAll 35 = .ok (.aload_n 0, 1) := dgX12_markAll_0 (35, (.aload_n 0, 1)) (List.mem_of_getElem? (i := 22) rfl)
theorem dX12_markAll_36 : decode cX12_markAll 36 = .ok (.iload_n 1, 1) := dgX12_markAll_0 (36, (.iload_n 1, 1)) (List.mem_of_getElem? (i := 23) rfl)
theorem dX12_markAll_37 : decode cX12_markAll 37 = .ok (.iload_n 2, 1) := dgX12_markAll_0 (37, (.iload_n 2, 1)) (List.mem_of_getElem? (i := 24) rfl)
theorem dX12_markAll_38 : decode cX12_markAll 38 = .ok (.invokevirtual 187, 3) := dgX12_markAll_0 (38, (.invokevirtual 187, 3)) (List.mem_of_getElem? (i := 25) rfl)
theorem dX12_markAll_41 : decode cX12_markAll 41 = .ok (.iload_n 2, 1) := dgX12_markAll_0 (41, (.iload_n 2, 1)) (List.mem_of_getElem? (i := 26) rfl)
theorem dX12_markAll_42 : decode cX12_markAll 42 = .ok (.invokevirtual 416, 3) := dgX12_markAll_0 (42, (.invokevirtual 416, 3)) (List.mem_of_getElem? (i := 27) rfl)
theorem dX12_markAll_45 : decode cX12_markAll 45 = .ok (.iinc 2 1, 3) := dgX12_markAll_0 (45, (.iinc 2 1, 3)) (List.mem_of_getElem? (i := 28) rfl)
theorem dX12_markAll_48 : decode cX12_markAll 48 = .ok (.goto (-30), 3) := dgX12_markAll_0 (48, (.goto (-30), 3)) (List.mem_of_getElem? (i := 29) rfl)
theorem dX12_markAll_51 : decode cX12_markAll 51 = .ok (.iinc 1 1, 3) := dgX12_markAll_0 (51, (.iinc 1 1, 3)) (List.mem_of_getElem? (i := 30) rfl)
theorem dX12_markAll_54 : decode cX12_markAll 54 = .ok (.goto (-48), 3) := dgX12_markAll_0 (54, (.goto (-48), 3)) (List.mem_of_getElem? (i := 31) rfl)
theorem dX12_markAll_57 : decode cX12_markAll 57 = .ok (.return_, 1) := dgX12_markAll_0 (57, (.return_, 1)) (List.mem_of_getElem? (i := 32) rfl)
set_option maxHeartbeats 4000000 in
set_option maxRecDepth 100000 in
theorem n_markAll (l : Launch) (G : g5_G) (b_o b_ro b_se b_re b_pt b_ip b_rf b_im b_ke b_tp b_nl b_op b_ar b_pi b_pa b_ws b_hw b_ah b_be b_me b_tr b_ld b_wn : Nat) (sz : Nat) (u_th : Int32) (u_sa : Int32) (u_fd : Int32) (u_td : Int32) (u_fr : Int32) (u_to : Int32) (u_so : Int32) (u_fa : Int32) (u_bd : Int32) (u_nc : Int32) (u_co : Int32) (u_le : Int32) (u_pd : Int32) (u_od : Int32) (u_la : Int32) (u_bk : Int32) (u_ce : Int32) (u_ho : Int32) (u_wy : Int32) (u_bt : Int32) (u_ps : Int32) (u_tg : Int32) (u_sn : Int32) (u_ic : Int32) (u_wd : Int32) (u_id : Int32) (u_wo : Int64) (u_va : Int64) (u_su : Int64) (u_st : Int64) (v_ro : Nat → Int32) (v_se : Nat → Int64) (v_re : Nat → Int64) (v_pt : Nat → Int32) (v_ip : Nat → Int32) (h_u_td : 0 ≤ u_td.toInt ∧ u_td.toInt ≤ 400) (h_u_fr : 0 ≤ u_fr.toInt ∧ u_fr.toInt ≤ 400) (h_u_to : 0 ≤ u_to.toInt ∧ u_to.toInt ≤ 400) (h_u_bd : 0 ≤ u_bd.toInt ∧ u_bd.toInt ≤ 1) (h_u_nc : 0 ≤ u_nc.toInt ∧ u_nc.toInt ≤ 12) (h_u_co : 0 ≤ u_co.toInt ∧ u_co.toInt ≤ 400) (h_u_pd : 0 ≤ u_pd.toInt ∧ u_pd.toInt ≤ 400) (h_u_la : 0 ≤ u_la.toInt ∧ u_la.toInt ≤ 4840) (h_u_bk : 0 ≤ u_bk.toInt ∧ u_bk.toInt ≤ 1) (h_u_ce : 0 ≤ u_ce.toInt ∧ u_ce.toInt ≤ 63) (h_u_ho : 0 ≤ u_ho.toInt ∧ u_ho.toInt ≤ 23) (h_u_wy : 0 ≤ u_wy.toInt ∧ u_wy.toInt ≤ 3) (h_u_bt : 0 ≤ u_bt.toInt ∧ u_bt.toInt ≤ 1000000) (h_u_ps : 0 ≤ u_ps.toInt ∧ u_ps.toInt ≤ 200) (h_u_ic : 0 ≤ u_ic.toInt ∧ u_ic.toInt ≤ 1) (h_u_id : 0 ≤ u_id.toInt ∧ u_id.toInt ≤ 1) (r_ro : MI v_ro) (r_pt : PTI v_pt) : Met l yX12_markAll (wsG yX12_markAll cX12_markAll 3 none) ({ frames := 8, cells := 0, slots := 0, locals := 200 }) (va_Pc [.ref b_o] (g5_P G [(b_o, (oc12 u_th u_sa b_rf b_ro b_im b_ke u_fd b_tp u_td u_fr u_to u_so u_wo u_fa u_bd u_nc b_nl u_co b_op b_ar u_le b_pi b_pa u_pd u_od b_ws b_hw u_la b_se b_re u_bk u_va u_su u_ce u_ho u_wy u_bt u_ps b_pt u_tg u_sn b_ip u_ic b_ah b_be b_me u_wd b_tr b_ld u_st b_wn u_id)), (b_ro, (arI G 5740 v_ro)), (b_se, (arJ G 13 v_se)), (b_re, (arJ G 400 v_re)), (b_pt, (arI G 200 v_pt)), (b_ip, (arZ G 1536 v_ip))] sz)) (va_Qv (fun (u : va_W) => (∃ (o_la : Int32) (o_bk : Int32) (o_va : Int64) (o_su : Int64) (o_ce : Int32) (o_ho : Int32) (o_wy : Int32) (o_bt : Int32) (o_ps : Int32) (o_tg : Int32) (o_sn : Int32) (o_se : Nat → Int64) (o_re : Nat → Int64) (o_pt : Nat → Int32) (o_ip : Nat → Int32), (0 ≤ o_la.toInt ∧ o_la.toInt ≤ 4840) ∧ (0 ≤ o_bk.toInt ∧ o_bk.toInt ≤ 1) ∧ (0 ≤ o_ce.toInt ∧ o_ce.toInt ≤ 63) ∧ (0 ≤ o_ho.toInt ∧ o_ho.toInt ≤ 23) ∧ (0 ≤ o_wy.toInt ∧ o_wy.toInt ≤ 3) ∧ (0 ≤ o_bt.toInt ∧ o_bt.toInt ≤ 1000000) ∧ (0 ≤ o_ps.toInt ∧ o_ps.toInt ≤ 200) ∧ (PTI o_pt) ∧ (u = [(b_o, (oc12 u_th u_sa b_rf b_ro b_im b_ke u_fd b_tp u_td u_fr u_to u_so u_wo u_fa u_bd u_nc b_nl u_co b_op b_ar u_le b_pi b_pa u_pd u_od b_ws b_hw o_la b_se b_re o_bk o_va o_su o_ce o_ho o_wy o_bt o_ps b_pt o_tg o_sn b_ip u_ic b_ah b_be b_me u_wd b_tr b_ld u_st b_wn u_id)), (b_ro, (arI G 5740 v_ro)), (b_se, (arJ G 13 o_se)), (b_re, (arJ G 400 o_re)), (b_pt, (arI G 200 o_pt)), (b_ip, (arZ G 1536 o_ip))]))) (g5_B G (va_A [(b_o, (oc12 u_th u_sa b_rf b_ro b_im b_ke u_fd b_tp u_td u_fr u_to u_so u_wo u_fa u_bd u_nc b_nl u_co b_op b_ar u_le b_pi b_pa u_pd u_od b_ws b_hw u_la b_se b_re u_bk u_va u_su u_ce u_ho u_wy u_bt u_ps b_pt u_tg u_sn b_ip u_ic b_ah b_be b_me u_wd b_tr b_ld u_st b_wn u_id)), (b_ro, (arI G 5740 v_ro)), (b_se, (arJ G 13 v_se)), (b_re, (arJ G 400 v_re)), (b_pt, (arI G 200 v_pt)), (b_ip, (arZ G 1536 v_ip))] sz)) (va_A [(b_o, (oc12 u_th u_sa b_rf b_ro b_im b_ke u_fd b_tp u_td u_fr u_to u_so u_wo u_fa u_bd u_nc b_nl u_co b_op b_ar u_le b_pi b_pa u_pd u_od b_ws b_hw u_la b_se b_re u_bk u_va u_su u_ce u_ho u_wy u_bt u_ps b_pt u_tg u_sn b_ip u_ic b_ah b_be b_me u_wd b_tr b_ld u_st b_wn u_id)), (b_ro, (arI G 5740 v_ro)), (b_se, (arJ G 13 v_se)), (b_re, (arJ G 400 v_re)), (b_pt, (arI G 200 v_pt)), (b_ip, (arZ G 1536 v_ip))] sz)) 0 0 (va_A [(b_o, (oc12 u_th u_sa b_rf b_ro b_im b_ke u_fd b_tp u_td u_fr u_to u_so u_wo u_fa u_bd u_nc b_nl u_co b_op b_ar u_le b_pi b_pa u_pd u_od b_ws b_hw u_la b_se b_re u_bk u_va u_su u_ce u_ho u_wy u_bt u_ps b_pt u_tg u_sn b_ip u_ic b_ah b_be b_me u_wd b_tr b_ld u_st b_wn u_id)), (b_ro, (arI G 5740 v_ro)), (b_se, (arJ G 13 v_se)), (b_re, (arJ G 400 v_re)), (b_pt, (arI G 200 v_pt)), (b_ip, (arZ G 1536 v_ip))] sz) := by
  refine Met.ofW (cc := cX12_markAll) (maxL := 3) (ret := none) (by decide +kernel) rfl ?_
  intro p e s m args below meth c s₁ B hml hv
  obtain ⟨rfl, hsz, hP, hK, hD0, hN, hT⟩ := hv
  have hx := B.exec
  have hb := B.bytes
  have hr := B.returns
  have hts : ∀ w ∈ tblG, w.before _ s = true := fun w h => atoms_spec (ws := (wsG yX12_markAll cX12_markAll 3 none)) B.pre w (List.mem_cons_of_mem _ h)
  have hown : s.vm.findClass RX12 = some m.cls := findClass_of_methodNamed B.named
  have hlocks := B.notSynchronized
  subst hsz
  have hD := hD0.self (sz := s.heap.size)
  generalize hAe : va_A [(b_o, (oc12 u_th u_sa b_rf b_ro b_im b_ke u_fd b_tp u_td u_fr u_to u_so u_wo u_fa u_bd u_nc b_nl u_co b_op b_ar u_le b_pi b_pa u_pd u_od b_ws b_hw u_la b_se b_re u_bk u_va u_su u_ce u_ho u_wy u_bt u_ps b_pt u_tg u_sn b_ip u_ic b_ah b_be b_me u_wd b_tr b_ld u_st b_wn u_id)), (b_ro, (arI G 5740 v_ro)), (b_se, (arJ G 13 v_se)), (b_re, (arJ G 400 v_re)), (b_pt, (arI G 200 v_pt)), (b_ip, (arZ G 1536 v_ip))] s.heap.size = A at hD hT ⊢
  have hA : ∀ q : Nat, s.heap.size ≤ q → A q := fun q h => by rw [← hAe]; exact Or.inr h
  have hS : va_S A s.heap s.heap [] := va_S.rf
  replace hP : va_P G.1 vwCl [(b_o, (oc12 u_th u_sa b_rf b_ro b_im b_ke u_fd b_tp u_td u_fr u_to u_so u_wo u_fa u_bd u_nc b_nl u_co b_op b_ar u_le b_pi b_pa u_pd u_od b_ws b_hw u_la b_se b_re u_bk u_va u_su u_ce u_ho u_wy u_bt u_ps b_pt u_tg u_sn b_ip u_ic b_ah b_be b_me u_wd b_tr b_ld u_st b_wn u_id)), (b_ro, (arI G 5740 v_ro)), (b_se, (arJ G 13 v_se)), (b_re, (arJ G 400 v_re)), (b_pt, (arI G 200 v_pt)), (b_ip, (arZ G 1536 v_ip))] s.heap := hP
  have hl := lv_entry ([.ref b_o]) (n := 3) (Nat.le_of_ble_eq_true rfl)
  rw [lg_entry_eq]
  generalize (lg_sl ([.ref b_o]) ++ List.replicate (3 - (lg_sl ([.ref b_o])).length) Slot.unset).toArray = ls at hl ⊢
  replace hl : lv_has ls 3 [(0, .ref b_o)] := hl
  refine lv_aload_n hx hb dX12_markAll_0 rfl (lv_at hl 0 rfl) ?_
  obtain ⟨hPc, hDc, hFc⟩ := g5_sub3 (wc := [(b_o, (oc12 u_th u_sa b_rf b_ro b_im b_ke u_fd b_tp u_td u_fr u_to u_so u_wo u_fa u_bd u_nc b_nl u_co b_op b_ar u_le b_pi b_pa u_pd u_od b_ws b_hw u_la b_se b_re u_bk u_va u_su u_ce u_ho u_wy u_bt u_ps b_pt u_tg u_sn b_ip u_ic b_ah b_be b_me u_wd b_tr b_ld u_st b_wn u_id)), (b_ip, (arZ G 1536 v_ip))]) hP hD hS hA [0, 5] (by decide +kernel) rfl
  refine va_callv (va_runV (As := []) (rest := []) ⟨hx, hb, hml, hown, hts⟩ (n_clearPoints l G b_o b_ip b_rf b_ro b_im b_ke b_tp b_nl b_op b_ar b_pi b_pa b_ws b_hw b_se b_re b_pt b_ah b_be b_me b_tr b_ld b_wn s.heap.size u_th u_sa u_fd u_td u_fr u_to u_so u_fa u_bd u_nc u_co u_le u_pd u_od u_la u_bk u_ce u_ho u_wy u_bt u_ps u_tg u_sn u_ic u_wd u_id u_wo u_va u_su u_st v_ip h_u_td h_u_fr h_u_to h_u_bd h_u_nc h_u_co h_u_pd h_u_la h_u_bk h_u_ce h_u_ho h_u_wy h_u_bt h_u_ps h_u_ic h_u_id) (cwV 0 hts gV_X12_413 rfl rfl rfl hv_X12_clearPoints ⟨Nat.le_of_ble_eq_true rfl, Nat.le_of_ble_eq_true rfl⟩) (g5_preV hPc hK hDc hN hT hS hFc (ci := 12) (q0 := 0) rfl rfl) rfl rfl hl.1 rfl (lv_room (Nat.le_of_ble_eq_true rfl)) dX12_markAll_1 ⟨Nat.le_of_ble_eq_true rfl, Nat.le_of_ble_eq_true rfl⟩) hS (fun q _ h => hFc q h) hFc (fun u t H locs ht hvm hw hB hz1 hk1 hS => ?_)
  obtain ⟨hP1, hD1⟩ := hB
  have hP1 := g5_ht ht hP1
  obtain ⟨z1, rfl⟩ := hw
  have hJ9 := va_join (wr := [(b_ro, (arI G 5740 v_ro)), (b_se, (arJ G 13 v_se)), (b_re, (arJ G 400 v_re)), (b_pt, (arI G 200 v_pt))]) hP hD [0, 5] [1, 2, 3, 4] rfl rfl (by decide +kernel) (by decide +kernel) hk1 hFc hP1 hD1
  clear hP hD hPc hDc hFc ht hvm hz1 hk1 hP1 hD1
  obtain ⟨hP, hD⟩ := hJ9
  refine g5_rs [(b_ro, (arI G 5740 v_ro)), (b_se, (arJ G 13 v_se)), (b_re, (arJ G 400 v_re)), (b_pt, (arI G 200 v_pt)), (b_o, (oc12 u_th u_sa b_rf b_ro b_im b_ke u_fd b_tp u_td u_fr u_to u_so u_wo u_fa u_bd u_nc b_nl u_co b_op b_ar u_le b_pi b_pa u_pd u_od b_ws b_hw u_la b_se b_re u_bk u_va u_su u_ce u_ho u_wy u_bt u_ps b_pt u_tg u_sn b_ip u_ic b_ah b_be b_me u_wd b_tr b_ld u_st b_wn u_id)), (b_ip, (arZ G 1536 z1))] hP hD ?_
  clear hP hD
  intro hP hD
  refine lv_iconst (v := 0) hx hb dX12_markAll_4 (by decide +kernel) ?_
  refine lv_istore_n (lv' := [(1, .int 0), (0, .ref b_o)]) hx hb dX12_markAll_5 rfl hl (by decide +kernel) rfl ?_
  clear hl
  intro ls hl
  refine g5_loop (α := (Int32) × (Int32) × (Int32) × (Int64) × (Int64) × (Int32) × (Int32) × (Int32) × (Int32) × (Int32) × (Int32) × (Int32) × (Nat → Int64) × (Nat → Int64) × (Nat → Int32) × (Nat → Int32)) (fun (q : (Int32) × (Int32) × (Int32) × (Int64) × (Int64) × (Int32) × (Int32) × (Int32) × (Int32) × (Int32) × (Int32) × (Int32) × (Nat → Int64) × (Nat → Int64) × (Nat → Int32) × (Nat → Int32)) (ls : Array Slot) (H : Heap) (locs : List Loc) => match q with | (k6_1, k6_la, k6_bk, k6_va, k6_su, k6_ce, k6_ho, k6_wy, k6_bt, k6_ps, k6_tg, k6_sn, k6_se, k6_re, k6_pt, k6_ip) => lv_has ls 3 [(1, .int k6_1), (0, .ref b_o)] ∧ va_P G.1 vwCl [(b_ro, (arI G 5740 v_ro)), (b_se, (arJ G 13 k6_se)), (b_re, (arJ G 400 k6_re)), (b_pt, (arI G 200 k6_pt)), (b_o, (oc12 u_th u_sa b_rf b_ro b_im b_ke u_fd b_tp u_td u_fr u_to u_so u_wo u_fa u_bd u_nc b_nl u_co b_op b_ar u_le b_pi b_pa u_pd u_od b_ws b_hw k6_la b_se b_re k6_bk k6_va k6_su k6_ce k6_ho k6_wy k6_bt k6_ps b_pt k6_tg k6_sn b_ip u_ic b_ah b_be b_me u_wd b_tr b_ld u_st b_wn u_id)), (b_ip, (arZ G 1536 k6_ip))] H ∧ va_D A [(b_ro, (arI G 5740 v_ro)), (b_se, (arJ G 13 k6_se)), (b_re, (arJ G 400 k6_re)), (b_pt, (arI G 200 k6_pt)), (b_o, (oc12 u_th u_sa b_rf b_ro b_im b_ke u_fd b_tp u_td u_fr u_to u_so u_wo u_fa u_bd u_nc b_nl u_co b_op b_ar u_le b_pi b_pa u_pd u_od b_ws b_hw k6_la b_se b_re k6_bk k6_va k6_su k6_ce k6_ho k6_wy k6_bt k6_ps b_pt k6_tg k6_sn b_ip u_ic b_ah b_be b_me u_wd b_tr b_ld u_st b_wn u_id)), (b_ip, (arZ G 1536 k6_ip))] ∧ va_S A s.heap H locs ∧ (0 ≤ k6_1.toInt ∧ k6_1.toInt ≤ 5) ∧ (0 ≤ k6_la.toInt ∧ k6_la.toInt ≤ 4840) ∧ (0 ≤ k6_bk.toInt ∧ k6_bk.toInt ≤ 1) ∧ (0 ≤ k6_ce.toInt ∧ k6_ce.toInt ≤ 63) ∧ (0 ≤ k6_ho.toInt ∧ k6_ho.toInt ≤ 23) ∧ (0 ≤ k6_wy.toInt ∧ k6_wy.toInt ≤ 3) ∧ (0 ≤ k6_bt.toInt ∧ k6_bt.toInt ≤ 1000000) ∧ (0 ≤ k6_ps.toInt ∧ k6_ps.toInt ≤ 200) ∧ (PTI k6_pt)) (fun (q : (Int32) × (Int32) × (Int32) × (Int64) × (Int64) × (Int32) × (Int32) × (Int32) × (Int32) × (Int32) × (Int32) × (Int32) × (Nat → Int64) × (Nat → Int64) × (Nat → Int32) × (Nat → Int32)) => match q with | (k6_1, k6_la, k6_bk, k6_va, k6_su, k6_ce, k6_ho, k6_wy, k6_bt, k6_ps, k6_tg, k6_sn, k6_se, k6_re, k6_pt, k6_ip) => Int.toNat (5 - k6_1.toInt)) (0, u_la, u_bk, u_va, u_su, u_ce, u_ho, u_wy, u_bt, u_ps, u_tg, u_sn, v_se, v_re, v_pt, z1) ⟨lv_sub hl [0, 1] rfl, hP, hD, hS, ⟨by decide, by decide⟩, h_u_la, h_u_bk, h_u_ce, h_u_ho, h_u_wy, h_u_bt, h_u_ps, r_pt⟩ ?_
  rintro ⟨k6_1, k6_la, k6_bk, k6_va, k6_su, k6_ce, k6_ho, k6_wy, k6_bt, k6_ps, k6_tg, k6_sn, k6_se, k6_re, k6_pt, k6_ip⟩ ls H locs ⟨hl, hP, hD, hS, (i_2 : 0 ≤ k6_1.toInt ∧ k6_1.toInt ≤ 5), (i_3 : 0 ≤ k6_la.toInt ∧ k6_la.toInt ≤ 4840), (i_4 : 0 ≤ k6_bk.toInt ∧ k6_bk.toInt ≤ 1), (i_5 : 0 ≤ k6_ce.toInt ∧ k6_ce.toInt ≤ 63), (i_6 : 0 ≤ k6_ho.toInt ∧ k6_ho.toInt ≤ 23), (i_7 : 0 ≤ k6_wy.toInt ∧ k6_wy.toInt ≤ 3), (i_8 : 0 ≤ k6_bt.toInt ∧ k6_bt.toInt ≤ 1000000), (i_9 : 0 ≤ k6_ps.toInt ∧ k6_ps.toInt ≤ 200), (i_10 : PTI k6_pt)⟩ ih_6_11
  replace hl : lv_has ls 3 [(1, .int k6_1), (0, .ref b_o)] := hl
  refine g5_rs [(b_ro, (arI G 5740 v_ro)), (b_se, (arJ G 13 k6_se)), (b_re, (arJ G 400 k6_re)), (b_pt, (arI G 200 k6_pt)), (b_o, (oc12 u_th u_sa b_rf b_ro b_im b_ke u_fd b_tp u_td u_fr u_to u_so u_wo u_fa u_bd u_nc b_nl u_co b_op b_ar u_le b_pi b_pa u_pd u_od b_ws b_hw k6_la b_se b_re k6_bk k6_va k6_su k6_ce k6_ho k6_wy k6_bt k6_ps b_pt k6_tg k6_sn b_ip u_ic b_ah b_be b_me u_wd b_tr b_ld u_st b_wn u_id)), (b_ip, (arZ G 1536 k6_ip))] hP hD ?_
  clear hP hD
  intro hP hD
  refine lv_iload_n hx hb dX12_markAll_6 rfl (lv_at hl 0 rfl) ?_
  refine lv_aload_n hx hb dX12_markAll_7 rfl (lv_at hl 1 rfl) ?_
  refine va_get (D := G.1) (ci := 12) (v := .ref b_ro) (C := RX12) (T := TX12) (N := 52) hx hb hts inG_X12 hown hK hP 4 rfl rfl 3 (by decide +kernel) (hts _ fl_X12_13) (fun _ h9 => h9) rfl dX12_markAll_8 ?_
  refine lv_iconst (v := 1) hx hb dX12_markAll_11 (by decide +kernel) ?_
  refine W.eq (g2 := F0 m 12 ls [.int 1, .ref b_ro, .int k6_1]) rfl ?_
  refine va_iald hx hb hK hP 0 0 rfl rfl (i := 1) (by unfold vp_in; decide) dX12_markAll_12 ?_
  refine g5_ti (v := (v_ro 1)) rfl ?_
  have hr_12 : 0 ≤ (v_ro 1).toInt ∧ (v_ro 1).toInt ≤ 5 := mi_1 r_ro
  refine lv_icmp_ge (tgt := 57) hx hb dX12_markAll_13 (by decide +kernel) (fun c_13 => ?_) (fun c_13 => ?_)
  ·
    have i_13 : k6_1.toInt ≥ (v_ro 1).toInt := g5_ge (a := k6_1.toInt) (b := (v_ro 1).toInt) rfl rfl c_13
    exact W.vret hx hb hr (fun t ht hW => ⟨⟨[(b_o, (oc12 u_th u_sa b_rf b_ro b_im b_ke u_fd b_tp u_td u_fr u_to u_so u_wo u_fa u_bd u_nc b_nl u_co b_op b_ar u_le b_pi b_pa u_pd u_od b_ws b_hw k6_la b_se b_re k6_bk k6_va k6_su k6_ce k6_ho k6_wy k6_bt k6_ps b_pt k6_tg k6_sn b_ip u_ic b_ah b_be b_me u_wd b_tr b_ld u_st b_wn u_id)), (b_ro, (arI G 5740 v_ro)), (b_se, (arJ G 13 k6_se)), (b_re, (arJ G 400 k6_re)), (b_pt, (arI G 200 k6_pt)), (b_ip, (arZ G 1536 k6_ip))], rfl, ⟨k6_la, k6_bk, k6_va, k6_su, k6_ce, k6_ho, k6_wy, k6_bt, k6_ps, k6_tg, k6_sn, k6_se, k6_re, k6_pt, k6_ip, i_3, i_4, i_5, i_6, i_7, i_8, i_9, i_10, rfl⟩, by rw [ht]; exact hP.sub [4, 0, 1, 2, 3, 5] rfl, hD.sub [4, 0, 1, 2, 3, 5] (by decide +kernel) rfl⟩, hS.F ht⟩) hS.2.2 dX12_markAll_57
  ·
    have i_13 : k6_1.toInt < (v_ro 1).toInt := g5_geN (a := k6_1.toInt) (b := (v_ro 1).toInt) rfl rfl c_13
    refine lv_iconst (v := 0) hx hb dX12_markAll_16 (by decide +kernel) ?_
    refine lv_istore_n (lv' := [(2, .int 0), (1, .int k6_1), (0, .ref b_o)]) hx hb dX12_markAll_17 rfl hl (by decide +kernel) rfl ?_
    clear hl
    intro ls hl
    refine g5_loop (α := (Int32) × (Int32) × (Int32) × (Int64) × (Int64) × (Int32) × (Int32) × (Int32) × (Int32) × (Int32) × (Int32) × (Int32) × (Nat → Int64) × (Nat → Int64) × (Nat → Int32) × (Nat → Int32)) (fun (q : (Int32) × (Int32) × (Int32) × (Int64) × (Int64) × (Int32) × (Int32) × (Int32) × (Int32) × (Int32) × (Int32) × (Int32) × (Nat → Int64) × (Nat → Int64) × (Nat → Int32) × (Nat → Int32)) (ls : Array Slot) (H : Heap) (locs : List Loc) => match q with | (k18_2, k18_la, k18_bk, k18_va, k18_su, k18_ce, k18_ho, k18_wy, k18_bt, k18_ps, k18_tg, k18_sn, k18_se, k18_re, k18_pt, k18_ip) => lv_has ls 3 [(2, .int k18_2), (1, .int k6_1), (0, .ref b_o)] ∧ va_P G.1 vwCl [(b_ro, (arI G 5740 v_ro)), (b_se, (arJ G 13 k18_se)), (b_re, (arJ G 400 k18_re)), (b_pt, (arI G 200 k18_pt)), (b_o, (oc12 u_th u_sa b_rf b_ro b_im b_ke u_fd b_tp u_td u_fr u_to u_so u_wo u_fa u_bd u_nc b_nl u_co b_op b_ar u_le b_pi b_pa u_pd u_od b_ws b_hw k18_la b_se b_re k18_bk k18_va k18_su k18_ce k18_ho k18_wy k18_bt k18_ps b_pt k18_tg k18_sn b_ip u_ic b_ah b_be b_me u_wd b_tr b_ld u_st b_wn u_id)), (b_ip, (arZ G 1536 k18_ip))] H ∧ va_D A [(b_ro, (arI G 5740 v_ro)), (b_se, (arJ G 13 k18_se)), (b_re, (arJ G 400 k18_re)), (b_pt, (arI G 200 k18_pt)), (b_o, (oc12 u_th u_sa b_rf b_ro b_im b_ke u_fd b_tp u_td u_fr u_to u_so u_wo u_fa u_bd u_nc b_nl u_co b_op b_ar u_le b_pi b_pa u_pd u_od b_ws b_hw k18_la b_se b_re k18_bk k18_va k18_su k18_ce k18_ho k18_wy k18_bt k18_ps b_pt k18_tg k18_sn b_ip u_ic b_ah b_be b_me u_wd b_tr b_ld u_st b_wn u_id)), (b_ip, (arZ G 1536 k18_ip))] ∧ va_S A s.heap H locs ∧ (0 ≤ k18_2.toInt ∧ k18_2.toInt ≤ 24) ∧ (0 ≤ k18_la.toInt ∧ k18_la.toInt ≤ 4840) ∧ (0 ≤ k18_bk.toInt ∧ k18_bk.toInt ≤ 1) ∧ (0 ≤ k18_ce.toInt ∧ k18_ce.toInt ≤ 63) ∧ (0 ≤ k18_ho.toInt ∧ k18_ho.toInt ≤ 23) ∧ (0 ≤ k18_wy.toInt ∧ k18_wy.toInt ≤ 3) ∧ (0 ≤ k18_bt.toInt ∧ k18_bt.toInt ≤ 1000000) ∧ (0 ≤ k18_ps.toInt ∧ k18_ps.toInt ≤ 200) ∧ (PTI k18_pt)) (fun (q : (Int32) × (Int32) × (Int32) × (Int64) × (Int64) × (Int32) × (Int32) × (Int32) × (Int32) × (Int32) × (Int32) × (Int32) × (Nat → Int64) × (Nat → Int64) × (Nat → Int32) × (Nat → Int32)) => match q with | (k18_2, k18_la, k18_bk, k18_va, k18_su, k18_ce, k18_ho, k18_wy, k18_bt, k18_ps, k18_tg, k18_sn, k18_se, k18_re, k18_pt, k18_ip) => Int.toNat (24 - k18_2.toInt)) (0, k6_la, k6_bk, k6_va, k6_su, k6_ce, k6_ho, k6_wy, k6_bt, k6_ps, k6_tg, k6_sn, k6_se, k6_re, k6_pt, k6_ip) ⟨lv_sub hl [0, 1, 2] rfl, hP, hD, hS, ⟨by decide, by decide⟩, i_3, i_4, i_5, i_6, i_7, i_8, i_9, i_10⟩ ?_
    rintro ⟨k18_2, k18_la, k18_bk, k18_va, k18_su, k18_ce, k18_ho, k18_wy, k18_bt, k18_ps, k18_tg, k18_sn, k18_se, k18_re, k18_pt, k18_ip⟩ ls H locs ⟨hl, hP, hD, hS, (i_14 : 0 ≤ k18_2.toInt ∧ k18_2.toInt ≤ 24), (i_15 : 0 ≤ k18_la.toInt ∧ k18_la.toInt ≤ 4840), (i_16 : 0 ≤ k18_bk.toInt ∧ k18_bk.toInt ≤ 1), (i_17 : 0 ≤ k18_ce.toInt ∧ k18_ce.toInt ≤ 63), (i_18 : 0 ≤ k18_ho.toInt ∧ k18_ho.toInt ≤ 23), (i_19 : 0 ≤ k18_wy.toInt ∧ k18_wy.toInt ≤ 3), (i_20 : 0 ≤ k18_bt.toInt ∧ k18_bt.toInt ≤ 1000000), (i_21 : 0 ≤ k18_ps.toInt ∧ k18_ps.toInt ≤ 200), (i_22 : PTI k18_pt)⟩ ih_18_23
    replace hl : lv_has ls 3 [(2, .int k18_2), (1, .int k6_1), (0, .ref b_o)] := hl
    refine g5_rs [(b_ro, (arI G 5740 v_ro)), (b_se, (arJ G 13 k18_se)), (b_re, (arJ G 400 k18_re)), (b_pt, (arI G 200 k18_pt)), (b_o, (oc12 u_th u_sa b_rf b_ro b_im b_ke u_fd b_tp u_td u_fr u_to u_so u_wo u_fa u_bd u_nc b_nl u_co b_op b_ar u_le b_pi b_pa u_pd u_od b_ws b_hw k18_la b_se b_re k18_bk k18_va k18_su k18_ce k18_ho k18_wy k18_bt k18_ps b_pt k18_tg k18_sn b_ip u_ic b_ah b_be b_me u_wd b_tr b_ld u_st b_wn u_id)), (b_ip, (arZ G 1536 k18_ip))] hP hD ?_
    clear hP hD
    intro hP hD
    refine lv_iload_n hx hb dX12_markAll_18 rfl (lv_at hl 0 rfl) ?_
    refine lv_bipush (v := 24) hx hb dX12_markAll_19 (by decide +kernel) ?_
    refine lv_icmp_ge (tgt := 51) hx hb dX12_markAll_21 (by decide +kernel) (fun c_24 => ?_) (fun c_24 => ?_)
    ·
      have i_24 : k18_2.toInt ≥ 24 := g5_ge (a := k18_2.toInt) (b := 24) rfl (by decide +kernel) c_24
      refine lv_iinc (v := (k6_1 + 1)) (lv' := [(1, .int (k6_1 + 1)), (2, .int k18_2), (0, .ref b_o)]) hx hb dX12_markAll_51 hl (k := 1) rfl rfl (by decide +kernel) rfl ?_
      clear hl
      intro ls hl
      have t_25 : (k6_1 + 1).toInt = k6_1.toInt + 1 := g5_iadd (a := k6_1.toInt) (b := 1) rfl (by decide +kernel) (by omega) (by omega)
      refine lv_goto (tgt := 6) hx hb dX12_markAll_54 (by decide +kernel) ?_
      exact ih_6_11 ((k6_1 + 1), k18_la, k18_bk, k18_va, k18_su, k18_ce, k18_ho, k18_wy, k18_bt, k18_ps, k18_tg, k18_sn, k18_se, k18_re, k18_pt, k18_ip) ls H locs (show Int.toNat (5 - (k6_1 + 1).toInt) < Int.toNat (5 - k6_1.toInt) from g_up (show k6_1.toInt < (k6_1 + 1).toInt by omega) (show k6_1.toInt < 5 by omega)) ⟨lv_sub hl [0, 2] rfl, hP, hD, hS, ⟨by omega, by omega⟩, i_15, i_16, i_17, i_18, i_19, i_20, i_21, i_22⟩
    ·
      have i_24 : k18_2.toInt < 24 := g5_geN (a := k18_2.toInt) (b := 24) rfl (by decide +kernel) c_24
      refine lv_aload_n hx hb dX12_markAll_24 rfl (lv_at hl 2 rfl) ?_
      refine lv_iload_n hx hb dX12_markAll_25 rfl (lv_at hl 1 rfl) ?_
      refine lv_iload_n hx hb dX12_markAll_26 rfl (lv_at hl 0 rfl) ?_
      obtain ⟨hPc, hDc, hFc⟩ := g5_sub3 (wc := [(b_o, (oc12 u_th u_sa b_rf b_ro b_im b_ke u_fd b_tp u_td u_fr u_to u_so u_wo u_fa u_bd u_nc b_nl u_co b_op b_ar u_le b_pi b_pa u_pd u_od b_ws b_hw k18_la b_se b_re k18_bk k18_va k18_su k18_ce k18_ho k18_wy k18_bt k18_ps b_pt k18_tg k18_sn b_ip u_ic b_ah b_be b_me u_wd b_tr b_ld u_st b_wn u_id)), (b_ro, (arI G 5740 v_ro))]) hP hD hS hA [4, 0] (by decide +kernel) rfl
      refine va_calli (va_runV (As := [.int k6_1, .int k18_2]) (rest := []) ⟨hx, hb, hml, hown, hts⟩ (n_whereIsX l G b_o b_ro b_rf b_im b_ke b_tp b_nl b_op b_ar b_pi b_pa b_ws b_hw b_se b_re b_pt b_ip b_ah b_be b_me b_tr b_ld b_wn H.size u_th u_sa u_fd u_td u_fr u_to u_so u_fa u_bd u_nc u_co u_le u_pd u_od k18_la k18_bk k18_ce k18_ho k18_wy k18_bt k18_ps k18_tg k18_sn u_ic u_wd u_id k6_1 k18_2 u_wo k18_va k18_su u_st v_ro h_u_td h_u_fr h_u_to h_u_bd h_u_nc h_u_co h_u_pd i_15 i_16 i_17 i_18 i_19 i_20 i_21 h_u_ic h_u_id ⟨by omega, by omega⟩ ⟨by omega, by omega⟩ (r_ro)) (cwV 2 hts gV_X12_187 rfl rfl rfl hv_X12_whereIs ⟨Nat.le_of_ble_eq_true rfl, Nat.le_of_ble_eq_true rfl⟩) (g5_preV hPc hK hDc hN hT hS hFc (ci := 12) (q0 := 0) rfl rfl) rfl rfl hl.1 rfl (lv_room (Nat.le_of_ble_eq_true rfl)) dX12_markAll_27 ⟨Nat.le_of_ble_eq_true rfl, Nat.le_of_ble_eq_true rfl⟩) hS (fun q _ h => hFc q h) hFc (fun r u t H locs ht hvm hw hB hz1 hk1 hS => ?_)
      obtain ⟨hP1, hD1⟩ := hB
      have hP1 := g5_ht ht hP1
      obtain ⟨z28, (i_26 : (-1) ≤ z28.toInt ∧ z28.toInt ≤ 63), (i_27 : z28.toInt = (v_ro ((110 + (24 * k6_1)) + k18_2).toNatClampNeg).toInt), y29, rfl⟩ := hw
      have hJ9 := va_join (wr := [(b_se, (arJ G 13 k18_se)), (b_re, (arJ G 400 k18_re)), (b_pt, (arI G 200 k18_pt)), (b_ip, (arZ G 1536 k18_ip))]) hP hD [4, 0] [1, 2, 3, 5] rfl rfl (by decide +kernel) (by decide +kernel) hk1 hFc hP1 hD1
      clear hP hD hPc hDc hFc ht hvm hz1 hk1 hP1 hD1
      obtain ⟨hP, hD⟩ := hJ9
      refine g5_rs [(b_se, (arJ G 13 k18_se)), (b_re, (arJ G 400 k18_re)), (b_pt, (arI G 200 k18_pt)), (b_ip, (arZ G 1536 k18_ip)), (b_o, (oc12 u_th u_sa b_rf b_ro b_im b_ke u_fd b_tp u_td u_fr u_to u_so u_wo u_fa u_bd u_nc b_nl u_co b_op b_ar u_le b_pi b_pa u_pd u_od b_ws b_hw k18_la b_se b_re k18_bk k18_va k18_su k18_ce k18_ho k18_wy k18_bt k18_ps b_pt k18_tg k18_sn b_ip u_ic b_ah b_be b_me u_wd b_tr b_ld u_st b_wn u_id)), (b_ro, (arI G 5740 v_ro))] hP hD ?_
      clear hP hD
      intro hP hD
      refine g5_ti (v := z28) y29 ?_
      refine W.eq (g2 := F0 m 30 ls [.int z28]) rfl ?_
      refine lv_iconst (v := (-1)) hx hb dX12_markAll_30 (by decide +kernel) ?_
      refine lv_icmp_eq (tgt := 45) hx hb dX12_markAll_31 (by decide +kernel) (fun c_30 => ?_) (fun c_30 => ?_)
      ·
        have i_30 : z28.toInt = (-1) := g5_eq (a := z28.toInt) (b := (-1)) rfl (by decide +kernel) c_30
        refine lv_iinc (v := (k18_2 + 1)) (lv' := [(2, .int (k18_2 + 1)), (1, .int k6_1), (0, .ref b_o)]) hx hb dX12_markAll_45 hl (k := 0) rfl rfl (by decide +kernel) rfl ?_
        clear hl
        intro ls hl
        have t_31 : (k18_2 + 1).toInt = k18_2.toInt + 1 := g5_iadd (a := k18_2.toInt) (b := 1) rfl (by decide +kernel) (by omega) (by omega)
        refine lv_goto (tgt := 18) hx hb dX12_markAll_48 (by decide +kernel) ?_
        exact ih_18_23 ((k18_2 + 1), k18_la, k18_bk, k18_va, k18_su, k18_ce, k18_ho, k18_wy, k18_bt, k18_ps, k18_tg, k18_sn, k18_se, k18_re, k18_pt, k18_ip) ls H locs (show Int.toNat (24 - (k18_2 + 1).toInt) < Int.toNat (24 - k18_2.toInt) from g_up (show k18_2.toInt < (k18_2 + 1).toInt by omega) (show k18_2.toInt < 24 by omega)) ⟨lv_sub hl [0, 1, 2] rfl, hP.sub [5, 0, 1, 2, 4, 3] rfl, hD.sub [5, 0, 1, 2, 4, 3] (by decide +kernel) rfl, hS, ⟨by omega, by omega⟩, i_15, i_16, i_17, i_18, i_19, i_20, i_21, i_22⟩
      ·
        have n_30 : gNe (z28.toInt) ((-1)) := g5_eqN (a := z28.toInt) (b := (-1)) rfl (by decide +kernel) c_30
        have i_30 : z28.toInt ≥ 0 := by have z := g5_eqN (a := z28.toInt) (b := (-1)) (by rfl) (by decide +kernel) c_30; omega
        refine lv_aload_n hx hb dX12_markAll_34 rfl (lv_at hl 2 rfl) ?_
        refine lv_aload_n hx hb dX12_markAll_35 rfl (lv_at hl 2 rfl) ?_
        refine lv_iload_n hx hb dX12_markAll_36 rfl (lv_at hl 1 rfl) ?_
        refine lv_iload_n hx hb dX12_markAll_37 rfl (lv_at hl 0 rfl) ?_
        refine W.eq (g2 := F0 m 38 ls [.int k18_2, .int k6_1, .ref b_o, .ref b_o]) rfl ?_
        obtain ⟨hPc, hDc, hFc⟩ := g5_sub3 (wc := [(b_o, (oc12 u_th u_sa b_rf b_ro b_im b_ke u_fd b_tp u_td u_fr u_to u_so u_wo u_fa u_bd u_nc b_nl u_co b_op b_ar u_le b_pi b_pa u_pd u_od b_ws b_hw k18_la b_se b_re k18_bk k18_va k18_su k18_ce k18_ho k18_wy k18_bt k18_ps b_pt k18_tg k18_sn b_ip u_ic b_ah b_be b_me u_wd b_tr b_ld u_st b_wn u_id)), (b_ro, (arI G 5740 v_ro))]) hP hD hS hA [4, 5] (by decide +kernel) rfl
        refine va_calli (va_runV (As := [.int k6_1, .int k18_2]) (rest := [.ref b_o]) ⟨hx, hb, hml, hown, hts⟩ (n_whereIsX l G b_o b_ro b_rf b_im b_ke b_tp b_nl b_op b_ar b_pi b_pa b_ws b_hw b_se b_re b_pt b_ip b_ah b_be b_me b_tr b_ld b_wn H.size u_th u_sa u_fd u_td u_fr u_to u_so u_fa u_bd u_nc u_co u_le u_pd u_od k18_la k18_bk k18_ce k18_ho k18_wy k18_bt k18_ps k18_tg k18_sn u_ic u_wd u_id k6_1 k18_2 u_wo k18_va k18_su u_st v_ro h_u_td h_u_fr h_u_to h_u_bd h_u_nc h_u_co h_u_pd i_15 i_16 i_17 i_18 i_19 i_20 i_21 h_u_ic h_u_id ⟨by omega, by omega⟩ ⟨by omega, by omega⟩ (r_ro)) (cwV 2 hts gV_X12_187 rfl rfl rfl hv_X12_whereIs ⟨Nat.le_of_ble_eq_true rfl, Nat.le_of_ble_eq_true rfl⟩) (g5_preV hPc hK hDc hN hT hS hFc (ci := 12) (q0 := 0) rfl rfl) rfl rfl hl.1 rfl (lv_room (Nat.le_of_ble_eq_true rfl)) dX12_markAll_38 ⟨Nat.le_of_ble_eq_true rfl, Nat.le_of_ble_eq_true rfl⟩) hS (fun q _ h => hFc q h) hFc (fun r u t H locs ht hvm hw hB hz1 hk1 hS => ?_)
        obtain ⟨hP1, hD1⟩ := hB
        have hP1 := g5_ht ht hP1
        obtain ⟨z34, (i_32 : (-1) ≤ z34.toInt ∧ z34.toInt ≤ 63), (i_33 : z34.toInt = (v_ro ((110 + (24 * k6_1)) + k18_2).toNatClampNeg).toInt), y35, rfl⟩ := hw
        have hJ9 := va_join (wr := [(b_se, (arJ G 13 k18_se)), (b_re, (arJ G 400 k18_re)), (b_pt, (arI G 200 k18_pt)), (b_ip, (arZ G 1536 k18_ip))]) hP hD [4, 5] [0, 1, 2, 3] rfl rfl (by decide +kernel) (by decide +kernel) hk1 hFc hP1 hD1
        clear hP hD hPc hDc hFc ht hvm hz1 hk1 hP1 hD1
        obtain ⟨hP, hD⟩ := hJ9
        refine g5_rs [(b_se, (arJ G 13 k18_se)), (b_re, (arJ G 400 k18_re)), (b_pt, (arI G 200 k18_pt)), (b_ip, (arZ G 1536 k18_ip)), (b_o, (oc12 u_th u_sa b_rf b_ro b_im b_ke u_fd b_tp u_td u_fr u_to u_so u_wo u_fa u_bd u_nc b_nl u_co b_op b_ar u_le b_pi b_pa u_pd u_od b_ws b_hw k18_la b_se b_re k18_bk k18_va k18_su k18_ce k18_ho k18_wy k18_bt k18_ps b_pt k18_tg k18_sn b_ip u_ic b_ah b_be b_me u_wd b_tr b_ld u_st b_wn u_id)), (b_ro, (arI G 5740 v_ro))] hP hD ?_
        clear hP hD
        intro hP hD
        refine g5_ti (v := z34) y35 ?_
        refine lv_iload_n hx hb dX12_markAll_41 rfl (lv_at hl 0 rfl) ?_
        obtain ⟨hPc, hDc, hFc⟩ := g5_sub3 (wc := [(b_o, (oc12 u_th u_sa b_rf b_ro b_im b_ke u_fd b_tp u_td u_fr u_to u_so u_wo u_fa u_bd u_nc b_nl u_co b_op b_ar u_le b_pi b_pa u_pd u_od b_ws b_hw k18_la b_se b_re k18_bk k18_va k18_su k18_ce k18_ho k18_wy k18_bt k18_ps b_pt k18_tg k18_sn b_ip u_ic b_ah b_be b_me u_wd b_tr b_ld u_st b_wn u_id)), (b_ro, (arI G 5740 v_ro)), (b_se, (arJ G 13 k18_se)), (b_re, (arJ G 400 k18_re)), (b_pt, (arI G 200 k18_pt)), (b_ip, (arZ G 1536 k18_ip))]) hP hD hS hA [4, 5, 0, 1, 2, 3] (by decide +kernel) rfl
        refine va_callv (va_runV (As := [.int z34, .int k18_2]) (rest := []) ⟨hx, hb, hml, hown, hts⟩ (n_mark l G b_o b_ro b_se b_re b_pt b_ip b_rf b_im b_ke b_tp b_nl b_op b_ar b_pi b_pa b_ws b_hw b_ah b_be b_me b_tr b_ld b_wn H.size u_th u_sa u_fd u_td u_fr u_to u_so u_fa u_bd u_nc u_co u_le u_pd u_od k18_la k18_bk k18_ce k18_ho k18_wy k18_bt k18_ps k18_tg k18_sn u_ic u_wd u_id z34 k18_2 u_wo k18_va k18_su u_st v_ro k18_se k18_re k18_pt k18_ip h_u_td h_u_fr h_u_to h_u_bd h_u_nc h_u_co h_u_pd i_15 i_16 i_17 i_18 i_19 i_20 i_21 h_u_ic h_u_id ⟨by omega, by omega⟩ ⟨by omega, by omega⟩ (r_ro) (i_22)) (cwV 2 hts gV_X12_416 rfl rfl rfl hv_X12_mark ⟨Nat.le_of_ble_eq_true rfl, Nat.le_of_ble_eq_true rfl⟩) (g5_preV hPc hK hDc hN hT hS hFc (ci := 12) (q0 := 0) rfl rfl) rfl rfl hl.1 rfl (lv_room (Nat.le_of_ble_eq_true rfl)) dX12_markAll_42 ⟨Nat.le_of_ble_eq_true rfl, Nat.le_of_ble_eq_true rfl⟩) hS (fun q _ h => hFc q h) hFc (fun u t H locs ht hvm hw hB hz1 hk1 hS => ?_)
        obtain ⟨hP1, hD1⟩ := hB
        have hP1 := g5_ht ht hP1
        obtain ⟨z44, z45, z46, z47, z48, z49, z50, z51, z52, z53, z54, z55, z56, z57, z58, (i_36 : 0 ≤ z44.toInt ∧ z44.toInt ≤ 4840), (i_37 : 0 ≤ z45.toInt ∧ z45.toInt ≤ 1), (i_38 : 0 ≤ z48.toInt ∧ z48.toInt ≤ 63), (i_39 : 0 ≤ z49.toInt ∧ z49.toInt ≤ 23), (i_40 : 0 ≤ z50.toInt ∧ z50.toInt ≤ 3), (i_41 : 0 ≤ z51.toInt ∧ z51.toInt ≤ 1000000), (i_42 : 0 ≤ z52.toInt ∧ z52.toInt ≤ 200), (i_43 : PTI z57), rfl⟩ := hw
        have hJ9 := va_join (wr := []) hP hD [4, 5, 0, 1, 2, 3] [] rfl rfl (by decide +kernel) (by decide +kernel) hk1 hFc hP1 hD1
        clear hP hD hPc hDc hFc ht hvm hz1 hk1 hP1 hD1
        obtain ⟨hP, hD⟩ := hJ9
        refine g5_rs [(b_o, (oc12 u_th u_sa b_rf b_ro b_im b_ke u_fd b_tp u_td u_fr u_to u_so u_wo u_fa u_bd u_nc b_nl u_co b_op b_ar u_le b_pi b_pa u_pd u_od b_ws b_hw z44 b_se b_re z45 z46 z47 z48 z49 z50 z51 z52 b_pt z53 z54 b_ip u_ic b_ah b_be b_me u_wd b_tr b_ld u_st b_wn u_id)), (b_ro, (arI G 5740 v_ro)), (b_se, (arJ G 13 z55)), (b_re, (arJ G 400 z56)), (b_pt, (arI G 200 z57)), (b_ip, (arZ G 1536 z58))] hP hD ?_
        clear hP hD
        intro hP hD
        refine lv_iinc (v := (k18_2 + 1)) (lv' := [(2, .int (k18_2 + 1)), (1, .int k6_1), (0, .ref b_o)]) hx hb dX12_markAll_45 hl (k := 0) rfl rfl (by decide +kernel) rfl ?_
        clear hl
        intro ls hl
        have t_59 : (k18_2 + 1).toInt = k18_2.toInt + 1 := g5_iadd (a := k18_2.toInt) (b := 1) rfl (by decide +kernel) (by omega) (by omega)
        refine lv_goto (tgt := 18) hx hb dX12_markAll_48 (by decide +kernel) ?_
        exact ih_18_23 ((k18_2 + 1), z44, z45, z46, z47, z48, z49, z50, z51, z52, z53, z54, z55, z56, z57, z58) ls H locs (show Int.toNat (24 - (k18_2 + 1).toInt) < Int.toNat (24 - k18_2.toInt) from g_up (show k18_2.toInt < (k18_2 + 1).toInt by omega) (show k18_2.toInt < 24 by omega)) ⟨lv_sub hl [0, 1, 2] rfl, hP.sub [1, 2, 3, 4, 0, 5] rfl, hD.sub [1, 2, 3, 4, 0, 5] (by decide +kernel) rfl, hS, ⟨by omega, by omega⟩, i_36, i_37, i_38, i_39, i_40, i_41, i_42, i_43⟩
theorem dgX12_unseen_0 : ∀ r ∈ ([(0, (.aload_n 0, 1)), (1, (.iconst 0, 1)), (2, (.putfield 107, 3)), (5, (.iload_n 1, 1)), (6, (.invokestatic 138, 3)), (9, (.ifCond .ne 5, 3)), (12, (.iconst (-1), 1)), (13, (.ireturn, 1)), (14, (.aload_n 0, 1)), (15, (.invokevirtual 419, 3)), (18, (.iconst 0, 1)), (19, (.istore_n 2, 1)), (20, (.iconst 0, 1)), (21, (.istore_n 3, 1)), (22, (.iload_n 3, 1)), (23, (.bipush 24, 2)), (25, (.if_icmp .ge 31, 3)), (28, (.iload_n 2, 1)), (29, (.aload_n 0, 1)), (30, (.getfield 85, 3)), (33, (.bipush 64, 2)), (35, (.iload_n 3, 1)), (36, (.imul, 1)), (37, (.iload_n 1, 1)), (38, (.iadd, 1)), (39, (.baload, 1)), (40, (.ifCond .eq 7, 3)), (43, (.iconst 0, 1)), (44, (.goto 4, 3)), (47, (.iconst 1, 1)), (48, (.iadd, 1)), (49, (.istore_n 2, 1)), (50, (.iinc 3 1, 3)), (53, (.goto (-31), 3)), (56, (.iload_n 2, 1)), (57, (.ireturn, 1))] : List (Nat × (Instr × Nat))), decode cX12_unseen r.1 = .ok r.2 := by decide +kernel
theorem dX12_unseen_0 : decode cX12_unseen 0 = .ok (.aload_n 0, 1) := dgX12_unseen_0 (0, (.aload_n 0, 1)) (List.mem_of_getElem? (i := 0) rfl)
theorem dX12_unseen_1 : decode cX12_unseen 1 = .ok (.iconst 0, 1) := dgX12_unseen_0 (1, (.iconst 0, 1)) (List.mem_of_getElem? (i := 1) rfl)
theorem dX12_unseen_2 : decode cX12_unseen 2 = .ok (.putfield 107, 3) := dgX12_unseen_0 (2, (.putfield 107, 3)) (List.mem_of_getElem? (i := 2) rfl)
theorem dX12_unseen_5 : decode cX12_unseen 5 = .ok (.iload_n 1, 1) := dgX12_unseen_0 (5, (.iload_n 1, 1)) (List.mem_of_getElem? (i := 3) rfl)
theorem dX12_unseen_6 : decode cX12_unseen 6 = .ok (.invokestatic 138, 3) := dgX12_unseen_0 (6, (.invokestatic 138, 3)) (List.mem_of_getElem? (i := 4) rfl)
theorem dX12_unseen_9 : decode cX12_unseen 9 = .ok (.ifCond .ne 5, 3) := dgX12_unseen_0 (9, (.ifCond .ne 5, 3)) (List.mem_of_getElem? (i := 5) rfl)
theorem dX12_unseen_12 : decode cX12_unseen 12 = .ok (.iconst (-1), 1) := dgX12_unseen_0 (12, (.iconst (-1), 1)) (List.mem_of_getElem? (i := 6) rfl)
theorem dX12_unseen_13 : decode cX12_unseen 13 = .ok (.ireturn, 1) := dgX12_unseen_0 (13, (.ireturn, 1)) (List.mem_of_getElem? (i := 7) rfl)
theorem dX12_unseen_14 : decode cX12_unseen 14 = .ok (.aload_n 0, 1) := dgX12_unseen_0 (14, (.aload_n 0, 1)) (List.mem_of_getElem? (i := 8) rfl)
theorem dX12_unseen_15 : decode cX12_unseen 15 = .ok (.invokevirtual 419, 3) := dgX12_unseen_0 (15, (.invokevirtual 419, 3)) (List.mem_of_getElem? (i := 9) rfl)
theorem dX12_unseen_18 : decode cX12_unseen 18 = .ok (.iconst 0, 1) := dgX12_unseen_0 (18, (.iconst 0, 1)) (List.mem_of_getElem? (i := 10) rfl)
theorem dX12_unseen_19 : decode cX12_unseen 19 = .ok (.istore_n 2, 1) := dgX12_unseen_0 (19, (.istore_n 2, 1)) (List.mem_of_getElem? (i := 11) rfl)
theorem dX12_unseen_20 : decode cX12_unseen 20 = .ok (.iconst 0, 1) := dgX12_unseen_0 (20, (.iconst 0, 1)) (List.mem_of_getElem? (i := 12) rfl)
theorem dX12_unseen_21 : decode cX12_unseen 21 = .ok (.istore_n 3, 1) := dgX12_unseen_0 (21, (.istore_n 3, 1)) (List.mem_of_getElem? (i := 13) rfl)
theorem dX12_unseen_22 : decode cX12_unseen 22 = .ok (.iload_n 3, 1) := dgX12_unseen_0 (22, (.iload_n 3, 1)) (List.mem_of_getElem? (i := 14) rfl)
theorem dX12_unseen_23 : decode cX12_unseen 23 = .ok (.bipush 24, 2) := dgX12_unseen_0 (23, (.bipush 24, 2)) (List.mem_of_getElem? (i := 15) rfl)
theorem dX12_unseen_25 : decode cX12_unseen 25 = .ok (.if_icmp .ge 31, 3) := dgX12_unseen_0 (25, (.if_icmp .ge 31, 3)) (List.mem_of_getElem? (i := 16) rfl)
theorem dX12_unseen_28 : decode cX12_unseen 28 = .ok (.iload_n 2, 1) := dgX12_unseen_0 (28, (.iload_n 2, 1)) (List.mem_of_getElem? (i := 17) rfl)
theorem dX12_unseen_29 : decode cX12_unseen 29 = .ok (.aload_n 0, 1) := dgX12_unseen_0 (29, (.aload_n 0, 1)) (List.mem_of_getElem? (i := 18) rfl)
theorem dX12_unseen_30 : decode cX12_unseen 30 = .ok (.getfield 85, 3) := dgX12_unseen_0 (30, (.getfield 85, 3)) (List.mem_of_getElem? (i := 19) rfl)
theorem dX12_unseen_33 : decode cX12_unseen 33 = .ok (.bipush 64, 2) := dgX12_unseen_0 (33, (.bipush 64, 2)) (List.mem_of_getElem? (i := 20) rfl)
theorem dX12_unseen_35 : decode cX12_unseen 35 = .ok (.iload_n 3, 1) := dgX12_unseen_0 (35, (.iload_n 3, 1)) (List.mem_of_getElem? (i := 21) rfl)
theorem dX12_unseen_36 : decode cX12_unseen 36 = .ok (.imul, 1) := dgX12_unseen_0 (36, (.imul, 1)) (List.mem_of_getElem? (i := 22) rfl)
theorem dX12_unseen_37 : decode cX12_unseen 37 = .ok (.iload_n 1, 1) := dgX12_unseen_0 (37, (.iload_n 1, 1)) (List.mem_of_getElem? (i := 23) rfl)
theorem dX12_unseen_38 : decode cX12_unseen 38 = .ok (.iadd, 1) := dgX12_unseen_0 (38, (.iadd, 1)) (List.mem_of_getElem? (i := 24) rfl)
theorem dX12_unseen_39 : decode cX12_unseen 39 = .ok (.baload, 1) := dgX12_unseen_0 (39, (.baload, 1)) (List.mem_of_getElem? (i := 25) rfl)
theorem dX12_unseen_40 : decode cX12_unseen 40 = .ok (.ifCond .eq 7, 3) := dgX12_unseen_0 (40, (.ifCond .eq 7, 3)) (List.mem_of_getElem? (i := 26) rfl)
theorem dX12_unseen_43 : decode cX12_unseen 43 = .ok (.iconst 0, 1) := dgX12_unseen_0 (43, (.iconst 0, 1)) (List.mem_of_getElem? (i := 27) rfl)
theorem dX12_unseen_44 : decode cX12_unseen 44 = .ok (.goto 4, 3) := dgX12_unseen_0 (44, (.goto 4, 3)) (List.mem_of_getElem? (i := 28) rfl)
theorem dX12_unseen_47 : decode cX12_unseen 47 = .ok (.iconst 1, 1) := dgX12_unseen_0 (47, (.iconst 1, 1)) (List.mem_of_getElem? (i := 29) rfl)
theorem dX12_unseen_48 : decode cX12_unseen 48 = .ok (.iadd, 1) := dgX12_unseen_0 (48, (.iadd, 1)) (List.mem_of_getElem? (i := 30) rfl)
theorem dX12_unseen_49 : decode cX12_unseen 49 = .ok (.istore_n 2, 1) := dgX12_unseen_0 (49, (.istore_n 2, 1)) (List.mem_of_getElem? (i := 31) rfl)
theorem dX12_unseen_50 : decode cX12_unseen 50 = .ok (.iinc 3 1, 3) := dgX12_unseen_0 (50, (.iinc 3 1, 3)) (List.mem_of_getElem? (i := 32) rfl)
theorem dX12_unseen_53 : decode cX12_unseen 53 = .ok (.goto (-31), 3) := dgX12_unseen_0 (53, (.goto (-31), 3)) (List.mem_of_getElem? (i := 33) rfl)
theorem dX12_unseen_56 : decode cX12_unseen 56 = .ok (.iload_n 2, 1) := dgX12_unseen_0 (56, (.iload_n 2, 1)) (List.mem_of_getElem? (i := 34) rfl)
theorem dX12_unseen_57 : decode cX12_unseen 57 = .ok (.ireturn, 1) := dgX12_unseen_0 (57, (.ireturn, 1)) (List.mem_of_getElem? (i := 35) rfl)
theorem ml_X12_419 : Cond.methodLink RX12 419 yX12_markAll ∈ tblG := tg 1692 (by decide +kernel) (by decide +kernel)
theorem im_X12_markAll : Cond.instanceMethod yX12_markAll ∈ tblG := tg 1694 (by decide +kernel) (by decide +kernel)
theorem se_X12_markAll : Cond.selects RX12 yX12_markAll yX12_markAll ∈ tblG := tg 74 (by decide +kernel) (by decide +kernel)
theorem cd_X12_markAll : Cond.code yX12_markAll cX12_markAll 3 none ∈ tblG := tg 1695 (by decide +kernel) (by decide +kernel)
theorem gW_X12_markAll : GoodIn tblG (wsG yX12_markAll cX12_markAll 3 none) := tgi cd_X12_markAll
theorem gV_X12_419 : GoodIn tblG (wsV RX12 419 RX12 yX12_markAll (wsG yX12_markAll cX12_markAll 3 none)) := tgV ml_X12_419 im_X12_markAll se_X12_markAll ini_X12 gW_X12_markAll
theorem hv_X12_markAll : yX12_markAll.cls = RX12 ∧ yX12_markAll.cls ≠ "java/lang/invoke/MethodHandle" ∧ yX12_markAll.cls ≠ "java/lang/invoke/VarHandle" ∧ (parseMethodDescriptor yX12_markAll.desc).map (fun d => d.parameters.length) = some 0 := by decide +kernel
set_option maxHeartbeats 4000000 in
set_option maxRecDepth 100000 in
theorem n_unseen (l : Launch) (G : g5_G) (b_o b_ro b_se b_re b_pt b_ip b_rf b_im b_ke b_tp b_nl b_op b_ar b_pi b_pa b_ws b_hw b_ah b_be b_me b_tr b_ld b_wn : Nat) (sz : Nat) (u_th : Int32) (u_sa : Int32) (u_fd : Int32) (u_td : Int32) (u_fr : Int32) (u_to : Int32) (u_so : Int32) (u_fa : Int32) (u_bd : Int32) (u_nc : Int32) (u_co : Int32) (u_le : Int32) (u_pd : Int32) (u_od : Int32) (u_la : Int32) (u_bk : Int32) (u_ce : Int32) (u_ho : Int32) (u_wy : Int32) (u_bt : Int32) (u_ps : Int32) (u_tg : Int32) (u_sn : Int32) (u_ic : Int32) (u_wd : Int32) (u_id : Int32) (p_1 : Int32) (u_wo : Int64) (u_va : Int64) (u_su : Int64) (u_st : Int64) (v_ro : Nat → Int32) (v_se : Nat → Int64) (v_re : Nat → Int64) (v_pt : Nat → Int32) (v_ip : Nat → Int32) (h_u_td : 0 ≤ u_td.toInt ∧ u_td.toInt ≤ 400) (h_u_fr : 0 ≤ u_fr.toInt ∧ u_fr.toInt ≤ 400) (h_u_to : 0 ≤ u_to.toInt ∧ u_to.toInt ≤ 400) (h_u_bd : 0 ≤ u_bd.toInt ∧ u_bd.toInt ≤ 1) (h_u_nc : 0 ≤ u_nc.toInt ∧ u_nc.toInt ≤ 12) (h_u_co : 0 ≤ u_co.toInt ∧ u_co.toInt ≤ 400) (h_u_pd : 0 ≤ u_pd.toInt ∧ u_pd.toInt ≤ 400) (h_u_la : 0 ≤ u_la.toInt ∧ u_la.toInt ≤ 4840) (h_u_bk : 0 ≤ u_bk.toInt ∧ u_bk.toInt ≤ 1) (h_u_ce : 0 ≤ u_ce.toInt ∧ u_ce.toInt ≤ 63) (h_u_ho : 0 ≤ u_ho.toInt ∧ u_ho.toInt ≤ 23) (h_u_wy : 0 ≤ u_wy.toInt ∧ u_wy.toInt ≤ 3) (h_u_bt : 0 ≤ u_bt.toInt ∧ u_bt.toInt ≤ 1000000) (h_u_ps : 0 ≤ u_ps.toInt ∧ u_ps.toInt ≤ 200) (h_u_ic : 0 ≤ u_ic.toInt ∧ u_ic.toInt ≤ 1) (h_u_id : 0 ≤ u_id.toInt ∧ u_id.toInt ≤ 1) (r_ro : MI v_ro) (r_pt : PTI v_pt) : Met l yX12_unseen (wsG yX12_unseen cX12_unseen 4 (some .int)) ({ frames := 9, cells := 0, slots := 0, locals := 222 }) (va_Pc [.ref b_o, .int p_1] (g5_P G [(b_o, (oc12 u_th u_sa b_rf b_ro b_im b_ke u_fd b_tp u_td u_fr u_to u_so u_wo u_fa u_bd u_nc b_nl u_co b_op b_ar u_le b_pi b_pa u_pd u_od b_ws b_hw u_la b_se b_re u_bk u_va u_su u_ce u_ho u_wy u_bt u_ps b_pt u_tg u_sn b_ip u_ic b_ah b_be b_me u_wd b_tr b_ld u_st b_wn u_id)), (b_ro, (arI G 5740 v_ro)), (b_se, (arJ G 13 v_se)), (b_re, (arJ G 400 v_re)), (b_pt, (arI G 200 v_pt)), (b_ip, (arZ G 1536 v_ip))] sz)) (va_Qi (fun (r : Int32) (u : va_W) => (∃ (o_r : Int32) (o_th : Int32) (o_la : Int32) (o_bk : Int32) (o_va : Int64) (o_su : Int64) (o_ce : Int32) (o_ho : Int32) (o_wy : Int32) (o_bt : Int32) (o_ps : Int32) (o_tg : Int32) (o_sn : Int32) (o_se : Nat → Int64) (o_re : Nat → Int64) (o_pt : Nat → Int32) (o_ip : Nat → Int32), (0 ≤ o_la.toInt ∧ o_la.toInt ≤ 4840) ∧ (0 ≤ o_bk.toInt ∧ o_bk.toInt ≤ 1) ∧ (0 ≤ o_ce.toInt ∧ o_ce.toInt ≤ 63) ∧ (0 ≤ o_ho.toInt ∧ o_ho.toInt ≤ 23) ∧ (0 ≤ o_wy.toInt ∧ o_wy.toInt ≤ 3) ∧ (0 ≤ o_bt.toInt ∧ o_bt.toInt ≤ 1000000) ∧ (0 ≤ o_ps.toInt ∧ o_ps.toInt ≤ 200) ∧ (PTI o_pt) ∧ (r = o_r) ∧ (u = [(b_o, (oc12 o_th u_sa b_rf b_ro b_im b_ke u_fd b_tp u_td u_fr u_to u_so u_wo u_fa u_bd u_nc b_nl u_co b_op b_ar u_le b_pi b_pa u_pd u_od b_ws b_hw o_la b_se b_re o_bk o_va o_su o_ce o_ho o_wy o_bt o_ps b_pt o_tg o_sn b_ip u_ic b_ah b_be b_me u_wd b_tr b_ld u_st b_wn u_id)), (b_ro, (arI G 5740 v_ro)), (b_se, (arJ G 13 o_se)), (b_re, (arJ G 400 o_re)), (b_pt, (arI G 200 o_pt)), (b_ip, (arZ G 1536 o_ip))]))) (g5_B G (va_A [(b_o, (oc12 u_th u_sa b_rf b_ro b_im b_ke u_fd b_tp u_td u_fr u_to u_so u_wo u_fa u_bd u_nc b_nl u_co b_op b_ar u_le b_pi b_pa u_pd u_od b_ws b_hw u_la b_se b_re u_bk u_va u_su u_ce u_ho u_wy u_bt u_ps b_pt u_tg u_sn b_ip u_ic b_ah b_be b_me u_wd b_tr b_ld u_st b_wn u_id)), (b_ro, (arI G 5740 v_ro)), (b_se, (arJ G 13 v_se)), (b_re, (arJ G 400 v_re)), (b_pt, (arI G 200 v_pt)), (b_ip, (arZ G 1536 v_ip))] sz)) (va_A [(b_o, (oc12 u_th u_sa b_rf b_ro b_im b_ke u_fd b_tp u_td u_fr u_to u_so u_wo u_fa u_bd u_nc b_nl u_co b_op b_ar u_le b_pi b_pa u_pd u_od b_ws b_hw u_la b_se b_re u_bk u_va u_su u_ce u_ho u_wy u_bt u_ps b_pt u_tg u_sn b_ip u_ic b_ah b_be b_me u_wd b_tr b_ld u_st b_wn u_id)), (b_ro, (arI G 5740 v_ro)), (b_se, (arJ G 13 v_se)), (b_re, (arJ G 400 v_re)), (b_pt, (arI G 200 v_pt)), (b_ip, (arZ G 1536 v_ip))] sz)) 0 0 (va_A [(b_o, (oc12 u_th u_sa b_rf b_ro b_im b_ke u_fd b_tp u_td u_fr u_to u_so u_wo u_fa u_bd u_nc b_nl u_co b_op b_ar u_le b_pi b_pa u_pd u_od b_ws b_hw u_la b_se b_re u_bk u_va u_su u_ce u_ho u_wy u_bt u_ps b_pt u_tg u_sn b_ip u_ic b_ah b_be b_me u_wd b_tr b_ld u_st b_wn u_id)), (b_ro, (arI G 5740 v_ro)), (b_se, (arJ G 13 v_se)), (b_re, (arJ G 400 v_re)), (b_pt, (arI G 200 v_pt)), (b_ip, (arZ G 1536 v_ip))] sz) := by
  refine Met.ofW (cc := cX12_unseen) (maxL := 4) (ret := (some .int)) (by decide +kernel) rfl ?_
  intro p e s m args below meth c s₁ B hml hv
  obtain ⟨rfl, hsz, hP, hK, hD0, hN, hT⟩ := hv
  have hx := B.exec
  have hb := B.bytes
  have hr := B.returns
  have hts : ∀ w ∈ tblG, w.before _ s = true := fun w h => atoms_spec (ws := (wsG yX12_unseen cX12_unseen 4 (some .int))) B.pre w (List.mem_cons_of_mem _ h)
  have hown : s.vm.findClass RX12 = some m.cls := findClass_of_methodNamed B.named
  have hlocks := B.notSynchronized
  subst hsz
  have hD := hD0.self (sz := s.heap.size)
  generalize hAe : va_A [(b_o, (oc12 u_th u_sa b_rf b_ro b_im b_ke u_fd b_tp u_td u_fr u_to u_so u_wo u_fa u_bd u_nc b_nl u_co b_op b_ar u_le b_pi b_pa u_pd u_od b_ws b_hw u_la b_se b_re u_bk u_va u_su u_ce u_ho u_wy u_bt u_ps b_pt u_tg u_sn b_ip u_ic b_ah b_be b_me u_wd b_tr b_ld u_st b_wn u_id)), (b_ro, (arI G 5740 v_ro)), (b_se, (arJ G 13 v_se)), (b_re, (arJ G 400 v_re)), (b_pt, (arI G 200 v_pt)), (b_ip, (arZ G 1536 v_ip))] s.heap.size = A at hD hT ⊢
  have hA : ∀ q : Nat, s.heap.size ≤ q → A q := fun q h => by rw [← hAe]; exact Or.inr h
  have hS : va_S A s.heap s.heap [] := va_S.rf
  replace hP : va_P G.1 vwCl [(b_o, (oc12 u_th u_sa b_rf b_ro b_im b_ke u_fd b_tp u_td u_fr u_to u_so u_wo u_fa u_bd u_nc b_nl u_co b_op b_ar u_le b_pi b_pa u_pd u_od b_ws b_hw u_la b_se b_re u_bk u_va u_su u_ce u_ho u_wy u_bt u_ps b_pt u_tg u_sn b_ip u_ic b_ah b_be b_me u_wd b_tr b_ld u_st b_wn u_id)), (b_ro, (arI G 5740 v_ro)), (b_se, (arJ G 13 v_se)), (b_re, (arJ G 400 v_re)), (b_pt, (arI G 200 v_pt)), (b_ip, (arZ G 1536 v_ip))] s.heap := hP
  have hl := lv_entry ([.ref b_o, .int p_1]) (n := 4) (Nat.le_of_ble_eq_true rfl)
  rw [lg_entry_eq]
  generalize (lg_sl ([.ref b_o, .int p_1]) ++ List.replicate (4 - (lg_sl ([.ref b_o, .int p_1])).length) Slot.unset).toArray = ls at hl ⊢
  replace hl : lv_has ls 4 [(0, .ref b_o), (1, .int p_1)] := hl
  refine lv_aload_n hx hb dX12_unseen_0 rfl (lv_at hl 0 rfl) ?_
  refine lv_iconst (v := 0) hx hb dX12_unseen_1 (by decide +kernel) ?_
  refine va_put (D := G.1) (ci := 12) (v := .int 0) (ty := .int) (C := RX12) (T := TX12) (N := 52) hx hb hts inG_X12 tyX12 tyX12_ok nmX12 hown hK hP hD hS 0 rfl rfl 0 (by decide +kernel) (hts _ fl_X12_107) (fun _ h9 => h9) rfl (by decide +kernel) rfl rfl (Nat.le_of_ble_eq_true rfl) dX12_unseen_2 ?_
  clear hP hD hS
  intro H locs hP hD hS
  refine g5_rs [(b_o, (oc12 0 u_sa b_rf b_ro b_im b_ke u_fd b_tp u_td u_fr u_to u_so u_wo u_fa u_bd u_nc b_nl u_co b_op b_ar u_le b_pi b_pa u_pd u_od b_ws b_hw u_la b_se b_re u_bk u_va u_su u_ce u_ho u_wy u_bt u_ps b_pt u_tg u_sn b_ip u_ic b_ah b_be b_me u_wd b_tr b_ld u_st b_wn u_id)), (b_ro, (arI G 5740 v_ro)), (b_se, (arJ G 13 v_se)), (b_re, (arJ G 400 v_re)), (b_pt, (arI G 200 v_pt)), (b_ip, (arZ G 1536 v_ip))] hP hD ?_
  clear hP hD
  intro hP hD
  refine lv_iload_n hx hb dX12_unseen_5 rfl (lv_at hl 1 rfl) ?_
  refine W.eq (g2 := F0 m 6 ls [.int p_1]) rfl ?_
  obtain ⟨hPc, hDc, hFc⟩ := g5_sub3 (wc := []) hP hD hS hA [] (by decide +kernel) rfl
  refine va_calli (va_runS (As := [.int p_1]) (rest := []) ⟨hx, hb, hml, hown, hts⟩ (n_isCell l G H.size p_1) (va_cwS 1 hts gS_X12_138 rfl rfl rfl hs_X12_isCell ⟨Nat.le_of_ble_eq_true rfl, Nat.le_of_ble_eq_true rfl⟩) (g5_preS hPc hK hDc hN hT hS hFc) rfl rfl hl.1 rfl (lv_room (Nat.le_of_ble_eq_true rfl)) dX12_unseen_6 ⟨Nat.le_of_ble_eq_true rfl, Nat.le_of_ble_eq_true rfl⟩) hS (fun q _ h => hFc q h) hFc (fun r u t H locs ht hvm hw hB hz1 hk1 hS => ?_)
  obtain ⟨hP1, hD1⟩ := hB
  have hP1 := g5_ht ht hP1
  rcases hw with ⟨(i_1 : 0 ≤ p_1.toInt ∧ p_1.toInt ≤ 63), rfl, rfl⟩ | ⟨rfl, rfl⟩
  ·
    have hJ9 := g5_same hP hk1
    clear hP hPc hDc hFc ht hvm hz1 hk1 hP1 hD1
    have hP := hJ9
    clear hJ9
    refine lv_if_ne (tgt := 14) hx hb dX12_unseen_9 (by decide +kernel) (fun c_2 => ?_) (fun c_2 => ?_)
    ·
      refine lv_aload_n hx hb dX12_unseen_14 rfl (lv_at hl 0 rfl) ?_
      obtain ⟨hPc, hDc, hFc⟩ := g5_sub3 (wc := [(b_o, (oc12 0 u_sa b_rf b_ro b_im b_ke u_fd b_tp u_td u_fr u_to u_so u_wo u_fa u_bd u_nc b_nl u_co b_op b_ar u_le b_pi b_pa u_pd u_od b_ws b_hw u_la b_se b_re u_bk u_va u_su u_ce u_ho u_wy u_bt u_ps b_pt u_tg u_sn b_ip u_ic b_ah b_be b_me u_wd b_tr b_ld u_st b_wn u_id)), (b_ro, (arI G 5740 v_ro)), (b_se, (arJ G 13 v_se)), (b_re, (arJ G 400 v_re)), (b_pt, (arI G 200 v_pt)), (b_ip, (arZ G 1536 v_ip))]) hP hD hS hA [0, 1, 2, 3, 4, 5] (by decide +kernel) rfl
      refine va_callv (va_runV (As := []) (rest := []) ⟨hx, hb, hml, hown, hts⟩ (n_markAll l G b_o b_ro b_se b_re b_pt b_ip b_rf b_im b_ke b_tp b_nl b_op b_ar b_pi b_pa b_ws b_hw b_ah b_be b_me b_tr b_ld b_wn H.size 0 u_sa u_fd u_td u_fr u_to u_so u_fa u_bd u_nc u_co u_le u_pd u_od u_la u_bk u_ce u_ho u_wy u_bt u_ps u_tg u_sn u_ic u_wd u_id u_wo u_va u_su u_st v_ro v_se v_re v_pt v_ip h_u_td h_u_fr h_u_to h_u_bd h_u_nc h_u_co h_u_pd h_u_la h_u_bk h_u_ce h_u_ho h_u_wy h_u_bt h_u_ps h_u_ic h_u_id (r_ro) (r_pt)) (cwV 0 hts gV_X12_419 rfl rfl rfl hv_X12_markAll ⟨Nat.le_of_ble_eq_true rfl, Nat.le_of_ble_eq_true rfl⟩) (g5_preV hPc hK hDc hN hT hS hFc (ci := 12) (q0 := 0) rfl rfl) rfl rfl hl.1 rfl (lv_room (Nat.le_of_ble_eq_true rfl)) dX12_unseen_15 ⟨Nat.le_of_ble_eq_true rfl, Nat.le_of_ble_eq_true rfl⟩) hS (fun q _ h => hFc q h) hFc (fun u t H locs ht hvm hw hB hz1 hk1 hS => ?_)
      obtain ⟨hP1, hD1⟩ := hB
      have hP1 := g5_ht ht hP1
      obtain ⟨z11, z12, z13, z14, z15, z16, z17, z18, z19, z20, z21, z22, z23, z24, z25, (i_3 : 0 ≤ z11.toInt ∧ z11.toInt ≤ 4840), (i_4 : 0 ≤ z12.toInt ∧ z12.toInt ≤ 1), (i_5 : 0 ≤ z15.toInt ∧ z15.toInt ≤ 63), (i_6 : 0 ≤ z16.toInt ∧ z16.toInt ≤ 23), (i_7 : 0 ≤ z17.toInt ∧ z17.toInt ≤ 3), (i_8 : 0 ≤ z18.toInt ∧ z18.toInt ≤ 1000000), (i_9 : 0 ≤ z19.toInt ∧ z19.toInt ≤ 200), (i_10 : PTI z24), rfl⟩ := hw
      have hJ9 := va_join (wr := []) hP hD [0, 1, 2, 3, 4, 5] [] rfl rfl (by decide +kernel) (by decide +kernel) hk1 hFc hP1 hD1
      clear hP hD hPc hDc hFc ht hvm hz1 hk1 hP1 hD1
      obtain ⟨hP, hD⟩ := hJ9
      refine g5_rs [(b_o, (oc12 0 u_sa b_rf b_ro b_im b_ke u_fd b_tp u_td u_fr u_to u_so u_wo u_fa u_bd u_nc b_nl u_co b_op b_ar u_le b_pi b_pa u_pd u_od b_ws b_hw z11 b_se b_re z12 z13 z14 z15 z16 z17 z18 z19 b_pt z20 z21 b_ip u_ic b_ah b_be b_me u_wd b_tr b_ld u_st b_wn u_id)), (b_ro, (arI G 5740 v_ro)), (b_se, (arJ G 13 z22)), (b_re, (arJ G 400 z23)), (b_pt, (arI G 200 z24)), (b_ip, (arZ G 1536 z25))] hP hD ?_
      clear hP hD
      intro hP hD
      refine lv_iconst (v := 0) hx hb dX12_unseen_18 (by decide +kernel) ?_
      refine lv_istore_n (lv' := [(2, .int 0), (0, .ref b_o), (1, .int p_1)]) hx hb dX12_unseen_19 rfl hl (by decide +kernel) rfl ?_
      clear hl
      intro ls hl
      refine W.eq (g2 := F0 m 20 ls []) rfl ?_
      refine lv_iconst (v := 0) hx hb dX12_unseen_20 (by decide +kernel) ?_
      refine lv_istore_n (lv' := [(3, .int 0), (2, .int 0), (0, .ref b_o), (1, .int p_1)]) hx hb dX12_unseen_21 rfl hl (by decide +kernel) rfl ?_
      clear hl
      intro ls hl
      refine g5_loop (α := (Int32) × (Int32)) (fun (q : (Int32) × (Int32)) (ls : Array Slot) (H : Heap) (locs : List Loc) => match q with | (k22_3, k22_2) => lv_has ls 4 [(2, .int k22_2), (3, .int k22_3), (0, .ref b_o), (1, .int p_1)] ∧ va_P G.1 vwCl [(b_o, (oc12 0 u_sa b_rf b_ro b_im b_ke u_fd b_tp u_td u_fr u_to u_so u_wo u_fa u_bd u_nc b_nl u_co b_op b_ar u_le b_pi b_pa u_pd u_od b_ws b_hw z11 b_se b_re z12 z13 z14 z15 z16 z17 z18 z19 b_pt z20 z21 b_ip u_ic b_ah b_be b_me u_wd b_tr b_ld u_st b_wn u_id)), (b_ro, (arI G 5740 v_ro)), (b_se, (arJ G 13 z22)), (b_re, (arJ G 400 z23)), (b_pt, (arI G 200 z24)), (b_ip, (arZ G 1536 z25))] H ∧ va_D A [(b_o, (oc12 0 u_sa b_rf b_ro b_im b_ke u_fd b_tp u_td u_fr u_to u_so u_wo u_fa u_bd u_nc b_nl u_co b_op b_ar u_le b_pi b_pa u_pd u_od b_ws b_hw z11 b_se b_re z12 z13 z14 z15 z16 z17 z18 z19 b_pt z20 z21 b_ip u_ic b_ah b_be b_me u_wd b_tr b_ld u_st b_wn u_id)), (b_ro, (arI G 5740 v_ro)), (b_se, (arJ G 13 z22)), (b_re, (arJ G 400 z23)), (b_pt, (arI G 200 z24)), (b_ip, (arZ G 1536 z25))] ∧ va_S A s.heap H locs ∧ (0 ≤ k22_3.toInt ∧ k22_3.toInt ≤ 24)) (fun (q : (Int32) × (Int32)) => match q with | (k22_3, k22_2) => Int.toNat (24 - k22_3.toInt)) (0, 0) ⟨lv_sub hl [1, 0, 2, 3] rfl, hP, hD, hS, ⟨by decide, by decide⟩⟩ ?_
      rintro ⟨k22_3, k22_2⟩ ls H locs ⟨hl, hP, hD, hS, (i_26 : 0 ≤ k22_3.toInt ∧ k22_3.toInt ≤ 24)⟩ ih_22_27
      replace hl : lv_has ls 4 [(2, .int k22_2), (3, .int k22_3), (0, .ref b_o), (1, .int p_1)] := hl
      refine g5_rs [(b_o, (oc12 0 u_sa b_rf b_ro b_im b_ke u_fd b_tp u_td u_fr u_to u_so u_wo u_fa u_bd u_nc b_nl u_co b_op b_ar u_le b_pi b_pa u_pd u_od b_ws b_hw z11 b_se b_re z12 z13 z14 z15 z16 z17 z18 z19 b_pt z20 z21 b_ip u_ic b_ah b_be b_me u_wd b_tr b_ld u_st b_wn u_id)), (b_ro, (arI G 5740 v_ro)), (b_se, (arJ G 13 z22)), (b_re, (arJ G 400 z23)), (b_pt, (arI G 200 z24)), (b_ip, (arZ G 1536 z25))] hP hD ?_
      clear hP hD
      intro hP hD
      refine lv_iload_n hx hb dX12_unseen_22 rfl (lv_at hl 1 rfl) ?_
      refine lv_bipush (v := 24) hx hb dX12_unseen_23 (by decide +kernel) ?_
      refine lv_icmp_ge (tgt := 56) hx hb dX12_unseen_25 (by decide +kernel) (fun c_28 => ?_) (fun c_28 => ?_)
      ·
        have i_28 : k22_3.toInt ≥ 24 := g5_ge (a := k22_3.toInt) (b := 24) rfl (by decide +kernel) c_28
        refine lv_iload_n hx hb dX12_unseen_56 rfl (lv_at hl 0 rfl) ?_
        exact W.iret (v := k22_2) hx hb hr (fun t ht hW => ⟨⟨k22_2, [(b_o, (oc12 0 u_sa b_rf b_ro b_im b_ke u_fd b_tp u_td u_fr u_to u_so u_wo u_fa u_bd u_nc b_nl u_co b_op b_ar u_le b_pi b_pa u_pd u_od b_ws b_hw z11 b_se b_re z12 z13 z14 z15 z16 z17 z18 z19 b_pt z20 z21 b_ip u_ic b_ah b_be b_me u_wd b_tr b_ld u_st b_wn u_id)), (b_ro, (arI G 5740 v_ro)), (b_se, (arJ G 13 z22)), (b_re, (arJ G 400 z23)), (b_pt, (arI G 200 z24)), (b_ip, (arZ G 1536 z25))], rfl, ⟨k22_2, 0, z11, z12, z13, z14, z15, z16, z17, z18, z19, z20, z21, z22, z23, z24, z25, i_3, i_4, i_5, i_6, i_7, i_8, i_9, i_10, rfl, rfl⟩, by rw [ht]; exact hP.sub [0, 1, 2, 3, 4, 5] rfl, hD.sub [0, 1, 2, 3, 4, 5] (by decide +kernel) rfl⟩, hS.F ht⟩) hS.2.2 dX12_unseen_57
      ·
        have i_28 : k22_3.toInt < 24 := g5_geN (a := k22_3.toInt) (b := 24) rfl (by decide +kernel) c_28
        refine lv_iload_n hx hb dX12_unseen_28 rfl (lv_at hl 0 rfl) ?_
        refine lv_aload_n hx hb dX12_unseen_29 rfl (lv_at hl 2 rfl) ?_
        refine va_get (D := G.1) (ci := 12) (v := .ref b_ip) (C := RX12) (T := TX12) (N := 52) hx hb hts inG_X12 hown hK hP 0 rfl rfl 41 (by decide +kernel) (hts _ fl_X12_85) (fun _ h9 => h9) rfl dX12_unseen_30 ?_
        refine lv_bipush (v := 64) hx hb dX12_unseen_33 (by decide +kernel) ?_
        refine W.eq (g2 := F0 m 35 ls [.int 64, .ref b_ip, .int k22_2]) rfl ?_
        refine lv_iload_n hx hb dX12_unseen_35 rfl (lv_at hl 1 rfl) ?_
        refine lv_imul hx hb dX12_unseen_36 ?_
        have t_29 : (64 * k22_3).toInt = 64 * k22_3.toInt := g5_imul (a := 64) (b := k22_3.toInt) (by decide +kernel) (by rfl) (by omega) (by omega)
        refine lv_iload_n hx hb dX12_unseen_37 rfl (lv_at hl 3 rfl) ?_
        refine lv_iadd hx hb dX12_unseen_38 ?_
        have t_30 : ((64 * k22_3) + p_1).toInt = (64 * k22_3).toInt + p_1.toInt := g5_iadd (a := (64 * k22_3).toInt) (b := p_1.toInt) (by rfl) (by rfl) (by omega) (by omega)
        refine va_zald hx hb hK hP 5 2 rfl rfl (i := ((64 * k22_3) + p_1)) (vp_in_iff.mpr ⟨by omega, by omega⟩) dX12_unseen_39 ?_
        refine W.eq (g2 := F0 m 40 ls [.int (z25 ((64 * k22_3) + p_1).toNatClampNeg), .int k22_2]) rfl ?_
        refine lv_if_eq (tgt := 47) hx hb dX12_unseen_40 (by decide +kernel) (fun c_31 => ?_) (fun c_31 => ?_)
        ·
          have i_31 : (z25 ((64 * k22_3) + p_1).toNatClampNeg).toInt = 0 := g5_eq (a := (z25 ((64 * k22_3) + p_1).toNatClampNeg).toInt) (b := 0) rfl (by decide +kernel) c_31
          refine lv_iconst (v := 1) hx hb dX12_unseen_47 (by decide +kernel) ?_
          refine lv_iadd hx hb dX12_unseen_48 ?_
          refine lv_istore_n (lv' := [(2, .int (k22_2 + 1)), (3, .int k22_3), (0, .ref b_o), (1, .int p_1)]) hx hb dX12_unseen_49 rfl hl (by decide +kernel) rfl ?_
          clear hl
          intro ls hl
          refine lv_iinc (v := (k22_3 + 1)) (lv' := [(3, .int (k22_3 + 1)), (2, .int (k22_2 + 1)), (0, .ref b_o), (1, .int p_1)]) hx hb dX12_unseen_50 hl (k := 1) rfl rfl (by decide +kernel) rfl ?_
          clear hl
          intro ls hl
          have t_32 : (k22_3 + 1).toInt = k22_3.toInt + 1 := g5_iadd (a := k22_3.toInt) (b := 1) rfl (by decide +kernel) (by omega) (by omega)
          refine W.eq (g2 := F0 m 53 ls []) rfl ?_
          refine lv_goto (tgt := 22) hx hb dX12_unseen_53 (by decide +kernel) ?_
          exact ih_22_27 ((k22_3 + 1), (k22_2 + 1)) ls H locs (show Int.toNat (24 - (k22_3 + 1).toInt) < Int.toNat (24 - k22_3.toInt) from g_up (show k22_3.toInt < (k22_3 + 1).toInt by omega) (show k22_3.toInt < 24 by omega)) ⟨lv_sub hl [1, 0, 2, 3] rfl, hP, hD, hS, ⟨by omega, by omega⟩⟩
        ·
          have n_31 : gNe ((z25 ((64 * k22_3) + p_1).toNatClampNeg).toInt) (0) := g5_eqN (a := (z25 ((64 * k22_3) + p_1).toNatClampNeg).toInt) (b := 0) rfl (by decide +kernel) c_31
          refine lv_iconst (v := 0) hx hb dX12_unseen_43 (by decide +kernel) ?_
          refine lv_goto (tgt := 48) hx hb dX12_unseen_44 (by decide +kernel) ?_
          refine lv_iadd hx hb dX12_unseen_48 ?_
          refine g5_ti (v := k22_2) (by simp) ?_
          refine lv_istore_n (lv' := [(2, .int k22_2), (3, .int k22_3), (0, .ref b_o), (1, .int p_1)]) hx hb dX12_unseen_49 rfl hl (by decide +kernel) rfl ?_
          clear hl
          intro ls hl
          refine W.eq (g2 := F0 m 50 ls []) rfl ?_
          refine lv_iinc (v := (k22_3 + 1)) (lv' := [(3, .int (k22_3 + 1)), (2, .int k22_2), (0, .ref b_o), (1, .int p_1)]) hx hb dX12_unseen_50 hl (k := 1) rfl rfl (by decide +kernel) rfl ?_
          clear hl
          intro ls hl
          have t_33 : (k22_3 + 1).toInt = k22_3.toInt + 1 := g5_iadd (a := k22_3.toInt) (b := 1) rfl (by decide +kernel) (by omega) (by omega)
          refine lv_goto (tgt := 22) hx hb dX12_unseen_53 (by decide +kernel) ?_
          exact ih_22_27 ((k22_3 + 1), k22_2) ls H locs (show Int.toNat (24 - (k22_3 + 1).toInt) < Int.toNat (24 - k22_3.toInt) from g_up (show k22_3.toInt < (k22_3 + 1).toInt by omega) (show k22_3.toInt < 24 by omega)) ⟨lv_sub hl [1, 0, 2, 3] rfl, hP, hD, hS, ⟨by omega, by omega⟩⟩
    ·
      exact absurd c_2 (by decide +kernel)
  ·
    have hJ9 := g5_same hP hk1
    clear hP hPc hDc hFc ht hvm hz1 hk1 hP1 hD1
    have hP := hJ9
    clear hJ9
    refine lv_if_ne (tgt := 14) hx hb dX12_unseen_9 (by decide +kernel) (fun c_34 => ?_) (fun c_34 => ?_)
    ·
      exact absurd c_34 (by decide +kernel)
    ·
      refine lv_iconst (v := (-1)) hx hb dX12_unseen_12 (by decide +kernel) ?_
      exact W.iret (v := (-1)) hx hb hr (fun t ht hW => ⟨⟨(-1), [(b_o, (oc12 0 u_sa b_rf b_ro b_im b_ke u_fd b_tp u_td u_fr u_to u_so u_wo u_fa u_bd u_nc b_nl u_co b_op b_ar u_le b_pi b_pa u_pd u_od b_ws b_hw u_la b_se b_re u_bk u_va u_su u_ce u_ho u_wy u_bt u_ps b_pt u_tg u_sn b_ip u_ic b_ah b_be b_me u_wd b_tr b_ld u_st b_wn u_id)), (b_ro, (arI G 5740 v_ro)), (b_se, (arJ G 13 v_se)), (b_re, (arJ G 400 v_re)), (b_pt, (arI G 200 v_pt)), (b_ip, (arZ G 1536 v_ip))], rfl, ⟨(-1), 0, u_la, u_bk, u_va, u_su, u_ce, u_ho, u_wy, u_bt, u_ps, u_tg, u_sn, v_se, v_re, v_pt, v_ip, h_u_la, h_u_bk, h_u_ce, h_u_ho, h_u_wy, h_u_bt, h_u_ps, r_pt, rfl, rfl⟩, by rw [ht]; exact hP.sub [0, 1, 2, 3, 4, 5] rfl, hD.sub [0, 1, 2, 3, 4, 5] (by decide +kernel) rfl⟩, hS.F ht⟩) hS.2.2 dX12_unseen_13
theorem dgX12_lacking_0 : ∀ r ∈ ([(0, (.iconst 0, 1)), (1, (.istore_n 2, 1)), (2, (.iconst 0, 1)), (3, (.istore_n 3, 1)), (4, (.iload_n 3, 1)), (5, (.aload_n 0, 1)), (6, (.getfield 13, 3)), (9, (.bipush 8, 2)), (11, (.iaload, 1)), (12, (.if_icmp .ge 134, 3)), (15, (.sipush 300, 3)), (18, (.bipush 6, 2)), (20, (.iload_n 3, 1)), (21, (.imul, 1)), (22, (.iadd, 1)), (23, (.istore 4, 2)), (25, (.aload_n 0, 1)), (26, (.aload_n 0, 1)), (27, (.getfield 13, 3)), (30, (.iload 4, 2)), (32, (.iaload, 1)), (33, (.aload_n 0, 1)), (34, (.getfield 13, 3)), (37, (.iload 4, 2)), (39, (.iconst 1, 1)), (40, (.iadd, 1)), (41, (.iaload, 1)), (42, (.aload_n 0, 1)), (43, (.getfield 13, 3)), (46, (.iload 4, 2)), (48, (.iconst 2, 1)), (49, (.iadd, 1)), (50, (.iaload, 1)), (51, (.iload_n 1, 1)), (52, (.invokevirtual 401, 3)), (55, (.iconst 0, 1)), (56, (.istore 5, 2)), (58, (.iconst 0, 1)), (59, (.istore 6, 2)), (61, (.iload 6, 2))] : List (Nat × (Instr × Nat))), decode cX12_lacking r.1 = .ok r.2 := by decide +kernel
theorem dX12_lacking_0 : decode cX12_lacking 0 = .ok (.iconst 0, 1) := dgX12_lacking_0 (0, (.iconst 0, 1)) (List.mem_of_getElem? (i := 0) rfl)
theorem dX12_lacking_1 : decode cX12_lacking 1 = .ok (.istore_n 2, 1) := dgX12_lacking_0 (1, (.istore_n 2, 1)) (List.mem_of_getElem? (i := 1) rfl)
theorem dX12_lacking_2 : decode cX12_lacking 2 = .ok (.iconst 0, 1) := dgX12_lacking_0 (2, (.iconst 0, 1)) (List.mem_of_getElem? (i := 2) rfl)
theorem dX12_lacking_3 : decode cX12_lacking 3 = .ok (.istore_n 3, 1) := dgX12_lacking_0 (3, (.istore_n 3, 1)) (List.mem_of_getElem? (i := 3) rfl)
theorem dX12_lacking_4 : decode cX12_lacking 4 = .ok (.iload_n 3, 1) := dgX12_lacking_0 (4, (.iload_n 3, 1)) (List.mem_of_getElem? (i := 4) rfl)
theorem dX12_lacking_5 : decode cX12_lacking 5 = .ok (.aload_n 0, 1) := dgX12_lacking_0 (5, (.aload_n 0, 1)) (List.mem_of_getElem? (i := 5) rfl)
theorem dX12_lacking_6 : decode cX12_lacking 6 = .ok (.getfield 13, 3) := dgX12_lacking_0 (6, (.getfield 13, 3)) (List.mem_of_getElem? (i := 6) rfl)
theorem dX12_lacking_9 : decode cX12_lacking 9 = .ok (.bipush 8, 2) := dgX12_lacking_0 (9, (.bipush 8, 2)) (List.mem_of_getElem? (i := 7) rfl)
theorem dX12_lacking_11 : decode cX12_lacking 11 = .ok (.iaload, 1) := dgX12_lacking_0 (11, (.iaload, 1)) (List.mem_of_getElem? (i := 8) rfl)
theorem dX12_lacking_12 : decode cX12_lacking 12 = .ok (.if_icmp .ge 134, 3) := dgX12_lacking_0 (12, (.if_icmp .ge 134, 3)) (List.mem_of_getElem? (i := 9) rfl)
theorem dX12_lacking_15 : decode cX12_lacking 15 = .ok (.sipush 300, 3) := dgX12_lacking_0 (15, (.sipush 300, 3)) (List.mem_of_getElem? (i := 10) rfl)
theorem dX12_lacking_18 : decode cX12_lacking 18 = .ok (.bipush 6, 2) := dgX12_lacking_0 (18, (.bipush 6, 2)) (List.mem_of_getElem? (i := 11) rfl)
theorem dX12_lacking_20 : decode cX12_lacking 20 = .ok (.iload_n 3, 1) := dgX12_lacking_0 (20, (.iload_n 3, 1)) (List.mem_of_getElem? (i := 12) rfl)
theorem dX12_lacking_21 : decode cX12_lacking 21 = .ok (.imul, 1) := dgX12_lacking_0 (21, (.imul, 1)) (List.mem_of_getElem? (i := 13) rfl)
theorem dX12_lacking_22 : decode cX12_lacking 22 = .ok (.iadd, 1) := dgX12_lacking_0 (22, (.iadd, 1)) (List.mem_of_getElem? (i := 14) rfl)
theorem dX12_lacking_23 : decode cX12_lacking 23 = .ok (.istore 4, 2) := dgX12_lacking_0 (23, (.istore 4, 2)) (List.mem_of_getElem? (i := 15) rfl)
theorem dX12_lacking_25 : decode cX12_lacking 25 = .ok (.aload_n 0, 1) := dgX12_lacking_0 (25, (.aload_n 0, 1)) (List.mem_of_getElem? (i := 16) rfl)
theorem dX12_lacking_26 : decode cX12_lacking 26 = .ok (.aload_n 0, 1) := dgX12_lacking_0 (26, (.aload_n 0, 1)) (List.mem_of_getElem? (i := 17) rfl)
theorem dX12_lacking_27 : decode cX12_lacking 27 = .ok (.getfield 13, 3) := dgX12_lacking_0 (27, (.getfield 13, 3)) (List.mem_of_getElem? (i := 18) rfl)
theorem dX12_lacking_30 : decode cX12_lacking 30 = .ok (.iload 4, 2) := dgX12_lacking_0 (30, (.iload 4, 2)) (List.mem_of_getElem? (i := 19) rfl)
theorem dX12_lacking_32 : decode cX12_lacking 32 = .ok (.iaload, 1) := dgX12_lacking_0 (32, (.iaload, 1)) (List.mem_of_getElem? (i := 20) rfl)
theorem dX12_lacking_33 : decode cX12_lacking 33 = .ok (.aload_n 0, 1) := dgX12_lacking_0 (33, (.aload_n 0, 1)) (List.mem_of_getElem? (i := 21) rfl)
theorem dX12_lacking_34 : decode cX12_lacking 34 = .ok (.getfield 13, 3) := dgX12_lacking_0 (34, (.getfield 13, 3)) (List.mem_of_getElem? (i := 22) rfl)
theorem dX12_lacking_37 : decode cX12_lacking 37 = .ok (.iload 4, 2) := dgX12_lacking_0 (37, (.iload 4, 2)) (List.mem_of_getElem? (i := 23) rfl)
theorem dX12_lacking_39 : decode cX12_lacking 39 = .ok (.iconst 1, 1) := dgX12_lacking_0 (39, (.iconst 1, 1)) (List.mem_of_getElem? (i := 24) rfl)
theorem dX12_lacking_40 : decode cX12_lacking 40 = .ok (.iadd, 1) := dgX12_lacking_0 (40, (.iadd, 1)) (List.mem_of_getElem? (i := 25) rfl)
theorem dX12_lacking_41 : decode cX12_lacking 41 = .ok (.iaload, 1) := dgX12_lacking_0 (41, (.iaload, 1)) (List.mem_of_getElem? (i := 26) rfl)
theorem dX12_lacking_42 : decode cX12_lacking 42 = .ok (.aload_n 0, 1) := dgX12_lacking_0 (42, (.aload_n 0, 1)) (List.mem_of_getElem? (i := 27) rfl)
theorem dX12_lacking_43 : decode cX12_lacking 43 = .ok (.getfield 13, 3) := dgX12_lacking_0 (43, (.getfield 13, 3)) (List.mem_of_getElem? (i := 28) rfl)
theorem dX12_lacking_46 : decode cX12_lacking 46 = .ok (.iload 4, 2) := dgX12_lacking_0 (46, (.iload 4, 2)) (List.mem_of_getElem? (i := 29) rfl)
theorem dX12_lacking_48 : decode cX12_lacking 48 = .ok (.iconst 2, 1) := dgX12_lacking_0 (48, (.iconst 2, 1)) (List.mem_of_getElem? (i := 30) rfl)
theorem dX12_lacking_49 : decode cX12_lacking 49 = .ok (.iadd, 1) := dgX12_lacking_0 (49, (.iadd, 1)) (List.mem_of_getElem? (i := 31) rfl)
theorem dX12_lacking_50 : decode cX12_lacking 50 = .ok (.iaload, 1) := dgX12_lacking_0 (50, (.iaload, 1)) (List.mem_of_getElem? (i := 32) rfl)
theorem dX12_lacking_51 : decode cX12_lacking 51 = .ok (.iload_n 1, 1) := dgX12_lacking_0 (51, (.iload_n 1, 1)) (List.mem_of_getElem? (i := 33) rfl)
theorem dX12_lacking_52 : decode cX12_lacking 52 = .ok (.invokevirtual 401, 3) := dgX12_lacking_0 (52, (.invokevirtual 401, 3)) (List.mem_of_getElem? (i := 34) rfl)
theorem dX12_lacking_55 : decode cX12_lacking 55 = .ok (.iconst 0, 1) := dgX12_lacking_0 (55, (.iconst 0, 1)) (List.mem_of_getElem? (i := 35) rfl)
theorem dX12_lacking_56 : decode cX12_lacking 56 = .ok (.istore 5, 2) := dgX12_lacking_0 (56, (.istore 5, 2)) (List.mem_of_getElem? (i := 36) rfl)
theorem dX12_lacking_58 : decode cX12_lacking 58 = .ok (.iconst 0, 1) := dgX12_lacking_0 (58, (.iconst 0, 1)) (List.mem_of_getElem? (i := 37) rfl)
theorem dX12_lacking_59 : decode cX12_lacking 59 = .ok (.istore 6, 2) := dgX12_lacking_0 (59, (.istore 6, 2)) (List.mem_of_getElem? (i := 38) rfl)
theorem dX12_lacking_61 : decode cX12_lacking 61 = .ok (.iload 6, 2) := dgX12_lacking_0 (61, (.iload 6, 2)) (List.mem_of_getElem? (i := 39) rfl)
theorem dgX12_lacking_1 : ∀ r ∈ ([(63, (.aload_n 0, 1)), (64, (.getfield 358, 3)), (67, (.if_icmp .ge 49, 3)), (70, (.aload_n 0, 1)), (71, (.getfield 82, 3)), (74, (.iload 6, 2)), (76, (.iaload, 1)), (77, (.bipush 64, 2)), (79, (.aload_n 0, 1)), (80, (.getfield 13, 3)), (83, (.iload 4, 2)), (85, (.iconst 4, 1)), (86, (.iadd, 1)), (87, (.iaload, 1)), (88, (.imul, 1)), (89, (.aload_n 0, 1)), (90, (.getfield 13, 3)), (93, (.iload 4, 2)), (95, (.iconst 3, 1)), (96, (.iadd, 1)), (97, (.iaload, 1)), (98, (.iadd, 1)), (99, (.if_icmp .ne 7, 3)), (102, (.iconst 1, 1)), (103, (.goto 5, 3)), (106, (.iload 5, 2)), (108, (.istore 5, 2)), (110, (.iinc 6 1, 3)), (113, (.goto (-52), 3)), (116, (.iload_n 2, 1)), (117, (.iload 5, 2)), (119, (.aload_n 0, 1)), (120, (.getfield 13, 3)), (123, (.iload 4, 2)), (125, (.iconst 5, 1)), (126, (.iadd, 1)), (127, (.iaload, 1)), (128, (.if_icmp .eq 9, 3)), (131, (.iconst 1, 1)), (132, (.iload_n 3, 1))] : List (Nat × (Instr × Nat))), decode cX12_lacking r.1 = .ok r.2 := by decide +kernel
theorem dX12_lacking_63 : decode cX12_lacking 63 = .ok (.aload_n 0, 1) := dgX12_lacking_1 (63, (.aload_n 0, 1)) (List.mem_of_getElem? (i := 0) rfl)
theorem dX12_lacking_64 : decode cX12_lacking 64 = .ok (.getfield 358, 3) := dgX12_lacking_1 (64, (.getfield 358, 3)) (List.mem_of_getElem? (i := 1) rfl)
theorem dX12_lacking_67 : decode cX12_lacking 67 = .ok (.if_icmp .ge 49, 3) := dgX12_lacking_1 (67, (.if_icmp .ge 49, 3)) (List.mem_of_getElem? (i := 2) rfl)
theorem dX12_lacking_70 : decode cX12_lacking 70 = .ok (.aload_n 0, 1) := dgX12_lacking_1 (70, (.aload_n 0, 1)) (List.mem_of_getElem? (i := 3) rfl)
theorem dX12_lacking_71 : decode cX12_lacking 71 = .ok (.getfield 82, 3) := dgX12_lacking_1 (71, (.getfield 82, 3)) (List.mem_of_getElem? (i := 4) rfl)
theorem dX12_lacking_74 : decode cX12_lacking 74 = .ok (.iload 6, 2) := dgX12_lacking_1 (74, (.iload 6, 2)) (List.mem_of_getElem? (i := 5) rfl)
theorem dX12_lacking_76 : decode cX12_lacking 76 = .ok (.iaload, 1) := dgX12_lacking_1 (76, (.iaload, 1)) (List.mem_of_getElem? (i := 6) rfl)
theorem dX12_lacking_77 : decode cX12_lacking 77 = .ok (.bipush 64, 2) := dgX12_lacking_1 (77, (.bipush 64, 2)) (List.mem_of_getElem? (i := 7) rfl)
theorem dX12_lacking_79 : decode cX12_lacking 79 = .ok (.aload_n 0, 1) := dgX12_lacking_1 (79, (.aload_n 0, 1)) (List.mem_of_getElem? (i := 8) rfl)
theorem dX12_lacking_80 : decode cX12_lacking 80 = .ok (.getfield 13, 3) := dgX12_lacking_1 (80, (.getfield 13, 3)) (List.mem_of_getElem? (i := 9) rfl)
theorem dX12_lacking_83 : decode cX12_lacking 83 = .ok (.iload 4, 2) := dgX12_lacking_1 (83, (.iload 4, 2)) (List.mem_of_getElem? (i := 10) rfl)
theorem dX12_lacking_85 : decode cX12_lacking 85 = .ok (.iconst 4, 1) := dgX12_lacking_1 (85, (.iconst 4, 1)) (List.mem_of_getElem? (i := 11) rfl)
theorem dX12_lacking_86 : decode cX12_lacking 86 = .ok (.iadd, 1) := dgX12_lacking_1 (86, (.iadd, 1)) (List.mem_of_getElem? (i := 12) rfl)
theorem dX12_lacking_87 : decode cX12_lacking 87 = .ok (.iaload, 1) := dgX12_lacking_1 (87, (.iaload, 1)) (List.mem_of_getElem? (i := 13) rfl)
theorem dX12_lacking_88 : decode cX12_lacking 88 = .ok (.imul, 1) := dgX12_lacking_1 (88, (.imul, 1)) (List.mem_of_getElem? (i := 14) rfl)
theorem dX12_lacking_89 : decode cX12_lacking 89 = .ok (.aload_n 0, 1) := dgX12_lacking_1 (89, (.aload_n 0, 1)) (List.mem_of_getElem? (i := 15) rfl)
theorem dX12_lacking_90 : decode cX12_lacking 90 = .ok (.getfield 13, 3) := dgX12_lacking_1 (90, (.getfield 13, 3)) (List.mem_of_getElem? (i := 16) rfl)
theorem dX12_lacking_93 : decode cX12_lacking 93 = .ok (.iload 4, 2) := dgX12_lacking_1 (93, (.iload 4, 2)) (List.mem_of_getElem? (i := 17) rfl)
theorem dX12_lacking_95 : decode cX12_lacking 95 = .ok (.iconst 3, 1) := dgX12_lacking_1 (95, (.iconst 3, 1)) (List.mem_of_getElem? (i := 18) rfl)
theorem dX12_lacking_96 : decode cX12_lacking 96 = .ok (.iadd, 1) := dgX12_lacking_1 (96, (.iadd, 1)) (List.mem_of_getElem? (i := 19) rfl)
theorem dX12_lacking_97 : decode cX12_lacking 97 = .ok (.iaload, 1) := dgX12_lacking_1 (97, (.iaload, 1)) (List.mem_of_getElem? (i := 20) rfl)
theorem dX12_lacking_98 : decode cX12_lacking 98 = .ok (.iadd, 1) := dgX12_lacking_1 (98, (.iadd, 1)) (List.mem_of_getElem? (i := 21) rfl)
theorem dX12_lacking_99 : decode cX12_lacking 99 = .ok (.if_icmp .ne 7, 3) := dgX12_lacking_1 (99, (.if_icmp .ne 7, 3)) (List.mem_of_getElem? (i := 22) rfl)
theorem dX12_lacking_102 : decode cX12_lacking 102 = .ok (.iconst 1, 1) := dgX12_lacking_1 (102, (.iconst 1, 1)) (List.mem_of_getElem? (i := 23) rfl)
theorem dX12_lacking_103 : decode cX12_lacking 103 = .ok (.goto 5, 3) := dgX12_lacking_1 (103, (.goto 5, 3)) (List.mem_of_getElem? (i := 24) rfl)
theorem dX12_lacking_106 : decode cX12_lacking 106 = .ok (.iload 5, 2) := dgX12_lacking_1 (106, (.iload 5, 2)) (List.mem_of_getElem? (i := 25) rfl)
theorem dX12_lacking_108 : decode cX12_lacking 108 = .ok (.istore 5, 2) := dgX12_lacking_1 (108, (.istore 5, 2)) (List.mem_of_getElem? (i := 26) rfl)
theorem dX12_lacking_110 : decode cX12_lacking 110 = .ok (.iinc 6 1, 3) := dgX12_lacking_1 (110, (.iinc 6 1, 3)) (List.mem_of_getElem? (i := 27) rfl)
theorem dX12_lacking_113 : decode cX12_lacking 113 = .ok (.goto (-52), 3) := dgX12_lacking_1 (113, (.goto (-52), 3)) (List.mem_of_getElem? (i := 28) rfl)
theorem dX12_lacking_116 : decode cX12_lacking 116 = .ok (.iload_n 2, 1) := dgX12_lacking_1 (116, (.iload_n 2, 1)) (List.mem_of_getElem? (i := 29) rfl)
theorem dX12_lacking_117 : decode cX12_lacking 117 = .ok (.iload 5, 2) := dgX12_lacking_1 (117, (.iload 5, 2)) (List.mem_of_getElem? (i := 30) rfl)
theorem dX12_lacking_119 : decode cX12_lacking 119 = .ok (.aload_n 0, 1) := dgX12_lacking_1 (119, (.aload_n 0, 1)) (List.mem_of_getElem? (i := 31) rfl)
theorem dX12_lacking_120 : decode cX12_lacking 120 = .ok (.getfield 13, 3) := dgX12_lacking_1 (120, (.getfield 13, 3)) (List.mem_of_getElem? (i := 32) rfl)
theorem dX12_lacking_123 : decode cX12_lacking 123 = .ok (.iload 4, 2) := dgX12_lacking_1 (123, (.iload 4, 2)) (List.mem_of_getElem? (i := 33) rfl)
theorem dX12_lacking_125 : decode cX12_lacking 125 = .ok (.iconst 5, 1) := dgX12_lacking_1 (125, (.iconst 5, 1)) (List.mem_of_getElem? (i := 34) rfl)
theorem dX12_lacking_126 : decode cX12_lacking 126 = .ok (.iadd, 1) := dgX12_lacking_1 (126, (.iadd, 1)) (List.mem_of_getElem? (i := 35) rfl)
theorem dX12_lacking_127 : decode cX12_lacking 127 = .ok (.iaload, 1) := dgX12_lacking_1 (127, (.iaload, 1)) (List.mem_of_getElem? (i := 36) rfl)
theorem dX12_lacking_128 : decode cX12_lacking 128 = .ok (.if_icmp .eq 9, 3) := dgX12_lacking_1 (128, (.if_icmp .eq 9, 3)) (List.mem_of_getElem? (i := 37) rfl)
theorem dX12_lacking_131 : decode cX12_lacking 131 = .ok (.iconst 1, 1) := dgX12_lacking_1 (131, (.iconst 1, 1)) (List.mem_of_getElem? (i := 38) rfl)
theorem dX12_lacking_132 : decode cX12_lacking 132 = .ok (.iload_n 3, 1) := dgX12_lacking_1 (132, (.iload_n 3, 1)) (List.mem_of_getElem? (i := 39) rfl)
theorem dgX12_lacking_2 : ∀ r ∈ ([(133, (.ishl, 1)), (134, (.goto 4, 3)), (137, (.iconst 0, 1)), (138, (.ior, 1)), (139, (.istore_n 2, 1)), (140, (.iinc 3 1, 3)), (143, (.goto (-139), 3)), (146, (.iload_n 2, 1)), (147, (.ireturn, 1))] : List (Nat × (Instr × Nat))), decode cX12_lacking r.1 = .ok r.2 := by decide +kernel
theorem dX12_lacking_133 : decode cX12_lacking 133 = .ok (.ishl, 1) := dgX12_lacking_2 (133, (.ishl, 1)) (List.mem_of_getElem? (i := 0) rfl)
theorem dX12_lacking_134 : decode cX12_lacking 134 = .ok (.goto 4, 3) := dgX12_lacking_2 (134, (.goto 4, 3)) (List.mem_of_getElem? (i := 1) rfl)
theorem dX12_lacking_137 : decode cX12_lacking 137 = .ok (.iconst 0, 1) := dgX12_lacking_2 (137, (.iconst 0, 1)) (List.mem_of_getElem? (i := 2) rfl)
theorem dX12_lacking_138 : decode cX12_lacking 138 = .ok (.ior, 1) := dgX12_lacking_2 (138, (.ior, 1)) (List.mem_of_getElem? (i := 3) rfl)
theorem dX12_lacking_139 : decode cX12_lacking 139 = .ok (.istore_n 2, 1) := dgX12_lacking_2 (139, (.istore_n 2, 1)) (List.mem_of_getElem? (i := 4) rfl)
theorem dX12_lacking_140 : decode cX12_lacking 140 = .ok (.iinc 3 1, 3) := dgX12_lacking_2 (140, (.iinc 3 1, 3)) (List.mem_of_getElem? (i := 5) rfl)
theorem dX12_lacking_143 : decode cX12_lacking 143 = .ok (.goto (-139), 3) := dgX12_lacking_2 (143, (.goto (-139), 3)) (List.mem_of_getElem? (i := 6) rfl)
theorem dX12_lacking_146 : decode cX12_lacking 146 = .ok (.iload_n 2, 1) := dgX12_lacking_2 (146, (.iload_n 2, 1)) (List.mem_of_getElem? (i := 7) rfl)
theorem dX12_lacking_147 : decode cX12_lacking 147 = .ok (.ireturn, 1) := dgX12_lacking_2 (147, (.ireturn, 1)) (List.mem_of_getElem? (i := 8) rfl)
set_option maxHeartbeats 4000000 in
set_option maxRecDepth 100000 in
theorem n_lacking (l : Launch) (G : g5_G) (b_o b_ro b_se b_re b_pt b_rf b_im b_ke b_tp b_nl b_op b_ar b_pi b_pa b_ws b_hw b_ip b_ah b_be b_me b_tr b_ld b_wn : Nat) (sz : Nat) (u_th : Int32) (u_sa : Int32) (u_fd : Int32) (u_td : Int32) (u_fr : Int32) (u_to : Int32) (u_so : Int32) (u_fa : Int32) (u_bd : Int32) (u_nc : Int32) (u_co : Int32) (u_le : Int32) (u_pd : Int32) (u_od : Int32) (u_la : Int32) (u_bk : Int32) (u_ce : Int32) (u_ho : Int32) (u_wy : Int32) (u_bt : Int32) (u_ps : Int32) (u_tg : Int32) (u_sn : Int32) (u_ic : Int32) (u_wd : Int32) (u_id : Int32) (p_1 : Int32) (u_wo : Int64) (u_va : Int64) (u_su : Int64) (u_st : Int64) (v_ro : Nat → Int32) (v_se : Nat → Int64) (v_re : Nat → Int64) (v_pt : Nat → Int32) (h_u_td : 0 ≤ u_td.toInt ∧ u_td.toInt ≤ 400) (h_u_fr : 0 ≤ u_fr.toInt ∧ u_fr.toInt ≤ 400) (h_u_to : 0 ≤ u_to.toInt ∧ u_to.toInt ≤ 400) (h_u_bd : 0 ≤ u_bd.toInt ∧ u_bd.toInt ≤ 1) (h_u_nc : 0 ≤ u_nc.toInt ∧ u_nc.toInt ≤ 12) (h_u_co : 0 ≤ u_co.toInt ∧ u_co.toInt ≤ 400) (h_u_pd : 0 ≤ u_pd.toInt ∧ u_pd.toInt ≤ 400) (h_u_la : 0 ≤ u_la.toInt ∧ u_la.toInt ≤ 4840) (h_u_bk : 0 ≤ u_bk.toInt ∧ u_bk.toInt ≤ 1) (h_u_ce : 0 ≤ u_ce.toInt ∧ u_ce.toInt ≤ 63) (h_u_ho : 0 ≤ u_ho.toInt ∧ u_ho.toInt ≤ 23) (h_u_wy : 0 ≤ u_wy.toInt ∧ u_wy.toInt ≤ 3) (h_u_bt : 0 ≤ u_bt.toInt ∧ u_bt.toInt ≤ 1000000) (h_u_ps : 0 ≤ u_ps.toInt ∧ u_ps.toInt ≤ 200) (h_u_ic : 0 ≤ u_ic.toInt ∧ u_ic.toInt ≤ 1) (h_u_id : 0 ≤ u_id.toInt ∧ u_id.toInt ≤ 1) (r_ro : MI v_ro) (r_pt : PTI v_pt) : Met l yX12_lacking (wsG yX12_lacking cX12_lacking 7 (some .int)) ({ frames := 7, cells := 0, slots := 0, locals := 176 }) (va_Pc [.ref b_o, .int p_1] (g5_P G [(b_o, (oc12 u_th u_sa b_rf b_ro b_im b_ke u_fd b_tp u_td u_fr u_to u_so u_wo u_fa u_bd u_nc b_nl u_co b_op b_ar u_le b_pi b_pa u_pd u_od b_ws b_hw u_la b_se b_re u_bk u_va u_su u_ce u_ho u_wy u_bt u_ps b_pt u_tg u_sn b_ip u_ic b_ah b_be b_me u_wd b_tr b_ld u_st b_wn u_id)), (b_ro, (arI G 5740 v_ro)), (b_se, (arJ G 13 v_se)), (b_re, (arJ G 400 v_re)), (b_pt, (arI G 200 v_pt))] sz)) (va_Qi (fun (r : Int32) (u : va_W) => (∃ (o_r : Int32) (o_la : Int32) (o_bk : Int32) (o_va : Int64) (o_su : Int64) (o_ce : Int32) (o_ho : Int32) (o_wy : Int32) (o_bt : Int32) (o_ps : Int32) (o_tg : Int32) (o_sn : Int32) (o_se : Nat → Int64) (o_re : Nat → Int64) (o_pt : Nat → Int32), (0 ≤ o_la.toInt ∧ o_la.toInt ≤ 4840) ∧ (0 ≤ o_bk.toInt ∧ o_bk.toInt ≤ 1) ∧ (0 ≤ o_ce.toInt ∧ o_ce.toInt ≤ 63) ∧ (0 ≤ o_ho.toInt ∧ o_ho.toInt ≤ 23) ∧ (0 ≤ o_wy.toInt ∧ o_wy.toInt ≤ 3) ∧ (0 ≤ o_bt.toInt ∧ o_bt.toInt ≤ 1000000) ∧ (0 ≤ o_ps.toInt ∧ o_ps.toInt ≤ 200) ∧ (PTI o_pt) ∧ (r = o_r) ∧ (u = [(b_o, (oc12 u_th u_sa b_rf b_ro b_im b_ke u_fd b_tp u_td u_fr u_to u_so u_wo u_fa u_bd u_nc b_nl u_co b_op b_ar u_le b_pi b_pa u_pd u_od b_ws b_hw o_la b_se b_re o_bk o_va o_su o_ce o_ho o_wy o_bt o_ps b_pt o_tg o_sn b_ip u_ic b_ah b_be b_me u_wd b_tr b_ld u_st b_wn u_id)), (b_ro, (arI G 5740 v_ro)), (b_se, (arJ G 13 o_se)), (b_re, (arJ G 400 o_re)), (b_pt, (arI G 200 o_pt))]))) (g5_B G (va_A [(b_o, (oc12 u_th u_sa b_rf b_ro b_im b_ke u_fd b_tp u_td u_fr u_to u_so u_wo u_fa u_bd u_nc b_nl u_co b_op b_ar u_le b_pi b_pa u_pd u_od b_ws b_hw u_la b_se b_re u_bk u_va u_su u_ce u_ho u_wy u_bt u_ps b_pt u_tg u_sn b_ip u_ic b_ah b_be b_me u_wd b_tr b_ld u_st b_wn u_id)), (b_ro, (arI G 5740 v_ro)), (b_se, (arJ G 13 v_se)), (b_re, (arJ G 400 v_re)), (b_pt, (arI G 200 v_pt))] sz)) (va_A [(b_o, (oc12 u_th u_sa b_rf b_ro b_im b_ke u_fd b_tp u_td u_fr u_to u_so u_wo u_fa u_bd u_nc b_nl u_co b_op b_ar u_le b_pi b_pa u_pd u_od b_ws b_hw u_la b_se b_re u_bk u_va u_su u_ce u_ho u_wy u_bt u_ps b_pt u_tg u_sn b_ip u_ic b_ah b_be b_me u_wd b_tr b_ld u_st b_wn u_id)), (b_ro, (arI G 5740 v_ro)), (b_se, (arJ G 13 v_se)), (b_re, (arJ G 400 v_re)), (b_pt, (arI G 200 v_pt))] sz)) 0 0 (va_A [(b_o, (oc12 u_th u_sa b_rf b_ro b_im b_ke u_fd b_tp u_td u_fr u_to u_so u_wo u_fa u_bd u_nc b_nl u_co b_op b_ar u_le b_pi b_pa u_pd u_od b_ws b_hw u_la b_se b_re u_bk u_va u_su u_ce u_ho u_wy u_bt u_ps b_pt u_tg u_sn b_ip u_ic b_ah b_be b_me u_wd b_tr b_ld u_st b_wn u_id)), (b_ro, (arI G 5740 v_ro)), (b_se, (arJ G 13 v_se)), (b_re, (arJ G 400 v_re)), (b_pt, (arI G 200 v_pt))] sz) := by
  refine Met.ofW (cc := cX12_lacking) (maxL := 7) (ret := (some .int)) (by decide +kernel) rfl ?_
  intro p e s m args below meth c s₁ B hml hv
  obtain ⟨rfl, hsz, hP, hK, hD0, hN, hT⟩ := hv
  have hx := B.exec
  have hb := B.bytes
  have hr := B.returns
  have hts : ∀ w ∈ tblG, w.before _ s = true := fun w h => atoms_spec (ws := (wsG yX12_lacking cX12_lacking 7 (some .int))) B.pre w (List.mem_cons_of_mem _ h)
  have hown : s.vm.findClass RX12 = some m.cls := findClass_of_methodNamed B.named
  have hlocks := B.notSynchronized
  subst hsz
  have hD := hD0.self (sz := s.heap.size)
  generalize hAe : va_A [(b_o, (oc12 u_th u_sa b_rf b_ro b_im b_ke u_fd b_tp u_td u_fr u_to u_so u_wo u_fa u_bd u_nc b_nl u_co b_op b_ar u_le b_pi b_pa u_pd u_od b_ws b_hw u_la b_se b_re u_bk u_va u_su u_ce u_ho u_wy u_bt u_ps b_pt u_tg u_sn b_ip u_ic b_ah b_be b_me u_wd b_tr b_ld u_st b_wn u_id)), (b_ro, (arI G 5740 v_ro)), (b_se, (arJ G 13 v_se)), (b_re, (arJ G 400 v_re)), (b_pt, (arI G 200 v_pt))] s.heap.size = A at hD hT ⊢
  have hA : ∀ q : Nat, s.heap.size ≤ q → A q := fun q h => by rw [← hAe]; exact Or.inr h
  have hS : va_S A s.heap s.heap [] := va_S.rf
  replace hP : va_P G.1 vwCl [(b_o, (oc12 u_th u_sa b_rf b_ro b_im b_ke u_fd b_tp u_td u_fr u_to u_so u_wo u_fa u_bd u_nc b_nl u_co b_op b_ar u_le b_pi b_pa u_pd u_od b_ws b_hw u_la b_se b_re u_bk u_va u_su u_ce u_ho u_wy u_bt u_ps b_pt u_tg u_sn b_ip u_ic b_ah b_be b_me u_wd b_tr b_ld u_st b_wn u_id)), (b_ro, (arI G 5740 v_ro)), (b_se, (arJ G 13 v_se)), (b_re, (arJ G 400 v_re)), (b_pt, (arI G 200 v_pt))] s.heap := hP
  have hl := lv_entry ([.ref b_o, .int p_1]) (n := 7) (Nat.le_of_ble_eq_true rfl)
  rw [lg_entry_eq]
  generalize (lg_sl ([.ref b_o, .int p_1]) ++ List.replicate (7 - (lg_sl ([.ref b_o, .int p_1])).length) Slot.unset).toArray = ls at hl ⊢
  replace hl : lv_has ls 7 [(0, .ref b_o), (1, .int p_1)] := hl
  refine lv_iconst (v := 0) hx hb dX12_lacking_0 (by decide +kernel) ?_
  refine lv_istore_n (lv' := [(2, .int 0), (0, .ref b_o), (1, .int p_1)]) hx hb dX12_lacking_1 rfl hl (by decide +kernel) rfl ?_
  clear hl
  intro ls hl
  refine lv_iconst (v := 0) hx hb dX12_lacking_2 (by decide +kernel) ?_
  refine lv_istore_n (lv' := [(3, .int 0), (2, .int 0), (0, .ref b_o), (1, .int p_1)]) hx hb dX12_lacking_3 rfl hl (by decide +kernel) rfl ?_
  clear hl
  intro ls hl
  refine g5_loop (α := (Int32) × (Int32) × (Int32) × (Int32) × (Int64) × (Int64) × (Int32) × (Int32) × (Int32) × (Int32) × (Int32) × (Int32) × (Int32) × (Nat → Int64) × (Nat → Int64) × (Nat → Int32)) (fun (q : (Int32) × (Int32) × (Int32) × (Int32) × (Int64) × (Int64) × (Int32) × (Int32) × (Int32) × (Int32) × (Int32) × (Int32) × (Int32) × (Nat → Int64) × (Nat → Int64) × (Nat → Int32)) (ls : Array Slot) (H : Heap) (locs : List Loc) => match q with | (k4_3, k4_2, k4_la, k4_bk, k4_va, k4_su, k4_ce, k4_ho, k4_wy, k4_bt, k4_ps, k4_tg, k4_sn, k4_se, k4_re, k4_pt) => lv_has ls 7 [(2, .int k4_2), (3, .int k4_3), (0, .ref b_o), (1, .int p_1)] ∧ va_P G.1 vwCl [(b_o, (oc12 u_th u_sa b_rf b_ro b_im b_ke u_fd b_tp u_td u_fr u_to u_so u_wo u_fa u_bd u_nc b_nl u_co b_op b_ar u_le b_pi b_pa u_pd u_od b_ws b_hw k4_la b_se b_re k4_bk k4_va k4_su k4_ce k4_ho k4_wy k4_bt k4_ps b_pt k4_tg k4_sn b_ip u_ic b_ah b_be b_me u_wd b_tr b_ld u_st b_wn u_id)), (b_ro, (arI G 5740 v_ro)), (b_se, (arJ G 13 k4_se)), (b_re, (arJ G 400 k4_re)), (b_pt, (arI G 200 k4_pt))] H ∧ va_D A [(b_o, (oc12 u_th u_sa b_rf b_ro b_im b_ke u_fd b_tp u_td u_fr u_to u_so u_wo u_fa u_bd u_nc b_nl u_co b_op b_ar u_le b_pi b_pa u_pd u_od b_ws b_hw k4_la b_se b_re k4_bk k4_va k4_su k4_ce k4_ho k4_wy k4_bt k4_ps b_pt k4_tg k4_sn b_ip u_ic b_ah b_be b_me u_wd b_tr b_ld u_st b_wn u_id)), (b_ro, (arI G 5740 v_ro)), (b_se, (arJ G 13 k4_se)), (b_re, (arJ G 400 k4_re)), (b_pt, (arI G 200 k4_pt))] ∧ va_S A s.heap H locs ∧ (0 ≤ k4_3.toInt ∧ k4_3.toInt ≤ 6) ∧ (0 ≤ k4_la.toInt ∧ k4_la.toInt ≤ 4840) ∧ (0 ≤ k4_bk.toInt ∧ k4_bk.toInt ≤ 1) ∧ (0 ≤ k4_ce.toInt ∧ k4_ce.toInt ≤ 63) ∧ (0 ≤ k4_ho.toInt ∧ k4_ho.toInt ≤ 23) ∧ (0 ≤ k4_wy.toInt ∧ k4_wy.toInt ≤ 3) ∧ (0 ≤ k4_bt.toInt ∧ k4_bt.toInt ≤ 1000000) ∧ (0 ≤ k4_ps.toInt ∧ k4_ps.toInt ≤ 200) ∧ (PTI k4_pt)) (fun (q : (Int32) × (Int32) × (Int32) × (Int32) × (Int64) × (Int64) × (Int32) × (Int32) × (Int32) × (Int32) × (Int32) × (Int32) × (Int32) × (Nat → Int64) × (Nat → Int64) × (Nat → Int32)) => match q with | (k4_3, k4_2, k4_la, k4_bk, k4_va, k4_su, k4_ce, k4_ho, k4_wy, k4_bt, k4_ps, k4_tg, k4_sn, k4_se, k4_re, k4_pt) => Int.toNat (6 - k4_3.toInt)) (0, 0, u_la, u_bk, u_va, u_su, u_ce, u_ho, u_wy, u_bt, u_ps, u_tg, u_sn, v_se, v_re, v_pt) ⟨lv_sub hl [1, 0, 2, 3] rfl, hP, hD, hS, ⟨by decide, by decide⟩, h_u_la, h_u_bk, h_u_ce, h_u_ho, h_u_wy, h_u_bt, h_u_ps, r_pt⟩ ?_
  rintro ⟨k4_3, k4_2, k4_la, k4_bk, k4_va, k4_su, k4_ce, k4_ho, k4_wy, k4_bt, k4_ps, k4_tg, k4_sn, k4_se, k4_re, k4_pt⟩ ls H locs ⟨hl, hP, hD, hS, (i_1 : 0 ≤ k4_3.toInt ∧ k4_3.toInt ≤ 6), (i_2 : 0 ≤ k4_la.toInt ∧ k4_la.toInt ≤ 4840), (i_3 : 0 ≤ k4_bk.toInt ∧ k4_bk.toInt ≤ 1), (i_4 : 0 ≤ k4_ce.toInt ∧ k4_ce.toInt ≤ 63), (i_5 : 0 ≤ k4_ho.toInt ∧ k4_ho.toInt ≤ 23), (i_6 : 0 ≤ k4_wy.toInt ∧ k4_wy.toInt ≤ 3), (i_7 : 0 ≤ k4_bt.toInt ∧ k4_bt.toInt ≤ 1000000), (i_8 : 0 ≤ k4_ps.toInt ∧ k4_ps.toInt ≤ 200), (i_9 : PTI k4_pt)⟩ ih_4_10
  replace hl : lv_has ls 7 [(2, .int k4_2), (3, .int k4_3), (0, .ref b_o), (1, .int p_1)] := hl
  refine g5_rs [(b_o, (oc12 u_th u_sa b_rf b_ro b_im b_ke u_fd b_tp u_td u_fr u_to u_so u_wo u_fa u_bd u_nc b_nl u_co b_op b_ar u_le b_pi b_pa u_pd u_od b_ws b_hw k4_la b_se b_re k4_bk k4_va k4_su k4_ce k4_ho k4_wy k4_bt k4_ps b_pt k4_tg k4_sn b_ip u_ic b_ah b_be b_me u_wd b_tr b_ld u_st b_wn u_id)), (b_ro, (arI G 5740 v_ro)), (b_se, (arJ G 13 k4_se)), (b_re, (arJ G 400 k4_re)), (b_pt, (arI G 200 k4_pt))] hP hD ?_
  clear hP hD
  intro hP hD
  refine lv_iload_n hx hb dX12_lacking_4 rfl (lv_at hl 1 rfl) ?_
  refine lv_aload_n hx hb dX12_lacking_5 rfl (lv_at hl 2 rfl) ?_
  refine va_get (D := G.1) (ci := 12) (v := .ref b_ro) (C := RX12) (T := TX12) (N := 52) hx hb hts inG_X12 hown hK hP 0 rfl rfl 3 (by decide +kernel) (hts _ fl_X12_13) (fun _ h9 => h9) rfl dX12_lacking_6 ?_
  refine lv_bipush (v := 8) hx hb dX12_lacking_9 (by decide +kernel) ?_
  refine W.eq (g2 := F0 m 11 ls [.int 8, .ref b_ro, .int k4_3]) rfl ?_
  refine va_iald hx hb hK hP 1 0 rfl rfl (i := 8) (by unfold vp_in; decide) dX12_lacking_11 ?_
  refine g5_ti (v := (v_ro 8)) rfl ?_
  have hr_11 : 0 ≤ (v_ro 8).toInt ∧ (v_ro 8).toInt ≤ 6 := mi_8 r_ro
  refine lv_icmp_ge (tgt := 146) hx hb dX12_lacking_12 (by decide +kernel) (fun c_12 => ?_) (fun c_12 => ?_)
  ·
    have i_12 : k4_3.toInt ≥ (v_ro 8).toInt := g5_ge (a := k4_3.toInt) (b := (v_ro 8).toInt) rfl rfl c_12
    refine lv_iload_n hx hb dX12_lacking_146 rfl (lv_at hl 0 rfl) ?_
    exact W.iret (v := k4_2) hx hb hr (fun t ht hW => ⟨⟨k4_2, [(b_o, (oc12 u_th u_sa b_rf b_ro b_im b_ke u_fd b_tp u_td u_fr u_to u_so u_wo u_fa u_bd u_nc b_nl u_co b_op b_ar u_le b_pi b_pa u_pd u_od b_ws b_hw k4_la b_se b_re k4_bk k4_va k4_su k4_ce k4_ho k4_wy k4_bt k4_ps b_pt k4_tg k4_sn b_ip u_ic b_ah b_be b_me u_wd b_tr b_ld u_st b_wn u_id)), (b_ro, (arI G 5740 v_ro)), (b_se, (arJ G 13 k4_se)), (b_re, (arJ G 400 k4_re)), (b_pt, (arI G 200 k4_pt))], rfl, ⟨k4_2, k4_la, k4_bk, k4_va, k4_su, k4_ce, k4_ho, k4_wy, k4_bt, k4_ps, k4_tg, k4_sn, k4_se, k4_re, k4_pt, i_2, i_3, i_4, i_5, i_6, i_7, i_8, i_9, rfl, rfl⟩, by rw [ht]; exact hP.sub [0, 1, 2, 3, 4] rfl, hD.sub [0, 1, 2, 3, 4] (by decide +kernel) rfl⟩, hS.F ht⟩) hS.2.2 dX12_lacking_147
  ·
    have i_12 : k4_3.toInt < (v_ro 8).toInt := g5_geN (a := k4_3.toInt) (b := (v_ro 8).toInt) rfl rfl c_12
    refine lv_sipush (v := 300) hx hb dX12_lacking_15 (by decide +kernel) ?_
    refine lv_bipush (v := 6) hx hb dX12_lacking_18 (by decide +kernel) ?_
    refine lv_iload_n hx hb dX12_lacking_20 rfl (lv_at hl 1 rfl) ?_
    refine lv_imul hx hb dX12_lacking_21 ?_
    have t_13 : (6 * k4_3).toInt = 6 * k4_3.toInt := g5_imul (a := 6) (b := k4_3.toInt) (by decide +kernel) (by rfl) (by omega) (by omega)
    refine W.eq (g2 := F0 m 22 ls [.int (6 * k4_3), .int 300]) rfl ?_
    refine lv_iadd hx hb dX12_lacking_22 ?_
    have t_14 : (300 + (6 * k4_3)).toInt = 300 + (6 * k4_3).toInt := g5_iadd (a := 300) (b := (6 * k4_3).toInt) (by decide +kernel) (by rfl) (by omega) (by omega)
    refine lv_istore (lv' := [(4, .int (300 + (6 * k4_3))), (2, .int k4_2), (3, .int k4_3), (0, .ref b_o), (1, .int p_1)]) hx hb dX12_lacking_23 hl (by decide +kernel) rfl ?_
    clear hl
    intro ls hl
    refine lv_aload_n hx hb dX12_lacking_25 rfl (lv_at hl 3 rfl) ?_
    refine lv_aload_n hx hb dX12_lacking_26 rfl (lv_at hl 3 rfl) ?_
    refine va_get (D := G.1) (ci := 12) (v := .ref b_ro) (C := RX12) (T := TX12) (N := 52) hx hb hts inG_X12 hown hK hP 0 rfl rfl 3 (by decide +kernel) (hts _ fl_X12_13) (fun _ h9 => h9) rfl dX12_lacking_27 ?_
    refine W.eq (g2 := F0 m 30 ls [.ref b_ro, .ref b_o]) rfl ?_
    refine lv_iload hx hb dX12_lacking_30 (lv_at hl 0 rfl) ?_
    refine va_iald hx hb hK hP 1 0 rfl rfl (i := (300 + (6 * k4_3))) (vp_in_iff.mpr ⟨by omega, by omega⟩) dX12_lacking_32 ?_
    have hv_15 : 0 ≤ (v_ro (300 + (6 * k4_3)).toNatClampNeg).toInt ∧ (v_ro (300 + (6 * k4_3)).toNatClampNeg).toInt ≤ 63 := mi_300_0 r_ro (by have zz := g5_clamp (300 + (6 * k4_3)); omega) (by have zz := g5_clamp (300 + (6 * k4_3)); omega) (by have zz := g5_clamp (300 + (6 * k4_3)); omega)
    refine lv_aload_n hx hb dX12_lacking_33 rfl (lv_at hl 3 rfl) ?_
    refine va_get (D := G.1) (ci := 12) (v := .ref b_ro) (C := RX12) (T := TX12) (N := 52) hx hb hts inG_X12 hown hK hP 0 rfl rfl 3 (by decide +kernel) (hts _ fl_X12_13) (fun _ h9 => h9) rfl dX12_lacking_34 ?_
    refine lv_iload hx hb dX12_lacking_37 (lv_at hl 0 rfl) ?_
    refine W.eq (g2 := F0 m 39 ls [.int (300 + (6 * k4_3)), .ref b_ro, .int (v_ro (300 + (6 * k4_3)).toNatClampNeg), .ref b_o]) rfl ?_
    refine lv_iconst (v := 1) hx hb dX12_lacking_39 (by decide +kernel) ?_
    refine lv_iadd hx hb dX12_lacking_40 ?_
    have t_16 : ((300 + (6 * k4_3)) + 1).toInt = (300 + (6 * k4_3)).toInt + 1 := g5_iadd (a := (300 + (6 * k4_3)).toInt) (b := 1) (by rfl) (by decide +kernel) (by omega) (by omega)
    refine va_iald hx hb hK hP 1 0 rfl rfl (i := ((300 + (6 * k4_3)) + 1)) (vp_in_iff.mpr ⟨by omega, by omega⟩) dX12_lacking_41 ?_
    have hv_17 : 0 ≤ (v_ro ((300 + (6 * k4_3)) + 1).toNatClampNeg).toInt ∧ (v_ro ((300 + (6 * k4_3)) + 1).toNatClampNeg).toInt ≤ 3 := mi_300_1 r_ro (by have zz := g5_clamp ((300 + (6 * k4_3)) + 1); omega) (by have zz := g5_clamp ((300 + (6 * k4_3)) + 1); omega) (by have zz := g5_clamp ((300 + (6 * k4_3)) + 1); omega)
    refine lv_aload_n hx hb dX12_lacking_42 rfl (lv_at hl 3 rfl) ?_
    refine va_get (D := G.1) (ci := 12) (v := .ref b_ro) (C := RX12) (T := TX12) (N := 52) hx hb hts inG_X12 hown hK hP 0 rfl rfl 3 (by decide +kernel) (hts _ fl_X12_13) (fun _ h9 => h9) rfl dX12_lacking_43 ?_
    refine W.eq (g2 := F0 m 46 ls [.ref b_ro, .int (v_ro ((300 + (6 * k4_3)) + 1).toNatClampNeg), .int (v_ro (300 + (6 * k4_3)).toNatClampNeg), .ref b_o]) rfl ?_
    refine lv_iload hx hb dX12_lacking_46 (lv_at hl 0 rfl) ?_
    refine lv_iconst (v := 2) hx hb dX12_lacking_48 (by decide +kernel) ?_
    refine lv_iadd hx hb dX12_lacking_49 ?_
    have t_18 : ((300 + (6 * k4_3)) + 2).toInt = (300 + (6 * k4_3)).toInt + 2 := g5_iadd (a := (300 + (6 * k4_3)).toInt) (b := 2) (by rfl) (by decide +kernel) (by omega) (by omega)
    refine va_iald hx hb hK hP 1 0 rfl rfl (i := ((300 + (6 * k4_3)) + 2)) (vp_in_iff.mpr ⟨by omega, by omega⟩) dX12_lacking_50 ?_
    have hv_19 : 0 ≤ (v_ro ((300 + (6 * k4_3)) + 2).toNatClampNeg).toInt ∧ (v_ro ((300 + (6 * k4_3)) + 2).toNatClampNeg).toInt ≤ 23 := mi_300_2 r_ro (by have zz := g5_clamp ((300 + (6 * k4_3)) + 2); omega) (by have zz := g5_clamp ((300 + (6 * k4_3)) + 2); omega) (by have zz := g5_clamp ((300 + (6 * k4_3)) + 2); omega)
    refine lv_iload_n hx hb dX12_lacking_51 rfl (lv_at hl 4 rfl) ?_
    refine W.eq (g2 := F0 m 52 ls [.int p_1, .int (v_ro ((300 + (6 * k4_3)) + 2).toNatClampNeg), .int (v_ro ((300 + (6 * k4_3)) + 1).toNatClampNeg), .int (v_ro (300 + (6 * k4_3)).toNatClampNeg), .ref b_o]) rfl ?_
    obtain ⟨hPc, hDc, hFc⟩ := g5_sub3 (wc := [(b_o, (oc12 u_th u_sa b_rf b_ro b_im b_ke u_fd b_tp u_td u_fr u_to u_so u_wo u_fa u_bd u_nc b_nl u_co b_op b_ar u_le b_pi b_pa u_pd u_od b_ws b_hw k4_la b_se b_re k4_bk k4_va k4_su k4_ce k4_ho k4_wy k4_bt k4_ps b_pt k4_tg k4_sn b_ip u_ic b_ah b_be b_me u_wd b_tr b_ld u_st b_wn u_id)), (b_ro, (arI G 5740 v_ro)), (b_se, (arJ G 13 k4_se)), (b_re, (arJ G 400 k4_re)), (b_pt, (arI G 200 k4_pt))]) hP hD hS hA [0, 1, 2, 3, 4] (by decide +kernel) rfl
    refine va_callv (va_runV (As := [.int (v_ro (300 + (6 * k4_3)).toNatClampNeg), .int (v_ro ((300 + (6 * k4_3)) + 1).toNatClampNeg), .int (v_ro ((300 + (6 * k4_3)) + 2).toNatClampNeg), .int p_1]) (rest := []) ⟨hx, hb, hml, hown, hts⟩ (n_go l G b_o b_ro b_se b_re b_pt b_rf b_im b_ke b_tp b_nl b_op b_ar b_pi b_pa b_ws b_hw b_ip b_ah b_be b_me b_tr b_ld b_wn H.size u_th u_sa u_fd u_td u_fr u_to u_so u_fa u_bd u_nc u_co u_le u_pd u_od k4_la k4_bk k4_ce k4_ho k4_wy k4_bt k4_ps k4_tg k4_sn u_ic u_wd u_id (v_ro (300 + (6 * k4_3)).toNatClampNeg) (v_ro ((300 + (6 * k4_3)) + 1).toNatClampNeg) (v_ro ((300 + (6 * k4_3)) + 2).toNatClampNeg) p_1 u_wo k4_va k4_su u_st v_ro k4_se k4_re k4_pt h_u_td h_u_fr h_u_to h_u_bd h_u_nc h_u_co h_u_pd i_2 i_3 i_4 i_5 i_6 i_7 i_8 h_u_ic h_u_id ⟨by omega, by omega⟩ ⟨by omega, by omega⟩ ⟨by omega, by omega⟩ (r_ro) (i_9)) (cwV 4 hts gV_X12_401 rfl rfl rfl hv_X12_go ⟨Nat.le_of_ble_eq_true rfl, Nat.le_of_ble_eq_true rfl⟩) (g5_preV hPc hK hDc hN hT hS hFc (ci := 12) (q0 := 0) rfl rfl) rfl rfl hl.1 rfl (lv_room (Nat.le_of_ble_eq_true rfl)) dX12_lacking_52 ⟨Nat.le_of_ble_eq_true rfl, Nat.le_of_ble_eq_true rfl⟩) hS (fun q _ h => hFc q h) hFc (fun u t H locs ht hvm hw hB hz1 hk1 hS => ?_)
    obtain ⟨hP1, hD1⟩ := hB
    have hP1 := g5_ht ht hP1
    obtain ⟨z28, z29, z30, z31, z32, z33, z34, z35, z36, z37, z38, z39, z40, z41, (i_20 : 0 ≤ z28.toInt ∧ z28.toInt ≤ 4840), (i_21 : 0 ≤ z29.toInt ∧ z29.toInt ≤ 1), (i_22 : 0 ≤ z32.toInt ∧ z32.toInt ≤ 63), (i_23 : 0 ≤ z33.toInt ∧ z33.toInt ≤ 23), (i_24 : 0 ≤ z34.toInt ∧ z34.toInt ≤ 3), (i_25 : 0 ≤ z35.toInt ∧ z35.toInt ≤ 1000000), (i_26 : 0 ≤ z36.toInt ∧ z36.toInt ≤ 200), (i_27 : PTI z41), rfl⟩ := hw
    have hJ9 := va_join (wr := []) hP hD [0, 1, 2, 3, 4] [] rfl rfl (by decide +kernel) (by decide +kernel) hk1 hFc hP1 hD1
    clear hP hD hPc hDc hFc ht hvm hz1 hk1 hP1 hD1
    obtain ⟨hP, hD⟩ := hJ9
    refine g5_rs [(b_o, (oc12 u_th u_sa b_rf b_ro b_im b_ke u_fd b_tp u_td u_fr u_to u_so u_wo u_fa u_bd u_nc b_nl u_co b_op b_ar u_le b_pi b_pa u_pd u_od b_ws b_hw z28 b_se b_re z29 z30 z31 z32 z33 z34 z35 z36 b_pt z37 z38 b_ip u_ic b_ah b_be b_me u_wd b_tr b_ld u_st b_wn u_id)), (b_ro, (arI G 5740 v_ro)), (b_se, (arJ G 13 z39)), (b_re, (arJ G 400 z40)), (b_pt, (arI G 200 z41))] hP hD ?_
    clear hP hD
    intro hP hD
    refine lv_iconst (v := 0) hx hb dX12_lacking_55 (by decide +kernel) ?_
    refine lv_istore (lv' := [(5, .int 0), (4, .int (300 + (6 * k4_3))), (2, .int k4_2), (3, .int k4_3), (0, .ref b_o), (1, .int p_1)]) hx hb dX12_lacking_56 hl (by decide +kernel) rfl ?_
    clear hl
    intro ls hl
    refine lv_iconst (v := 0) hx hb dX12_lacking_58 (by decide +kernel) ?_
    refine lv_istore (lv' := [(6, .int 0), (5, .int 0), (4, .int (300 + (6 * k4_3))), (2, .int k4_2), (3, .int k4_3), (0, .ref b_o), (1, .int p_1)]) hx hb dX12_lacking_59 hl (by decide +kernel) rfl ?_
    clear hl
    intro ls hl
    refine g5_loop (α := (Int32) × (Int32)) (fun (q : (Int32) × (Int32)) (ls : Array Slot) (H : Heap) (locs : List Loc) => match q with | (k61_6, k61_5) => lv_has ls 7 [(5, .int k61_5), (6, .int k61_6), (4, .int (300 + (6 * k4_3))), (2, .int k4_2), (3, .int k4_3), (0, .ref b_o), (1, .int p_1)] ∧ va_P G.1 vwCl [(b_o, (oc12 u_th u_sa b_rf b_ro b_im b_ke u_fd b_tp u_td u_fr u_to u_so u_wo u_fa u_bd u_nc b_nl u_co b_op b_ar u_le b_pi b_pa u_pd u_od b_ws b_hw z28 b_se b_re z29 z30 z31 z32 z33 z34 z35 z36 b_pt z37 z38 b_ip u_ic b_ah b_be b_me u_wd b_tr b_ld u_st b_wn u_id)), (b_ro, (arI G 5740 v_ro)), (b_se, (arJ G 13 z39)), (b_re, (arJ G 400 z40)), (b_pt, (arI G 200 z41))] H ∧ va_D A [(b_o, (oc12 u_th u_sa b_rf b_ro b_im b_ke u_fd b_tp u_td u_fr u_to u_so u_wo u_fa u_bd u_nc b_nl u_co b_op b_ar u_le b_pi b_pa u_pd u_od b_ws b_hw z28 b_se b_re z29 z30 z31 z32 z33 z34 z35 z36 b_pt z37 z38 b_ip u_ic b_ah b_be b_me u_wd b_tr b_ld u_st b_wn u_id)), (b_ro, (arI G 5740 v_ro)), (b_se, (arJ G 13 z39)), (b_re, (arJ G 400 z40)), (b_pt, (arI G 200 z41))] ∧ va_S A s.heap H locs ∧ (0 ≤ k61_6.toInt ∧ k61_6.toInt ≤ 200)) (fun (q : (Int32) × (Int32)) => match q with | (k61_6, k61_5) => Int.toNat (200 - k61_6.toInt)) (0, 0) ⟨lv_sub hl [1, 0, 2, 3, 4, 5, 6] rfl, hP, hD, hS, ⟨by decide, by decide⟩⟩ ?_
    rintro ⟨k61_6, k61_5⟩ ls H locs ⟨hl, hP, hD, hS, (i_42 : 0 ≤ k61_6.toInt ∧ k61_6.toInt ≤ 200)⟩ ih_61_43
    replace hl : lv_has ls 7 [(5, .int k61_5), (6, .int k61_6), (4, .int (300 + (6 * k4_3))), (2, .int k4_2), (3, .int k4_3), (0, .ref b_o), (1, .int p_1)] := hl
    refine g5_rs [(b_o, (oc12 u_th u_sa b_rf b_ro b_im b_ke u_fd b_tp u_td u_fr u_to u_so u_wo u_fa u_bd u_nc b_nl u_co b_op b_ar u_le b_pi b_pa u_pd u_od b_ws b_hw z28 b_se b_re z29 z30 z31 z32 z33 z34 z35 z36 b_pt z37 z38 b_ip u_ic b_ah b_be b_me u_wd b_tr b_ld u_st b_wn u_id)), (b_ro, (arI G 5740 v_ro)), (b_se, (arJ G 13 z39)), (b_re, (arJ G 400 z40)), (b_pt, (arI G 200 z41))] hP hD ?_
    clear hP hD
    intro hP hD
    refine lv_iload hx hb dX12_lacking_61 (lv_at hl 1 rfl) ?_
    refine lv_aload_n hx hb dX12_lacking_63 rfl (lv_at hl 5 rfl) ?_
    refine va_get (D := G.1) (ci := 12) (v := .int z36) (C := RX12) (T := TX12) (N := 52) hx hb hts inG_X12 hown hK hP 0 rfl rfl 37 (by decide +kernel) (hts _ fl_X12_358) (fun _ h9 => h9) rfl dX12_lacking_64 ?_
    refine lv_icmp_ge (tgt := 116) hx hb dX12_lacking_67 (by decide +kernel) (fun c_44 => ?_) (fun c_44 => ?_)
    ·
      have i_44 : k61_6.toInt ≥ z36.toInt := g5_ge (a := k61_6.toInt) (b := z36.toInt) rfl rfl c_44
      refine lv_iload_n hx hb dX12_lacking_116 rfl (lv_at hl 3 rfl) ?_
      refine lv_iload hx hb dX12_lacking_117 (lv_at hl 0 rfl) ?_
      refine lv_aload_n hx hb dX12_lacking_119 rfl (lv_at hl 5 rfl) ?_
      refine va_get (D := G.1) (ci := 12) (v := .ref b_ro) (C := RX12) (T := TX12) (N := 52) hx hb hts inG_X12 hown hK hP 0 rfl rfl 3 (by decide +kernel) (hts _ fl_X12_13) (fun _ h9 => h9) rfl dX12_lacking_120 ?_
      refine W.eq (g2 := F0 m 123 ls [.ref b_ro, .int k61_5, .int k4_2]) rfl ?_
      refine lv_iload hx hb dX12_lacking_123 (lv_at hl 2 rfl) ?_
      refine lv_iconst (v := 5) hx hb dX12_lacking_125 (by decide +kernel) ?_
      refine lv_iadd hx hb dX12_lacking_126 ?_
      have t_45 : ((300 + (6 * k4_3)) + 5).toInt = (300 + (6 * k4_3)).toInt + 5 := g5_iadd (a := (300 + (6 * k4_3)).toInt) (b := 5) (by rfl) (by decide +kernel) (by omega) (by omega)
      refine va_iald hx hb hK hP 1 0 rfl rfl (i := ((300 + (6 * k4_3)) + 5)) (vp_in_iff.mpr ⟨by omega, by omega⟩) dX12_lacking_127 ?_
      refine lv_icmp_eq (tgt := 137) hx hb dX12_lacking_128 (by decide +kernel) (fun c_46 => ?_) (fun c_46 => ?_)
      ·
        have i_46 : k61_5.toInt = (v_ro ((300 + (6 * k4_3)) + 5).toNatClampNeg).toInt := g5_eq (a := k61_5.toInt) (b := (v_ro ((300 + (6 * k4_3)) + 5).toNatClampNeg).toInt) rfl rfl c_46
        refine lv_iconst (v := 0) hx hb dX12_lacking_137 (by decide +kernel) ?_
        refine lv_ior hx hb dX12_lacking_138 ?_
        refine g5_ti (v := k4_2) (by simp) ?_
        refine lv_istore_n (lv' := [(2, .int k4_2), (5, .int k61_5), (6, .int k61_6), (4, .int (300 + (6 * k4_3))), (3, .int k4_3), (0, .ref b_o), (1, .int p_1)]) hx hb dX12_lacking_139 rfl hl (by decide +kernel) rfl ?_
        clear hl
        intro ls hl
        refine lv_iinc (v := (k4_3 + 1)) (lv' := [(3, .int (k4_3 + 1)), (2, .int k4_2), (5, .int k61_5), (6, .int k61_6), (4, .int (300 + (6 * k4_3))), (0, .ref b_o), (1, .int p_1)]) hx hb dX12_lacking_140 hl (k := 4) rfl rfl (by decide +kernel) rfl ?_
        clear hl
        intro ls hl
        have t_47 : (k4_3 + 1).toInt = k4_3.toInt + 1 := g5_iadd (a := k4_3.toInt) (b := 1) rfl (by decide +kernel) (by omega) (by omega)
        refine W.eq (g2 := F0 m 143 ls []) rfl ?_
        refine lv_goto (tgt := 4) hx hb dX12_lacking_143 (by decide +kernel) ?_
        exact ih_4_10 ((k4_3 + 1), k4_2, z28, z29, z30, z31, z32, z33, z34, z35, z36, z37, z38, z39, z40, z41) ls H locs (show Int.toNat (6 - (k4_3 + 1).toInt) < Int.toNat (6 - k4_3.toInt) from g_up (show k4_3.toInt < (k4_3 + 1).toInt by omega) (show k4_3.toInt < 6 by omega)) ⟨lv_sub hl [1, 0, 5, 6] rfl, hP, hD, hS, ⟨by omega, by omega⟩, i_20, i_21, i_22, i_23, i_24, i_25, i_26, i_27⟩
      ·
        have n_46 : gNe (k61_5.toInt) ((v_ro ((300 + (6 * k4_3)) + 5).toNatClampNeg).toInt) := g5_eqN (a := k61_5.toInt) (b := (v_ro ((300 + (6 * k4_3)) + 5).toNatClampNeg).toInt) rfl rfl c_46
        refine lv_iconst (v := 1) hx hb dX12_lacking_131 (by decide +kernel) ?_
        refine lv_iload_n hx hb dX12_lacking_132 rfl (lv_at hl 4 rfl) ?_
        refine lv_ishl hx hb dX12_lacking_133 ?_
        refine lv_goto (tgt := 138) hx hb dX12_lacking_134 (by decide +kernel) ?_
        refine W.eq (g2 := F0 m 138 ls [.int (1 <<< (k4_3 &&& 31)), .int k4_2]) rfl ?_
        refine lv_ior hx hb dX12_lacking_138 ?_
        refine lv_istore_n (lv' := [(2, .int (k4_2 ||| (1 <<< (k4_3 &&& 31)))), (5, .int k61_5), (6, .int k61_6), (4, .int (300 + (6 * k4_3))), (3, .int k4_3), (0, .ref b_o), (1, .int p_1)]) hx hb dX12_lacking_139 rfl hl (by decide +kernel) rfl ?_
        clear hl
        intro ls hl
        refine lv_iinc (v := (k4_3 + 1)) (lv' := [(3, .int (k4_3 + 1)), (2, .int (k4_2 ||| (1 <<< (k4_3 &&& 31)))), (5, .int k61_5), (6, .int k61_6), (4, .int (300 + (6 * k4_3))), (0, .ref b_o), (1, .int p_1)]) hx hb dX12_lacking_140 hl (k := 4) rfl rfl (by decide +kernel) rfl ?_
        clear hl
        intro ls hl
        have t_48 : (k4_3 + 1).toInt = k4_3.toInt + 1 := g5_iadd (a := k4_3.toInt) (b := 1) rfl (by decide +kernel) (by omega) (by omega)
        refine lv_goto (tgt := 4) hx hb dX12_lacking_143 (by decide +kernel) ?_
        exact ih_4_10 ((k4_3 + 1), (k4_2 ||| (1 <<< (k4_3 &&& 31))), z28, z29, z30, z31, z32, z33, z34, z35, z36, z37, z38, z39, z40, z41) ls H locs (show Int.toNat (6 - (k4_3 + 1).toInt) < Int.toNat (6 - k4_3.toInt) from g_up (show k4_3.toInt < (k4_3 + 1).toInt by omega) (show k4_3.toInt < 6 by omega)) ⟨lv_sub hl [1, 0, 5, 6] rfl, hP, hD, hS, ⟨by omega, by omega⟩, i_20, i_21, i_22, i_23, i_24, i_25, i_26, i_27⟩
    ·
      have i_44 : k61_6.toInt < z36.toInt := g5_geN (a := k61_6.toInt) (b := z36.toInt) rfl rfl c_44
      refine lv_aload_n hx hb dX12_lacking_70 rfl (lv_at hl 5 rfl) ?_
      refine va_get (D := G.1) (ci := 12) (v := .ref b_pt) (C := RX12) (T := TX12) (N := 52) hx hb hts inG_X12 hown hK hP 0 rfl rfl 38 (by decide +kernel) (hts _ fl_X12_82) (fun _ h9 => h9) rfl dX12_lacking_71 ?_
      refine lv_iload hx hb dX12_lacking_74 (lv_at hl 1 rfl) ?_
      refine va_iald hx hb hK hP 4 0 rfl rfl (i := k61_6) (vp_in_iff.mpr ⟨by omega, by omega⟩) dX12_lacking_76 ?_
      have hr_49 : 0 ≤ (z41 k61_6.toNatClampNeg).toInt ∧ (z41 k61_6.toNatClampNeg).toInt ≤ 1535 := i_27 (k61_6.toNatClampNeg)
      refine W.eq (g2 := F0 m 77 ls [.int (z41 k61_6.toNatClampNeg)]) rfl ?_
      refine lv_bipush (v := 64) hx hb dX12_lacking_77 (by decide +kernel) ?_
      refine lv_aload_n hx hb dX12_lacking_79 rfl (lv_at hl 5 rfl) ?_
      refine va_get (D := G.1) (ci := 12) (v := .ref b_ro) (C := RX12) (T := TX12) (N := 52) hx hb hts inG_X12 hown hK hP 0 rfl rfl 3 (by decide +kernel) (hts _ fl_X12_13) (fun _ h9 => h9) rfl dX12_lacking_80 ?_
      refine lv_iload hx hb dX12_lacking_83 (lv_at hl 2 rfl) ?_
      refine lv_iconst (v := 4) hx hb dX12_lacking_85 (by decide +kernel) ?_
      refine W.eq (g2 := F0 m 86 ls [.int 4, .int (300 + (6 * k4_3)), .ref b_ro, .int 64, .int (z41 k61_6.toNatClampNeg)]) rfl ?_
      refine lv_iadd hx hb dX12_lacking_86 ?_
      have t_50 : ((300 + (6 * k4_3)) + 4).toInt = (300 + (6 * k4_3)).toInt + 4 := g5_iadd (a := (300 + (6 * k4_3)).toInt) (b := 4) (by rfl) (by decide +kernel) (by omega) (by omega)
      refine va_iald hx hb hK hP 1 0 rfl rfl (i := ((300 + (6 * k4_3)) + 4)) (vp_in_iff.mpr ⟨by omega, by omega⟩) dX12_lacking_87 ?_
      refine lv_imul hx hb dX12_lacking_88 ?_
      refine lv_aload_n hx hb dX12_lacking_89 rfl (lv_at hl 5 rfl) ?_
      refine va_get (D := G.1) (ci := 12) (v := .ref b_ro) (C := RX12) (T := TX12) (N := 52) hx hb hts inG_X12 hown hK hP 0 rfl rfl 3 (by decide +kernel) (hts _ fl_X12_13) (fun _ h9 => h9) rfl dX12_lacking_90 ?_
      refine W.eq (g2 := F0 m 93 ls [.ref b_ro, .int (64 * (v_ro ((300 + (6 * k4_3)) + 4).toNatClampNeg)), .int (z41 k61_6.toNatClampNeg)]) rfl ?_
      refine lv_iload hx hb dX12_lacking_93 (lv_at hl 2 rfl) ?_
      refine lv_iconst (v := 3) hx hb dX12_lacking_95 (by decide +kernel) ?_
      refine lv_iadd hx hb dX12_lacking_96 ?_
      have t_51 : ((300 + (6 * k4_3)) + 3).toInt = (300 + (6 * k4_3)).toInt + 3 := g5_iadd (a := (300 + (6 * k4_3)).toInt) (b := 3) (by rfl) (by decide +kernel) (by omega) (by omega)
      refine va_iald hx hb hK hP 1 0 rfl rfl (i := ((300 + (6 * k4_3)) + 3)) (vp_in_iff.mpr ⟨by omega, by omega⟩) dX12_lacking_97 ?_
      refine lv_iadd hx hb dX12_lacking_98 ?_
      refine W.eq (g2 := F0 m 99 ls [.int ((64 * (v_ro ((300 + (6 * k4_3)) + 4).toNatClampNeg)) + (v_ro ((300 + (6 * k4_3)) + 3).toNatClampNeg)), .int (z41 k61_6.toNatClampNeg)]) rfl ?_
      refine lv_icmp_ne (tgt := 106) hx hb dX12_lacking_99 (by decide +kernel) (fun c_52 => ?_) (fun c_52 => ?_)
      ·
        have n_52 : gNe ((z41 k61_6.toNatClampNeg).toInt) (((64 * (v_ro ((300 + (6 * k4_3)) + 4).toNatClampNeg)) + (v_ro ((300 + (6 * k4_3)) + 3).toNatClampNeg)).toInt) := g5_ne (a := (z41 k61_6.toNatClampNeg).toInt) (b := ((64 * (v_ro ((300 + (6 * k4_3)) + 4).toNatClampNeg)) + (v_ro ((300 + (6 * k4_3)) + 3).toNatClampNeg)).toInt) rfl rfl c_52
        refine lv_iload hx hb dX12_lacking_106 (lv_at hl 0 rfl) ?_
        refine lv_istore (lv' := [(5, .int k61_5), (6, .int k61_6), (4, .int (300 + (6 * k4_3))), (2, .int k4_2), (3, .int k4_3), (0, .ref b_o), (1, .int p_1)]) hx hb dX12_lacking_108 hl (by decide +kernel) rfl ?_
        clear hl
        intro ls hl
        refine lv_iinc (v := (k61_6 + 1)) (lv' := [(6, .int (k61_6 + 1)), (5, .int k61_5), (4, .int (300 + (6 * k4_3))), (2, .int k4_2), (3, .int k4_3), (0, .ref b_o), (1, .int p_1)]) hx hb dX12_lacking_110 hl (k := 1) rfl rfl (by decide +kernel) rfl ?_
        clear hl
        intro ls hl
        have t_53 : (k61_6 + 1).toInt = k61_6.toInt + 1 := g5_iadd (a := k61_6.toInt) (b := 1) rfl (by decide +kernel) (by omega) (by omega)
        refine lv_goto (tgt := 61) hx hb dX12_lacking_113 (by decide +kernel) ?_
        exact ih_61_43 ((k61_6 + 1), k61_5) ls H locs (show Int.toNat (200 - (k61_6 + 1).toInt) < Int.toNat (200 - k61_6.toInt) from g_up (show k61_6.toInt < (k61_6 + 1).toInt by omega) (show k61_6.toInt < 200 by omega)) ⟨lv_sub hl [1, 0, 2, 3, 4, 5, 6] rfl, hP, hD, hS, ⟨by omega, by omega⟩⟩
      ·
        have i_52 : (z41 k61_6.toNatClampNeg).toInt = ((64 * (v_ro ((300 + (6 * k4_3)) + 4).toNatClampNeg)) + (v_ro ((300 + (6 * k4_3)) + 3).toNatClampNeg)).toInt := g5_neN (a := (z41 k61_6.toNatClampNeg).toInt) (b := ((64 * (v_ro ((300 + (6 * k4_3)) + 4).toNatClampNeg)) + (v_ro ((300 + (6 * k4_3)) + 3).toNatClampNeg)).toInt) rfl rfl c_52
        refine lv_iconst (v := 1) hx hb dX12_lacking_102 (by decide +kernel) ?_
        refine lv_goto (tgt := 108) hx hb dX12_lacking_103 (by decide +kernel) ?_
        refine lv_istore (lv' := [(5, .int 1), (6, .int k61_6), (4, .int (300 + (6 * k4_3))), (2, .int k4_2), (3, .int k4_3), (0, .ref b_o), (1, .int p_1)]) hx hb dX12_lacking_108 hl (by decide +kernel) rfl ?_
        clear hl
        intro ls hl
        refine lv_iinc (v := (k61_6 + 1)) (lv' := [(6, .int (k61_6 + 1)), (5, .int 1), (4, .int (300 + (6 * k4_3))), (2, .int k4_2), (3, .int k4_3), (0, .ref b_o), (1, .int p_1)]) hx hb dX12_lacking_110 hl (k := 1) rfl rfl (by decide +kernel) rfl ?_
        clear hl
        intro ls hl
        have t_54 : (k61_6 + 1).toInt = k61_6.toInt + 1 := g5_iadd (a := k61_6.toInt) (b := 1) rfl (by decide +kernel) (by omega) (by omega)
        refine W.eq (g2 := F0 m 113 ls []) rfl ?_
        refine lv_goto (tgt := 61) hx hb dX12_lacking_113 (by decide +kernel) ?_
        exact ih_61_43 ((k61_6 + 1), 1) ls H locs (show Int.toNat (200 - (k61_6 + 1).toInt) < Int.toNat (200 - k61_6.toInt) from g_up (show k61_6.toInt < (k61_6 + 1).toInt by omega) (show k61_6.toInt < 200 by omega)) ⟨lv_sub hl [1, 0, 2, 3, 4, 5, 6] rfl, hP, hD, hS, ⟨by omega, by omega⟩⟩
theorem dgX12_areSpots_0 : ∀ r ∈ ([(0, (.iload_n 1, 1)), (1, (.i2l, 1)), (2, (.lconst 0, 1)), (3, (.iconst 1, 1)), (4, (.aload_n 0, 1)), (5, (.getfield 13, 3)), (8, (.bipush 7, 2)), (10, (.iaload, 1)), (11, (.ishl, 1)), (12, (.i2l, 1)), (13, (.lconst 1, 1)), (14, (.lsub, 1)), (15, (.invokestatic 121, 3)), (18, (.ireturn, 1))] : List (Nat × (Instr × Nat))), decode cX12_areSpots r.1 = .ok r.2 := by decide +kernel
theorem dX12_areSpots_0 : decode cX12_areSpots 0 = .ok (.iload_n 1, 1) := dgX12_areSpots_0 (0, (.iload_n 1, 1)) (List.mem_of_getElem? (i := 0) rfl)
theorem dX12_areSpots_1 : decode cX12_areSpots 1 = .ok (.i2l, 1) := dgX12_areSpots_0 (1, (.i2l, 1)) (List.mem_of_getElem? (i := 1) rfl)
theorem dX12_areSpots_2 : decode cX12_areSpots 2 = .ok (.lconst 0, 1) := dgX12_areSpots_0 (2, (.lconst 0, 1)) (List.mem_of_getElem? (i := 2) rfl)
theorem dX12_areSpots_3 : decode cX12_areSpots 3 = .ok (.iconst 1, 1) := dgX12_areSpots_0 (3, (.iconst 1, 1)) (List.mem_of_getElem? (i := 3) rfl)
theorem dX12_areSpots_4 : decode cX12_areSpots 4 = .ok (.aload_n 0, 1) := dgX12_areSpots_0 (4, (.aload_n 0, 1)) (List.mem_of_getElem? (i := 4) rfl)
theorem dX12_areSpots_5 : decode cX12_areSpots 5 = .ok (.getfield 13, 3) := dgX12_areSpots_0 (5, (.getfield 13, 3)) (List.mem_of_getElem? (i := 5) rfl)
theorem dX12_areSpots_8 : decode cX12_areSpots 8 = .ok (.bipush 7, 2) := dgX12_areSpots_0 (8, (.bipush 7, 2)) (List.mem_of_getElem? (i := 6) rfl)
theorem dX12_areSpots_10 : decode cX12_areSpots 10 = .ok (.iaload, 1) := dgX12_areSpots_0 (10, (.iaload, 1)) (List.mem_of_getElem? (i := 7) rfl)
theorem dX12_areSpots_11 : decode cX12_areSpots 11 = .ok (.ishl, 1) := dgX12_areSpots_0 (11, (.ishl, 1)) (List.mem_of_getElem? (i := 8) rfl)
theorem dX12_areSpots_12 : decode cX12_areSpots 12 = .ok (.i2l, 1) := dgX12_areSpots_0 (12, (.i2l, 1)) (List.mem_of_getElem? (i := 9) rfl)
theorem dX12_areSpots_13 : decode cX12_areSpots 13 = .ok (.lconst 1, 1) := dgX12_areSpots_0 (13, (.lconst 1, 1)) (List.mem_of_getElem? (i := 10) rfl)
theorem dX12_areSpots_14 : decode cX12_areSpots 14 = .ok (.lsub, 1) := dgX12_areSpots_0 (14, (.lsub, 1)) (List.mem_of_getElem? (i := 11) rfl)
theorem dX12_areSpots_15 : decode cX12_areSpots 15 = .ok (.invokestatic 121, 3) := dgX12_areSpots_0 (15, (.invokestatic 121, 3)) (List.mem_of_getElem? (i := 12) rfl)
theorem dX12_areSpots_18 : decode cX12_areSpots 18 = .ok (.ireturn, 1) := dgX12_areSpots_0 (18, (.ireturn, 1)) (List.mem_of_getElem? (i := 13) rfl)
theorem dgX12_lacks_0 : ∀ r ∈ ([(0, (.aload_n 0, 1)), (1, (.iconst 0, 1)), (2, (.putfield 107, 3)), (5, (.aload_n 0, 1)), (6, (.iload_n 1, 1)), (7, (.invokevirtual 457, 3)), (10, (.ifCond .eq 11, 3)), (13, (.aload_n 0, 1)), (14, (.iload_n 1, 1)), (15, (.invokevirtual 460, 3)), (18, (.goto 4, 3)), (21, (.iconst (-1), 1)), (22, (.ireturn, 1))] : List (Nat × (Instr × Nat))), decode cX12_lacks r.1 = .ok r.2 := by decide +kernel
theorem dX12_lacks_0 : decode cX12_lacks 0 = .ok (.aload_n 0, 1) := dgX12_lacks_0 (0, (.aload_n 0, 1)) (List.mem_of_getElem? (i := 0) rfl)
theorem dX12_lacks_1 : decode cX12_lacks 1 = .ok (.iconst 0, 1) := dgX12_lacks_0 (1, (.iconst 0, 1)) (List.mem_of_getElem? (i := 1) rfl)
theorem dX12_lacks_2 : decode cX12_lacks 2 = .ok (.putfield 107, 3) := dgX12_lacks_0 (2, (.putfield 107, 3)) (List.mem_of_getElem? (i := 2) rfl)
theorem dX12_lacks_5 : decode cX12_lacks 5 = .ok (.aload_n 0, 1) := dgX12_lacks_0 (5, (.aload_n 0, 1)) (List.mem_of_getElem? (i := 3) rfl)
theorem dX12_lacks_6 : decode cX12_lacks 6 = .ok (.iload_n 1, 1) := dgX12_lacks_0 (6, (.iload_n 1, 1)) (List.mem_of_getElem? (i := 4) rfl)
theorem dX12_lacks_7 : decode cX12_lacks 7 = .ok (.invokevirtual 457, 3) := dgX12_lacks_0 (7, (.invokevirtual 457, 3)) (List.mem_of_getElem? (i := 5) rfl)
theorem dX12_lacks_10 : decode cX12_lacks 10 = .ok (.ifCond .eq 11, 3) := dgX12_lacks_0 (10, (.ifCond .eq 11, 3)) (List.mem_of_getElem? (i := 6) rfl)
theorem dX12_lacks_13 : decode cX12_lacks 13 = .ok (.aload_n 0, 1) := dgX12_lacks_0 (13, (.aload_n 0, 1)) (List.mem_of_getElem? (i := 7) rfl)
theorem dX12_lacks_14 : decode cX12_lacks 14 = .ok (.iload_n 1, 1) := dgX12_lacks_0 (14, (.iload_n 1, 1)) (List.mem_of_getElem? (i := 8) rfl)
theorem dX12_lacks_15 : decode cX12_lacks 15 = .ok (.invokevirtual 460, 3) := dgX12_lacks_0 (15, (.invokevirtual 460, 3)) (List.mem_of_getElem? (i := 9) rfl)
theorem dX12_lacks_18 : decode cX12_lacks 18 = .ok (.goto 4, 3) := dgX12_lacks_0 (18, (.goto 4, 3)) (List.mem_of_getElem? (i := 10) rfl)
theorem dX12_lacks_21 : decode cX12_lacks 21 = .ok (.iconst (-1), 1) := dgX12_lacks_0 (21, (.iconst (-1), 1)) (List.mem_of_getElem? (i := 11) rfl)
theorem dX12_lacks_22 : decode cX12_lacks 22 = .ok (.ireturn, 1) := dgX12_lacks_0 (22, (.ireturn, 1)) (List.mem_of_getElem? (i := 12) rfl)
theorem ml_X12_457 : Cond.methodLink RX12 457 yX12_areSpots ∈ tblG := tg 1783 (by decide +kernel) (by decide +kernel)
theorem im_X12_areSpots : Cond.instanceMethod yX12_areSpots ∈ tblG := tg 1785 (by decide +kernel) (by decide +kernel)
theorem se_X12_areSpots : Cond.selects RX12 yX12_areSpots yX12_areSpots ∈ tblG := tg 84 (by decide +kernel) (by decide +kernel)
theorem cd_X12_areSpots : Cond.code yX12_areSpots cX12_areSpots 2 (some .boolean) ∈ tblG := tg 1786 (by decide +kernel) (by decide +kernel)
theorem gW_X12_areSpots : GoodIn tblG (wsG yX12_areSpots cX12_areSpots 2 (some .boolean)) := tgi cd_X12_areSpots
theorem gV_X12_457 : GoodIn tblG (wsV RX12 457 RX12 yX12_areSpots (wsG yX12_areSpots cX12_areSpots 2 (some .boolean))) := tgV ml_X12_457 im_X12_areSpots se_X12_areSpots ini_X12 gW_X12_areSpots
theorem hv_X12_areSpots : yX12_areSpots.cls = RX12 ∧ yX12_areSpots.cls ≠ "java/lang/invoke/MethodHandle" ∧ yX12_areSpots.cls ≠ "java/lang/invoke/VarHandle" ∧ (parseMethodDescriptor yX12_areSpots.desc).map (fun d => d.parameters.length) = some 1 := by decide +kernel
theorem ml_X12_460 : Cond.methodLink RX12 460 yX12_lacking ∈ tblG := tg 1787 (by decide +kernel) (by decide +kernel)
theorem im_X12_lacking : Cond.instanceMethod yX12_lacking ∈ tblG := tg 1789 (by decide +kernel) (by decide +kernel)
theorem se_X12_lacking : Cond.selects RX12 yX12_lacking yX12_lacking ∈ tblG := tg 85 (by decide +kernel) (by decide +kernel)
theorem cd_X12_lacking : Cond.code yX12_lacking cX12_lacking 7 (some .int) ∈ tblG := tg 1790 (by decide +kernel) (by decide +kernel)
theorem gW_X12_lacking : GoodIn tblG (wsG yX12_lacking cX12_lacking 7 (some .int)) := tgi cd_X12_lacking
theorem gV_X12_460 : GoodIn tblG (wsV RX12 460 RX12 yX12_lacking (wsG yX12_lacking cX12_lacking 7 (some .int))) := tgV ml_X12_460 im_X12_lacking se_X12_lacking ini_X12 gW_X12_lacking
theorem hv_X12_lacking : yX12_lacking.cls = RX12 ∧ yX12_lacking.cls ≠ "java/lang/invoke/MethodHandle" ∧ yX12_lacking.cls ≠ "java/lang/invoke/VarHandle" ∧ (parseMethodDescriptor yX12_lacking.desc).map (fun d => d.parameters.length) = some 1 := by decide +kernel
theorem dgX12_bits_0 : ∀ r ∈ ([(0, (.iconst 0, 1)), (1, (.istore_n 1, 1)), (2, (.iconst 0, 1)), (3, (.istore_n 2, 1)), (4, (.iload_n 2, 1)), (5, (.bipush 8, 2)), (7, (.if_icmp .ge 17, 3)), (10, (.iload_n 1, 1)), (11, (.iload_n 0, 1)), (12, (.iload_n 2, 1)), (13, (.ishr, 1)), (14, (.iconst 1, 1)), (15, (.iand, 1)), (16, (.iadd, 1)), (17, (.istore_n 1, 1)), (18, (.iinc 2 1, 3)), (21, (.goto (-17), 3)), (24, (.iload_n 1, 1)), (25, (.ireturn, 1))] : List (Nat × (Instr × Nat))), decode cX12_bits r.1 = .ok r.2 := by decide +kernel
theorem dX12_bits_0 : decode cX12_bits 0 = .ok (.iconst 0, 1) := dgX12_bits_0 (0, (.iconst 0, 1)) (List.mem_of_getElem? (i := 0) rfl)
theorem dX12_bits_1 : decode cX12_bits 1 = .ok (.istore_n 1, 1) := dgX12_bits_0 (1, (.istore_n 1, 1)) (List.mem_of_getElem? (i := 1) rfl)
theorem dX12_bits_2 : decode cX12_bits 2 = .ok (.iconst 0, 1) := dgX12_bits_0 (2, (.iconst 0, 1)) (List.mem_of_getElem? (i := 2) rfl)
theorem dX12_bits_3 : decode cX12_bits 3 = .ok (.istore_n 2, 1) := dgX12_bits_0 (3, (.istore_n 2, 1)) (List.mem_of_getElem? (i := 3) rfl)
theorem dX12_bits_4 : decode cX12_bits 4 = .ok (.iload_n 2, 1) := dgX12_bits_0 (4, (.iload_n 2, 1)) (List.mem_of_getElem? (i := 4) rfl)
theorem dX12_bits_5 : decode cX12_bits 5 = .ok (.bipush 8, 2) := dgX12_bits_0 (5, (.bipush 8, 2)) (List.mem_of_getElem? (i := 5) rfl)
theorem dX12_bits_7 : decode cX12_bits 7 = .ok (.if_icmp .ge 17, 3) := dgX12_bits_0 (7, (.if_icmp .ge 17, 3)) (List.mem_of_getElem? (i := 6) rfl)
theorem dX12_bits_10 : decode cX12_bits 10 = .ok (.iload_n 1, 1) := dgX12_bits_0 (10, (.iload_n 1, 1)) (List.mem_of_getElem? (i := 7) rfl)
theorem dX12_bits_11 : decode cX12_bits 11 = .ok (.iload_n 0, 1) := dgX12_bits_0 (11, (.iload_n 0, 1)) (List.mem_of_getElem? (i := 8) rfl)
theorem dX12_bits_12 : decode cX12_bits 12 = .ok (.iload_n 2, 1) := dgX12_bits_0 (12, (.iload_n 2, 1)) (List.mem_of_getElem? (i := 9) rfl)
theorem dX12_bits_13 : decode cX12_bits 13 = .ok (.ishr, 1) := dgX12_bits_0 (13, (.ishr, 1)) (List.mem_of_getElem? (i := 10) rfl)
theorem dX12_bits_14 : decode cX12_bits 14 = .ok (.iconst 1, 1) := dgX12_bits_0 (14, (.iconst 1, 1)) (List.mem_of_getElem? (i := 11) rfl)
theorem dX12_bits_15 : decode cX12_bits 15 = .ok (.iand, 1) := dgX12_bits_0 (15, (.iand, 1)) (List.mem_of_getElem? (i := 12) rfl)
theorem dX12_bits_16 : decode cX12_bits 16 = .ok (.iadd, 1) := dgX12_bits_0 (16, (.iadd, 1)) (List.mem_of_getElem? (i := 13) rfl)
theorem dX12_bits_17 : decode cX12_bits 17 = .ok (.istore_n 1, 1) := dgX12_bits_0 (17, (.istore_n 1, 1)) (List.mem_of_getElem? (i := 14) rfl)
theorem dX12_bits_18 : decode cX12_bits 18 = .ok (.iinc 2 1, 3) := dgX12_bits_0 (18, (.iinc 2 1, 3)) (List.mem_of_getElem? (i := 15) rfl)
theorem dX12_bits_21 : decode cX12_bits 21 = .ok (.goto (-17), 3) := dgX12_bits_0 (21, (.goto (-17), 3)) (List.mem_of_getElem? (i := 16) rfl)
theorem dX12_bits_24 : decode cX12_bits 24 = .ok (.iload_n 1, 1) := dgX12_bits_0 (24, (.iload_n 1, 1)) (List.mem_of_getElem? (i := 17) rfl)
theorem dX12_bits_25 : decode cX12_bits 25 = .ok (.ireturn, 1) := dgX12_bits_0 (25, (.ireturn, 1)) (List.mem_of_getElem? (i := 18) rfl)
set_option maxHeartbeats 4000000 in
set_option maxRecDepth 100000 in
theorem n_bits (l : Launch) (G : g5_G) (sz : Nat) (p_0 : Int32) : Met l yX12_bits (wsG yX12_bits cX12_bits 3 (some .int)) ({ frames := 0, cells := 0, slots := 0, locals := 0 }) (va_Pc [.int p_0] (g5_P G [] sz)) (va_Qi (fun (r : Int32) (u : va_W) => (∃ (o_r : Int32), (r = o_r) ∧ (u = []))) (g5_B G (va_A [] sz)) (va_A [] sz)) 0 0 (va_A [] sz) := by
  refine Met.ofW (cc := cX12_bits) (maxL := 3) (ret := (some .int)) (by decide +kernel) rfl ?_
  intro p e s m args below meth c s₁ B hml hv
  obtain ⟨rfl, hsz, hP, hK, hD0, hN, hT⟩ := hv
  have hx := B.exec
  have hb := B.bytes
  have hr := B.returns
  have hts : ∀ w ∈ tblG, w.before _ s = true := fun w h => atoms_spec (ws := (wsG yX12_bits cX12_bits 3 (some .int))) B.pre w (List.mem_cons_of_mem _ h)
  have hown : s.vm.findClass RX12 = some m.cls := findClass_of_methodNamed B.named
  have hlocks := B.notSynchronized
  subst hsz
  have hD := hD0.self (sz := s.heap.size)
  generalize hAe : va_A [] s.heap.size = A at hD hT ⊢
  have hA : ∀ q : Nat, s.heap.size ≤ q → A q := fun q h => by rw [← hAe]; exact Or.inr h
  have hS : va_S A s.heap s.heap [] := va_S.rf
  replace hP : va_P G.1 vwCl [] s.heap := hP
  have hl := lv_entry ([.int p_0]) (n := 3) (Nat.le_of_ble_eq_true rfl)
  rw [lg_entry_eq]
  generalize (lg_sl ([.int p_0]) ++ List.replicate (3 - (lg_sl ([.int p_0])).length) Slot.unset).toArray = ls at hl ⊢
  replace hl : lv_has ls 3 [(0, .int p_0)] := hl
  refine lv_iconst (v := 0) hx hb dX12_bits_0 (by decide +kernel) ?_
  refine lv_istore_n (lv' := [(1, .int 0), (0, .int p_0)]) hx hb dX12_bits_1 rfl hl (by decide +kernel) rfl ?_
  clear hl
  intro ls hl
  refine lv_iconst (v := 0) hx hb dX12_bits_2 (by decide +kernel) ?_
  refine lv_istore_n (lv' := [(2, .int 0), (1, .int 0), (0, .int p_0)]) hx hb dX12_bits_3 rfl hl (by decide +kernel) rfl ?_
  clear hl
  intro ls hl
  refine g5_loop (α := (Int32) × (Int32)) (fun (q : (Int32) × (Int32)) (ls : Array Slot) (H : Heap) (locs : List Loc) => match q with | (k4_2, k4_1) => lv_has ls 3 [(1, .int k4_1), (2, .int k4_2), (0, .int p_0)] ∧ va_P G.1 vwCl [] H ∧ va_D A [] ∧ va_S A s.heap H locs ∧ (0 ≤ k4_2.toInt ∧ k4_2.toInt ≤ 8)) (fun (q : (Int32) × (Int32)) => match q with | (k4_2, k4_1) => Int.toNat (8 - k4_2.toInt)) (0, 0) ⟨lv_sub hl [1, 0, 2] rfl, hP, hD, hS, ⟨by decide, by decide⟩⟩ ?_
  rintro ⟨k4_2, k4_1⟩ ls H locs ⟨hl, hP, hD, hS, (i_1 : 0 ≤ k4_2.toInt ∧ k4_2.toInt ≤ 8)⟩ ih_4_2
  replace hl : lv_has ls 3 [(1, .int k4_1), (2, .int k4_2), (0, .int p_0)] := hl
  refine g5_rs [] hP hD ?_
  clear hP hD
  intro hP hD
  refine lv_iload_n hx hb dX12_bits_4 rfl (lv_at hl 1 rfl) ?_
  refine lv_bipush (v := 8) hx hb dX12_bits_5 (by decide +kernel) ?_
  refine lv_icmp_ge (tgt := 24) hx hb dX12_bits_7 (by decide +kernel) (fun c_3 => ?_) (fun c_3 => ?_)
  ·
    have i_3 : k4_2.toInt ≥ 8 := g5_ge (a := k4_2.toInt) (b := 8) rfl (by decide +kernel) c_3
    refine lv_iload_n hx hb dX12_bits_24 rfl (lv_at hl 0 rfl) ?_
    exact W.iret (v := k4_1) hx hb hr (fun t ht hW => ⟨⟨k4_1, [], rfl, ⟨k4_1, rfl, rfl⟩, by rw [ht]; exact hP.sub [] rfl, hD.sub [] (by decide +kernel) rfl⟩, hS.F ht⟩) hS.2.2 dX12_bits_25
  ·
    have i_3 : k4_2.toInt < 8 := g5_geN (a := k4_2.toInt) (b := 8) rfl (by decide +kernel) c_3
    refine lv_iload_n hx hb dX12_bits_10 rfl (lv_at hl 0 rfl) ?_
    refine lv_iload_n hx hb dX12_bits_11 rfl (lv_at hl 2 rfl) ?_
    refine lv_iload_n hx hb dX12_bits_12 rfl (lv_at hl 1 rfl) ?_
    refine lv_ishr hx hb dX12_bits_13 ?_
    refine W.eq (g2 := F0 m 14 ls [.int (p_0 >>> (k4_2 &&& 31)), .int k4_1]) rfl ?_
    refine lv_iconst (v := 1) hx hb dX12_bits_14 (by decide +kernel) ?_
    refine lv_iand hx hb dX12_bits_15 ?_
    refine lv_iadd hx hb dX12_bits_16 ?_
    refine lv_istore_n (lv' := [(1, .int (k4_1 + ((p_0 >>> (k4_2 &&& 31)) &&& 1))), (2, .int k4_2), (0, .int p_0)]) hx hb dX12_bits_17 rfl hl (by decide +kernel) rfl ?_
    clear hl
    intro ls hl
    refine lv_iinc (v := (k4_2 + 1)) (lv' := [(2, .int (k4_2 + 1)), (1, .int (k4_1 + ((p_0 >>> (k4_2 &&& 31)) &&& 1))), (0, .int p_0)]) hx hb dX12_bits_18 hl (k := 1) rfl rfl (by decide +kernel) rfl ?_
    clear hl
    intro ls hl
    have t_4 : (k4_2 + 1).toInt = k4_2.toInt + 1 := g5_iadd (a := k4_2.toInt) (b := 1) rfl (by decide +kernel) (by omega) (by omega)
    refine W.eq (g2 := F0 m 21 ls []) rfl ?_
    refine lv_goto (tgt := 4) hx hb dX12_bits_21 (by decide +kernel) ?_
    exact ih_4_2 ((k4_2 + 1), (k4_1 + ((p_0 >>> (k4_2 &&& 31)) &&& 1))) ls H locs (show Int.toNat (8 - (k4_2 + 1).toInt) < Int.toNat (8 - k4_2.toInt) from g_up (show k4_2.toInt < (k4_2 + 1).toInt by omega) (show k4_2.toInt < 8 by omega)) ⟨lv_sub hl [1, 0, 2] rfl, hP, hD, hS, ⟨by omega, by omega⟩⟩
theorem dgX12_step_0 : ∀ r ∈ ([(0, (.iload_n 2, 1)), (1, (.iconst 4, 1)), (2, (.if_icmp .ne 7, 3)), (5, (.iload_n 1, 1)), (6, (.goto 8, 3)), (9, (.iload_n 1, 1)), (10, (.iload_n 2, 1)), (11, (.invokestatic 374, 3)), (14, (.istore 4, 2)), (16, (.iload 4, 2)), (18, (.iconst (-1), 1)), (19, (.if_icmp .eq 34, 3)), (22, (.aload_n 0, 1)), (23, (.getfield 95, 3)), (26, (.bipush 64, 2)), (28, (.iload_n 3, 1)), (29, (.imul, 1)), (30, (.iload 4, 2)), (32, (.ifCond .ge 7, 3)), (35, (.iconst 0, 1)), (36, (.goto 5, 3)), (39, (.iload 4, 2)), (41, (.iadd, 1)), (42, (.iaload, 1)), (43, (.bipush 64, 2)), (45, (.if_icmp .ge 8, 3)), (48, (.iload 4, 2)), (50, (.goto 4, 3)), (53, (.iconst (-1), 1)), (54, (.ireturn, 1))] : List (Nat × (Instr × Nat))), decode cX12_step r.1 = .ok r.2 := by decide +kernel
theorem dX12_step_0 : decode cX12_step 0 = .ok (.iload_n 2, 1) := dgX12_step_0 (0, (.iload_n 2, 1)) (List.mem_of_getElem? (i := 0) rfl)
theorem dX12_step_1 : decode cX12_step 1 = .ok (.iconst 4, 1) := dgX12_step_0 (1, (.iconst 4, 1)) (List.mem_of_getElem? (i := 1) rfl)
theorem dX12_step_2 : decode cX12_step 2 = .ok (.if_icmp .ne 7, 3) := dgX12_step_0 (2, (.if_icmp .ne 7, 3)) (List.mem_of_getElem? (i := 2) rfl)
theorem dX12_step_5 : decode cX12_step 5 = .ok (.iload_n 1, 1) := dgX12_step_0 (5, (.iload_n 1, 1)) (List.mem_of_getElem? (i := 3) rfl)
theorem dX12_step_6 : decode cX12_step 6 = .ok (.goto 8, 3) := dgX12_step_0 (6, (.goto 8, 3)) (List.mem_of_getElem? (i := 4) rfl)
theorem dX12_step_9 : decode cX12_step 9 = .ok (.iload_n 1, 1) := dgX12_step_0 (9, (.iload_n 1, 1)) (List.mem_of_getElem? (i := 5) rfl)
theorem dX12_step_10 : decode cX12_step 10 = .ok (.iload_n 2, 1) := dgX12_step_0 (10, (.iload_n 2, 1)) (List.mem_of_getElem? (i := 6) rfl)
theorem dX12_step_11 : decode cX12_step 11 = .ok (.invokestatic 374, 3) := dgX12_step_0 (11, (.invokestatic 374, 3)) (List.mem_of_getElem? (i := 7) rfl)
theorem dX12_step_14 : decode cX12_step 14 = .ok (.istore 4, 2) := dgX12_step_0 (14, (.istore 4, 2)) (List.mem_of_getElem? (i := 8) rfl)
theorem dX12_step_16 : decode cX12_step 16 = .ok (.iload 4, 2) := dgX12_step_0 (16, (.iload 4, 2)) (List.mem_of_getElem? (i := 9) rfl)
theorem dX12_step_18 : decode cX12_step 18 = .ok (.iconst (-1), 1) := dgX12_step_0 (18, (.iconst (-1), 1)) (List.mem_of_getElem? (i := 10) rfl)
theorem dX12_step_19 : decode cX12_step 19 = .ok (.if_icmp .eq 34, 3) := dgX12_step_0 (19, (.if_icmp .eq 34, 3)) (List.mem_of_getElem? (i := 11) rfl)
theorem dX12_step_22 : decode cX12_step 22 = .ok (.aload_n 0, 1) := dgX12_step_0 (22, (.aload_n 0, 1)) (List.mem_of_getElem? (i := 12) rfl)
theorem dX12_step_23 : decode cX12_step 23 = .ok (.getfield 95, 3) := dgX12_step_0 (23, (.getfield 95, 3)) (List.mem_of_getElem? (i := 13) rfl)
theorem dX12_step_26 : decode cX12_step 26 = .ok (.bipush 64, 2) := dgX12_step_0 (26, (.bipush 64, 2)) (List.mem_of_getElem? (i := 14) rfl)
theorem dX12_step_28 : decode cX12_step 28 = .ok (.iload_n 3, 1) := dgX12_step_0 (28, (.iload_n 3, 1)) (List.mem_of_getElem? (i := 15) rfl)
theorem dX12_step_29 : decode cX12_step 29 = .ok (.imul, 1) := dgX12_step_0 (29, (.imul, 1)) (List.mem_of_getElem? (i := 16) rfl)
theorem dX12_step_30 : decode cX12_step 30 = .ok (.iload 4, 2) := dgX12_step_0 (30, (.iload 4, 2)) (List.mem_of_getElem? (i := 17) rfl)
theorem dX12_step_32 : decode cX12_step 32 = .ok (.ifCond .ge 7, 3) := dgX12_step_0 (32, (.ifCond .ge 7, 3)) (List.mem_of_getElem? (i := 18) rfl)
theorem dX12_step_39 : decode cX12_step 39 = .ok (.iload 4, 2) := dgX12_step_0 (39, (.iload 4, 2)) (List.mem_of_getElem? (i := 21) rfl)
theorem dX12_step_41 : decode cX12_step 41 = .ok (.iadd, 1) := dgX12_step_0 (41, (.iadd, 1)) (List.mem_of_getElem? (i := 22) rfl)
theorem dX12_step_42 : decode cX12_step 42 = .ok (.iaload, 1) := dgX12_step_0 (42, (.iaload, 1)) (List.mem_of_getElem? (i := 23) rfl)
theorem dX12_step_43 : decode cX12_step 43 = .ok (.bipush 64, 2) := dgX12_step_0 (43, (.bipush 64, 2)) (List.mem_of_getElem? (i := 24) rfl)
theorem dX12_step_45 : decode cX12_step 45 = .ok (.if_icmp .ge 8, 3) := dgX12_step_0 (45, (.if_icmp .ge 8, 3)) (List.mem_of_getElem? (i := 25) rfl)
theorem dX12_step_48 : decode cX12_step 48 = .ok (.iload 4, 2) := dgX12_step_0 (48, (.iload 4, 2)) (List.mem_of_getElem? (i := 26) rfl)
theorem dX12_step_50 : decode cX12_step 50 = .ok (.goto 4, 3) := dgX12_step_0 (50, (.goto 4, 3)) (List.mem_of_getElem? (i := 27) rfl)
theorem dX12_step_53 : decode cX12_step 53 = .ok (.iconst (-1), 1) := dgX12_step_0 (53, (.iconst (-1), 1)) (List.mem_of_getElem? (i := 28) rfl)
theorem dX12_step_54 : decode cX12_step 54 = .ok (.ireturn, 1) := dgX12_step_0 (54, (.ireturn, 1)) (List.mem_of_getElem? (i := 29) rfl)
theorem fl_X12_95 : Cond.fieldLink RX12 95 "LateGlassModel" "meets" "[I" ∈ tblG := tg 1248 (by decide +kernel) (by decide +kernel)
set_option maxHeartbeats 4000000 in
set_option maxRecDepth 100000 in
theorem n_step (l : Launch) (G : g5_G) (b_o b_me b_rf b_ro b_im b_ke b_tp b_nl b_op b_ar b_pi b_pa b_ws b_hw b_se b_re b_pt b_ip b_ah b_be b_tr b_ld b_wn : Nat) (sz : Nat) (u_th : Int32) (u_sa : Int32) (u_fd : Int32) (u_td : Int32) (u_fr : Int32) (u_to : Int32) (u_so : Int32) (u_fa : Int32) (u_bd : Int32) (u_nc : Int32) (u_co : Int32) (u_le : Int32) (u_pd : Int32) (u_od : Int32) (u_la : Int32) (u_bk : Int32) (u_ce : Int32) (u_ho : Int32) (u_wy : Int32) (u_bt : Int32) (u_ps : Int32) (u_tg : Int32) (u_sn : Int32) (u_ic : Int32) (u_wd : Int32) (u_id : Int32) (p_1 : Int32) (p_2 : Int32) (p_3 : Int32) (u_wo : Int64) (u_va : Int64) (u_su : Int64) (u_st : Int64) (v_me : Nat → Int32) (h_u_td : 0 ≤ u_td.toInt ∧ u_td.toInt ≤ 400) (h_u_fr : 0 ≤ u_fr.toInt ∧ u_fr.toInt ≤ 400) (h_u_to : 0 ≤ u_to.toInt ∧ u_to.toInt ≤ 400) (h_u_bd : 0 ≤ u_bd.toInt ∧ u_bd.toInt ≤ 1) (h_u_nc : 0 ≤ u_nc.toInt ∧ u_nc.toInt ≤ 12) (h_u_co : 0 ≤ u_co.toInt ∧ u_co.toInt ≤ 400) (h_u_pd : 0 ≤ u_pd.toInt ∧ u_pd.toInt ≤ 400) (h_u_la : 0 ≤ u_la.toInt ∧ u_la.toInt ≤ 4840) (h_u_bk : 0 ≤ u_bk.toInt ∧ u_bk.toInt ≤ 1) (h_u_ce : 0 ≤ u_ce.toInt ∧ u_ce.toInt ≤ 63) (h_u_ho : 0 ≤ u_ho.toInt ∧ u_ho.toInt ≤ 23) (h_u_wy : 0 ≤ u_wy.toInt ∧ u_wy.toInt ≤ 3) (h_u_bt : 0 ≤ u_bt.toInt ∧ u_bt.toInt ≤ 1000000) (h_u_ps : 0 ≤ u_ps.toInt ∧ u_ps.toInt ≤ 200) (h_u_ic : 0 ≤ u_ic.toInt ∧ u_ic.toInt ≤ 1) (h_u_id : 0 ≤ u_id.toInt ∧ u_id.toInt ≤ 1) (h_p_1 : 0 ≤ p_1.toInt ∧ p_1.toInt ≤ 63) (h_p_2 : 0 ≤ p_2.toInt ∧ p_2.toInt ≤ 4) (h_p_3 : 0 ≤ p_3.toInt ∧ p_3.toInt ≤ 23) (r_me : MEI v_me) : Met l yX12_step (wsG yX12_step cX12_step 5 (some .int)) ({ frames := 1, cells := 0, slots := 0, locals := 21 }) (va_Pc [.ref b_o, .int p_1, .int p_2, .int p_3] (g5_P G [(b_o, (oc12 u_th u_sa b_rf b_ro b_im b_ke u_fd b_tp u_td u_fr u_to u_so u_wo u_fa u_bd u_nc b_nl u_co b_op b_ar u_le b_pi b_pa u_pd u_od b_ws b_hw u_la b_se b_re u_bk u_va u_su u_ce u_ho u_wy u_bt u_ps b_pt u_tg u_sn b_ip u_ic b_ah b_be b_me u_wd b_tr b_ld u_st b_wn u_id)), (b_me, (arI G 1536 v_me))] sz)) (va_Qi (fun (r : Int32) (u : va_W) => (∃ (o_r : Int32), ((-1) ≤ o_r.toInt ∧ o_r.toInt ≤ 63) ∧ (o_r.toInt = -1 ∨ (v_me (64 * p_3.toInt + o_r.toInt).toNat).toInt < 64) ∧ (r = o_r) ∧ (u = [(b_o, (oc12 u_th u_sa b_rf b_ro b_im b_ke u_fd b_tp u_td u_fr u_to u_so u_wo u_fa u_bd u_nc b_nl u_co b_op b_ar u_le b_pi b_pa u_pd u_od b_ws b_hw u_la b_se b_re u_bk u_va u_su u_ce u_ho u_wy u_bt u_ps b_pt u_tg u_sn b_ip u_ic b_ah b_be b_me u_wd b_tr b_ld u_st b_wn u_id)), (b_me, (arI G 1536 v_me))]))) (g5_B G (va_A [(b_o, (oc12 u_th u_sa b_rf b_ro b_im b_ke u_fd b_tp u_td u_fr u_to u_so u_wo u_fa u_bd u_nc b_nl u_co b_op b_ar u_le b_pi b_pa u_pd u_od b_ws b_hw u_la b_se b_re u_bk u_va u_su u_ce u_ho u_wy u_bt u_ps b_pt u_tg u_sn b_ip u_ic b_ah b_be b_me u_wd b_tr b_ld u_st b_wn u_id)), (b_me, (arI G 1536 v_me))] sz)) (va_A [(b_o, (oc12 u_th u_sa b_rf b_ro b_im b_ke u_fd b_tp u_td u_fr u_to u_so u_wo u_fa u_bd u_nc b_nl u_co b_op b_ar u_le b_pi b_pa u_pd u_od b_ws b_hw u_la b_se b_re u_bk u_va u_su u_ce u_ho u_wy u_bt u_ps b_pt u_tg u_sn b_ip u_ic b_ah b_be b_me u_wd b_tr b_ld u_st b_wn u_id)), (b_me, (arI G 1536 v_me))] sz)) 0 0 (va_A [(b_o, (oc12 u_th u_sa b_rf b_ro b_im b_ke u_fd b_tp u_td u_fr u_to u_so u_wo u_fa u_bd u_nc b_nl u_co b_op b_ar u_le b_pi b_pa u_pd u_od b_ws b_hw u_la b_se b_re u_bk u_va u_su u_ce u_ho u_wy u_bt u_ps b_pt u_tg u_sn b_ip u_ic b_ah b_be b_me u_wd b_tr b_ld u_st b_wn u_id)), (b_me, (arI G 1536 v_me))] sz) := by
  refine Met.ofW (cc := cX12_step) (maxL := 5) (ret := (some .int)) (by decide +kernel) rfl ?_
  intro p e s m args below meth c s₁ B hml hv
  obtain ⟨rfl, hsz, hP, hK, hD0, hN, hT⟩ := hv
  have hx := B.exec
  have hb := B.bytes
  have hr := B.returns
  have hts : ∀ w ∈ tblG, w.before _ s = true := fun w h => atoms_spec (ws := (wsG yX12_step cX12_step 5 (some .int))) B.pre w (List.mem_cons_of_mem _ h)
  have hown : s.vm.findClass RX12 = some m.cls := findClass_of_methodNamed B.named
  have hlocks := B.notSynchronized
  subst hsz
  have hD := hD0.self (sz := s.heap.size)
  generalize hAe : va_A [(b_o, (oc12 u_th u_sa b_rf b_ro b_im b_ke u_fd b_tp u_td u_fr u_to u_so u_wo u_fa u_bd u_nc b_nl u_co b_op b_ar u_le b_pi b_pa u_pd u_od b_ws b_hw u_la b_se b_re u_bk u_va u_su u_ce u_ho u_wy u_bt u_ps b_pt u_tg u_sn b_ip u_ic b_ah b_be b_me u_wd b_tr b_ld u_st b_wn u_id)), (b_me, (arI G 1536 v_me))] s.heap.size = A at hD hT ⊢
  have hA : ∀ q : Nat, s.heap.size ≤ q → A q := fun q h => by rw [← hAe]; exact Or.inr h
  have hS : va_S A s.heap s.heap [] := va_S.rf
  replace hP : va_P G.1 vwCl [(b_o, (oc12 u_th u_sa b_rf b_ro b_im b_ke u_fd b_tp u_td u_fr u_to u_so u_wo u_fa u_bd u_nc b_nl u_co b_op b_ar u_le b_pi b_pa u_pd u_od b_ws b_hw u_la b_se b_re u_bk u_va u_su u_ce u_ho u_wy u_bt u_ps b_pt u_tg u_sn b_ip u_ic b_ah b_be b_me u_wd b_tr b_ld u_st b_wn u_id)), (b_me, (arI G 1536 v_me))] s.heap := hP
  have hl := lv_entry ([.ref b_o, .int p_1, .int p_2, .int p_3]) (n := 5) (Nat.le_of_ble_eq_true rfl)
  rw [lg_entry_eq]
  generalize (lg_sl ([.ref b_o, .int p_1, .int p_2, .int p_3]) ++ List.replicate (5 - (lg_sl ([.ref b_o, .int p_1, .int p_2, .int p_3])).length) Slot.unset).toArray = ls at hl ⊢
  replace hl : lv_has ls 5 [(0, .ref b_o), (1, .int p_1), (2, .int p_2), (3, .int p_3)] := hl
  refine lv_iload_n hx hb dX12_step_0 rfl (lv_at hl 2 rfl) ?_
  refine lv_iconst (v := 4) hx hb dX12_step_1 (by decide +kernel) ?_
  refine lv_icmp_ne (tgt := 9) hx hb dX12_step_2 (by decide +kernel) (fun c_1 => ?_) (fun c_1 => ?_)
  ·
    have n_1 : gNe (p_2.toInt) (4) := g5_ne (a := p_2.toInt) (b := 4) rfl (by decide +kernel) c_1
    have i_1 : p_2.toInt ≤ 3 := by have z := g5_ne (a := p_2.toInt) (b := 4) (by rfl) (by decide +kernel) c_1; omega
    refine lv_iload_n hx hb dX12_step_9 rfl (lv_at hl 1 rfl) ?_
    refine lv_iload_n hx hb dX12_step_10 rfl (lv_at hl 2 rfl) ?_
    obtain ⟨hPc, hDc, hFc⟩ := g5_sub3 (wc := []) hP hD hS hA [] (by decide +kernel) rfl
    refine va_calli (va_runS (As := [.int p_1, .int p_2]) (rest := []) ⟨hx, hb, hml, hown, hts⟩ (n_beside l G s.heap.size p_1 p_2 h_p_1) (va_cwS 2 hts gS_X12_374 rfl rfl rfl hs_X12_beside ⟨Nat.le_of_ble_eq_true rfl, Nat.le_of_ble_eq_true rfl⟩) (g5_preS hPc hK hDc hN hT hS hFc) rfl rfl hl.1 rfl (lv_room (Nat.le_of_ble_eq_true rfl)) dX12_step_11 ⟨Nat.le_of_ble_eq_true rfl, Nat.le_of_ble_eq_true rfl⟩) hS (fun q _ h => hFc q h) hFc (fun r u t H locs ht hvm hw hB hz1 hk1 hS => ?_)
    obtain ⟨hP1, hD1⟩ := hB
    have hP1 := g5_ht ht hP1
    obtain ⟨z3, (i_2 : -1 ≤ z3.toInt ∧ z3.toInt ≤ 63), y4, rfl⟩ := hw
    have hJ9 := g5_same hP hk1
    clear hP hPc hDc hFc ht hvm hz1 hk1 hP1 hD1
    have hP := hJ9
    clear hJ9
    refine g5_ti (v := z3) y4 ?_
    refine lv_istore (lv' := [(4, .int z3), (0, .ref b_o), (1, .int p_1), (2, .int p_2), (3, .int p_3)]) hx hb dX12_step_14 hl (by decide +kernel) rfl ?_
    clear hl
    intro ls hl
    refine W.eq (g2 := F0 m 16 ls []) rfl ?_
    refine lv_iload hx hb dX12_step_16 (lv_at hl 0 rfl) ?_
    refine lv_iconst (v := (-1)) hx hb dX12_step_18 (by decide +kernel) ?_
    refine lv_icmp_eq (tgt := 53) hx hb dX12_step_19 (by decide +kernel) (fun c_5 => ?_) (fun c_5 => ?_)
    ·
      have i_5 : z3.toInt = (-1) := g5_eq (a := z3.toInt) (b := (-1)) rfl (by decide +kernel) c_5
      refine lv_iconst (v := (-1)) hx hb dX12_step_53 (by decide +kernel) ?_
      exact W.iret (v := (-1)) hx hb hr (fun t ht hW => ⟨⟨(-1), [(b_o, (oc12 u_th u_sa b_rf b_ro b_im b_ke u_fd b_tp u_td u_fr u_to u_so u_wo u_fa u_bd u_nc b_nl u_co b_op b_ar u_le b_pi b_pa u_pd u_od b_ws b_hw u_la b_se b_re u_bk u_va u_su u_ce u_ho u_wy u_bt u_ps b_pt u_tg u_sn b_ip u_ic b_ah b_be b_me u_wd b_tr b_ld u_st b_wn u_id)), (b_me, (arI G 1536 v_me))], rfl, ⟨(-1), ⟨by have zc_o_r : ((-1) : Int32).toInt = (-1) := (by decide +kernel); omega, by have zc_o_r : ((-1) : Int32).toInt = (-1) := (by decide +kernel); omega⟩, Or.inl (by decide +kernel), rfl, rfl⟩, by rw [ht]; exact hP.sub [0, 1] rfl, hD.sub [0, 1] (by decide +kernel) rfl⟩, hS.F ht⟩) hS.2.2 dX12_step_54
    ·
      have n_5 : gNe (z3.toInt) ((-1)) := g5_eqN (a := z3.toInt) (b := (-1)) rfl (by decide +kernel) c_5
      have i_5 : z3.toInt ≥ 0 := by have z := g5_eqN (a := z3.toInt) (b := (-1)) (by rfl) (by decide +kernel) c_5; omega
      refine lv_aload_n hx hb dX12_step_22 rfl (lv_at hl 1 rfl) ?_
      refine va_get (D := G.1) (ci := 12) (v := .ref b_me) (C := RX12) (T := TX12) (N := 52) hx hb hts inG_X12 hown hK hP 0 rfl rfl 45 (by decide +kernel) (hts _ fl_X12_95) (fun _ h9 => h9) rfl dX12_step_23 ?_
      refine lv_bipush (v := 64) hx hb dX12_step_26 (by decide +kernel) ?_
      refine lv_iload_n hx hb dX12_step_28 rfl (lv_at hl 4 rfl) ?_
      refine W.eq (g2 := F0 m 29 ls [.int p_3, .int 64, .ref b_me]) rfl ?_
      refine lv_imul hx hb dX12_step_29 ?_
      have t_6 : (64 * p_3).toInt = 64 * p_3.toInt := g5_imul (a := 64) (b := p_3.toInt) (by decide +kernel) (by rfl) (by omega) (by omega)
      refine lv_iload hx hb dX12_step_30 (lv_at hl 0 rfl) ?_
      refine lv_if_ge (tgt := 39) hx hb dX12_step_32 (by decide +kernel) (fun c_7 => ?_) (fun c_7 => ?_)
      ·
        have i_7 : z3.toInt ≥ 0 := g5_ge (a := z3.toInt) (b := 0) rfl (by decide +kernel) c_7
        refine lv_iload hx hb dX12_step_39 (lv_at hl 0 rfl) ?_
        refine lv_iadd hx hb dX12_step_41 ?_
        have t_8 : ((64 * p_3) + z3).toInt = (64 * p_3).toInt + z3.toInt := g5_iadd (a := (64 * p_3).toInt) (b := z3.toInt) (by rfl) (by rfl) (by omega) (by omega)
        refine va_iald hx hb hK hP 1 0 rfl rfl (i := ((64 * p_3) + z3)) (vp_in_iff.mpr ⟨by omega, by omega⟩) dX12_step_42 ?_
        have hr_9 : 0 ≤ (v_me ((64 * p_3) + z3).toNatClampNeg).toInt ∧ ((v_me ((64 * p_3) + z3).toNatClampNeg).toInt < 32 ∨ 64 ≤ (v_me ((64 * p_3) + z3).toNatClampNeg).toInt) ∧ (v_me ((64 * p_3) + z3).toNatClampNeg).toInt ≤ 127 := r_me (((64 * p_3) + z3).toNatClampNeg)
        refine lv_bipush (v := 64) hx hb dX12_step_43 (by decide +kernel) ?_
        refine W.eq (g2 := F0 m 45 ls [.int 64, .int (v_me ((64 * p_3) + z3).toNatClampNeg)]) rfl ?_
        refine lv_icmp_ge (tgt := 53) hx hb dX12_step_45 (by decide +kernel) (fun c_10 => ?_) (fun c_10 => ?_)
        ·
          have i_10 : (v_me ((64 * p_3) + z3).toNatClampNeg).toInt ≥ 64 := g5_ge (a := (v_me ((64 * p_3) + z3).toNatClampNeg).toInt) (b := 64) rfl (by decide +kernel) c_10
          refine lv_iconst (v := (-1)) hx hb dX12_step_53 (by decide +kernel) ?_
          exact W.iret (v := (-1)) hx hb hr (fun t ht hW => ⟨⟨(-1), [(b_o, (oc12 u_th u_sa b_rf b_ro b_im b_ke u_fd b_tp u_td u_fr u_to u_so u_wo u_fa u_bd u_nc b_nl u_co b_op b_ar u_le b_pi b_pa u_pd u_od b_ws b_hw u_la b_se b_re u_bk u_va u_su u_ce u_ho u_wy u_bt u_ps b_pt u_tg u_sn b_ip u_ic b_ah b_be b_me u_wd b_tr b_ld u_st b_wn u_id)), (b_me, (arI G 1536 v_me))], rfl, ⟨(-1), ⟨by have zc_o_r : ((-1) : Int32).toInt = (-1) := (by decide +kernel); omega, by have zc_o_r : ((-1) : Int32).toInt = (-1) := (by decide +kernel); omega⟩, Or.inl (by decide +kernel), rfl, rfl⟩, by rw [ht]; exact hP.sub [0, 1] rfl, hD.sub [0, 1] (by decide +kernel) rfl⟩, hS.F ht⟩) hS.2.2 dX12_step_54
        ·
          have i_10 : (v_me ((64 * p_3) + z3).toNatClampNeg).toInt < 64 := g5_geN (a := (v_me ((64 * p_3) + z3).toNatClampNeg).toInt) (b := 64) rfl (by decide +kernel) c_10
          refine lv_iload hx hb dX12_step_48 (lv_at hl 0 rfl) ?_
          refine lv_goto (tgt := 54) hx hb dX12_step_50 (by decide +kernel) ?_
          exact W.iret (v := z3) hx hb hr (fun t ht hW => ⟨⟨z3, [(b_o, (oc12 u_th u_sa b_rf b_ro b_im b_ke u_fd b_tp u_td u_fr u_to u_so u_wo u_fa u_bd u_nc b_nl u_co b_op b_ar u_le b_pi b_pa u_pd u_od b_ws b_hw u_la b_se b_re u_bk u_va u_su u_ce u_ho u_wy u_bt u_ps b_pt u_tg u_sn b_ip u_ic b_ah b_be b_me u_wd b_tr b_ld u_st b_wn u_id)), (b_me, (arI G 1536 v_me))], rfl, ⟨z3, ⟨by omega, by omega⟩, Or.inr (by have e9 : (64 * p_3.toInt + z3.toInt).toNat = ((64 * p_3) + z3).toNatClampNeg := (by have zz := g5_clamp ((64 * p_3) + z3); omega); rw [e9]; exact i_10), rfl, rfl⟩, by rw [ht]; exact hP.sub [0, 1] rfl, hD.sub [0, 1] (by decide +kernel) rfl⟩, hS.F ht⟩) hS.2.2 dX12_step_54
      ·
        have i_7 : z3.toInt < 0 := g5_geN (a := z3.toInt) (b := 0) rfl (by decide +kernel) c_7
        omega
  ·
    have i_1 : p_2.toInt = 4 := g5_neN (a := p_2.toInt) (b := 4) rfl (by decide +kernel) c_1
    refine lv_iload_n hx hb dX12_step_5 rfl (lv_at hl 1 rfl) ?_
    refine lv_goto (tgt := 14) hx hb dX12_step_6 (by decide +kernel) ?_
    refine lv_istore (lv' := [(4, .int p_1), (0, .ref b_o), (1, .int p_1), (2, .int p_2), (3, .int p_3)]) hx hb dX12_step_14 hl (by decide +kernel) rfl ?_
    clear hl
    intro ls hl
    refine lv_iload hx hb dX12_step_16 (lv_at hl 0 rfl) ?_
    refine W.eq (g2 := F0 m 18 ls [.int p_1]) rfl ?_
    refine lv_iconst (v := (-1)) hx hb dX12_step_18 (by decide +kernel) ?_
    refine lv_icmp_eq (tgt := 53) hx hb dX12_step_19 (by decide +kernel) (fun c_11 => ?_) (fun c_11 => ?_)
    ·
      have i_11 : p_1.toInt = (-1) := g5_eq (a := p_1.toInt) (b := (-1)) rfl (by decide +kernel) c_11
      omega
    ·
      have n_11 : gNe (p_1.toInt) ((-1)) := g5_eqN (a := p_1.toInt) (b := (-1)) rfl (by decide +kernel) c_11
      refine lv_aload_n hx hb dX12_step_22 rfl (lv_at hl 1 rfl) ?_
      refine va_get (D := G.1) (ci := 12) (v := .ref b_me) (C := RX12) (T := TX12) (N := 52) hx hb hts inG_X12 hown hK hP 0 rfl rfl 45 (by decide +kernel) (hts _ fl_X12_95) (fun _ h9 => h9) rfl dX12_step_23 ?_
      refine lv_bipush (v := 64) hx hb dX12_step_26 (by decide +kernel) ?_
      refine lv_iload_n hx hb dX12_step_28 rfl (lv_at hl 4 rfl) ?_
      refine W.eq (g2 := F0 m 29 ls [.int p_3, .int 64, .ref b_me]) rfl ?_
      refine lv_imul hx hb dX12_step_29 ?_
      have t_12 : (64 * p_3).toInt = 64 * p_3.toInt := g5_imul (a := 64) (b := p_3.toInt) (by decide +kernel) (by rfl) (by omega) (by omega)
      refine lv_iload hx hb dX12_step_30 (lv_at hl 0 rfl) ?_
      refine lv_if_ge (tgt := 39) hx hb dX12_step_32 (by decide +kernel) (fun c_13 => ?_) (fun c_13 => ?_)
      ·
        have i_13 : p_1.toInt ≥ 0 := g5_ge (a := p_1.toInt) (b := 0) rfl (by decide +kernel) c_13
        refine lv_iload hx hb dX12_step_39 (lv_at hl 0 rfl) ?_
        refine lv_iadd hx hb dX12_step_41 ?_
        have t_14 : ((64 * p_3) + p_1).toInt = (64 * p_3).toInt + p_1.toInt := g5_iadd (a := (64 * p_3).toInt) (b := p_1.toInt) (by rfl) (by rfl) (by omega) (by omega)
        refine va_iald hx hb hK hP 1 0 rfl rfl (i := ((64 * p_3) + p_1)) (vp_in_iff.mpr ⟨by omega, by omega⟩) dX12_step_42 ?_
        have hr_15 : 0 ≤ (v_me ((64 * p_3) + p_1).toNatClampNeg).toInt ∧ ((v_me ((64 * p_3) + p_1).toNatClampNeg).toInt < 32 ∨ 64 ≤ (v_me ((64 * p_3) + p_1).toNatClampNeg).toInt) ∧ (v_me ((64 * p_3) + p_1).toNatClampNeg).toInt ≤ 127 := r_me (((64 * p_3) + p_1).toNatClampNeg)
        refine lv_bipush (v := 64) hx hb dX12_step_43 (by decide +kernel) ?_
        refine W.eq (g2 := F0 m 45 ls [.int 64, .int (v_me ((64 * p_3) + p_1).toNatClampNeg)]) rfl ?_
        refine lv_icmp_ge (tgt := 53) hx hb dX12_step_45 (by decide +kernel) (fun c_16 => ?_) (fun c_16 => ?_)
        ·
          have i_16 : (v_me ((64 * p_3) + p_1).toNatClampNeg).toInt ≥ 64 := g5_ge (a := (v_me ((64 * p_3) + p_1).toNatClampNeg).toInt) (b := 64) rfl (by decide +kernel) c_16
          refine lv_iconst (v := (-1)) hx hb dX12_step_53 (by decide +kernel) ?_
          exact W.iret (v := (-1)) hx hb hr (fun t ht hW => ⟨⟨(-1), [(b_o, (oc12 u_th u_sa b_rf b_ro b_im b_ke u_fd b_tp u_td u_fr u_to u_so u_wo u_fa u_bd u_nc b_nl u_co b_op b_ar u_le b_pi b_pa u_pd u_od b_ws b_hw u_la b_se b_re u_bk u_va u_su u_ce u_ho u_wy u_bt u_ps b_pt u_tg u_sn b_ip u_ic b_ah b_be b_me u_wd b_tr b_ld u_st b_wn u_id)), (b_me, (arI G 1536 v_me))], rfl, ⟨(-1), ⟨by have zc_o_r : ((-1) : Int32).toInt = (-1) := (by decide +kernel); omega, by have zc_o_r : ((-1) : Int32).toInt = (-1) := (by decide +kernel); omega⟩, Or.inl (by decide +kernel), rfl, rfl⟩, by rw [ht]; exact hP.sub [0, 1] rfl, hD.sub [0, 1] (by decide +kernel) rfl⟩, hS.F ht⟩) hS.2.2 dX12_step_54
        ·
          have i_16 : (v_me ((64 * p_3) + p_1).toNatClampNeg).toInt < 64 := g5_geN (a := (v_me ((64 * p_3) + p_1).toNatClampNeg).toInt) (b := 64) rfl (by decide +kernel) c_16
          refine lv_iload hx hb dX12_step_48 (lv_at hl 0 rfl) ?_
          refine lv_goto (tgt := 54) hx hb dX12_step_50 (by decide +kernel) ?_
          exact W.iret (v := p_1) hx hb hr (fun t ht hW => ⟨⟨p_1, [(b_o, (oc12 u_th u_sa b_rf b_ro b_im b_ke u_fd b_tp u_td u_fr u_to u_so u_wo u_fa u_bd u_nc b_nl u_co b_op b_ar u_le b_pi b_pa u_pd u_od b_ws b_hw u_la b_se b_re u_bk u_va u_su u_ce u_ho u_wy u_bt u_ps b_pt u_tg u_sn b_ip u_ic b_ah b_be b_me u_wd b_tr b_ld u_st b_wn u_id)), (b_me, (arI G 1536 v_me))], rfl, ⟨p_1, ⟨by omega, by omega⟩, Or.inr (by have e9 : (64 * p_3.toInt + p_1.toInt).toNat = ((64 * p_3) + p_1).toNatClampNeg := (by have zz := g5_clamp ((64 * p_3) + p_1); omega); rw [e9]; exact i_16), rfl, rfl⟩, by rw [ht]; exact hP.sub [0, 1] rfl, hD.sub [0, 1] (by decide +kernel) rfl⟩, hS.F ht⟩) hS.2.2 dX12_step_54
      ·
        have i_13 : p_1.toInt < 0 := g5_geN (a := p_1.toInt) (b := 0) rfl (by decide +kernel) c_13
        omega
theorem dgX12_goesOn_0 : ∀ r ∈ ([(0, (.iconst 0, 1)), (1, (.istore_n 3, 1)), (2, (.iload_n 3, 1)), (3, (.iconst 5, 1)), (4, (.if_icmp .ge 97, 3)), (7, (.aload_n 0, 1)), (8, (.iload_n 2, 1)), (9, (.iload_n 3, 1)), (10, (.iload_n 1, 1)), (11, (.iconst 1, 1)), (12, (.iadd, 1)), (13, (.invokevirtual 437, 3)), (16, (.istore 4, 2)), (18, (.iconst 0, 1)), (19, (.istore 5, 2)), (21, (.iload 5, 2)), (23, (.bipush 32, 2)), (25, (.if_icmp .ge 70, 3)), (28, (.iload 4, 2)), (30, (.iconst (-1), 1)), (31, (.if_icmp .eq 64, 3)), (34, (.aload_n 0, 1)), (35, (.getfield 89, 3)), (38, (.bipush 32, 2)), (40, (.bipush 64, 2)), (42, (.iload_n 1, 1)), (43, (.iconst 1, 1)), (44, (.iadd, 1)), (45, (.imul, 1)), (46, (.iload 4, 2)), (48, (.iadd, 1)), (49, (.imul, 1)), (50, (.iload 5, 2)), (52, (.aload_n 0, 1)), (53, (.getfield 95, 3)), (56, (.bipush 64, 2)), (58, (.iload_n 1, 1)), (59, (.iconst 1, 1)), (60, (.iadd, 1)), (61, (.imul, 1))] : List (Nat × (Instr × Nat))), decode cX12_goesOn r.1 = .ok r.2 := by decide +kernel
theorem dX12_goesOn_0 : decode cX12_goesOn 0 = .ok (.iconst 0, 1) := dgX12_goesOn_0 (0, (.iconst 0, 1)) (List.mem_of_getElem? (i := 0) rfl)
theorem dX12_goesOn_1 : decode cX12_goesOn 1 = .ok (.istore_n 3, 1) := dgX12_goesOn_0 (1, (.istore_n 3, 1)) (List.mem_of_getElem? (i := 1) rfl)
theorem dX12_goesOn_2 : decode cX12_goesOn 2 = .ok (.iload_n 3, 1) := dgX12_goesOn_0 (2, (.iload_n 3, 1)) (List.mem_of_getElem? (i := 2) rfl)
theorem dX12_goesOn_3 : decode cX12_goesOn 3 = .ok (.iconst 5, 1) := dgX12_goesOn_0 (3, (.iconst 5, 1)) (List.mem_of_getElem? (i := 3) rfl)
theorem dX12_goesOn_4 : decode cX12_goesOn 4 = .ok (.if_icmp .ge 97, 3) := dgX12_goesOn_0 (4, (.if_icmp .ge 97, 3)) (List.mem_of_getElem? (i := 4) rfl)
theorem dX12_goesOn_7 : decode cX12_goesOn 7 = .ok (.aload_n 0, 1) := dgX12_goesOn_0 (7, (.aload_n 0, 1)) (List.mem_of_getElem? (i := 5) rfl)
theorem dX12_goesOn_8 : decode cX12_goesOn 8 = .ok (.iload_n 2, 1) := dgX12_goesOn_0 (8, (.iload_n 2, 1)) (List.mem_of_getElem? (i := 6) rfl)
theorem dX12_goesOn_9 : decode cX12_goesOn 9 = .ok (.iload_n 3, 1) := dgX12_goesOn_0 (9, (.iload_n 3, 1)) (List.mem_of_getElem? (i := 7) rfl)
theorem dX12_goesOn_10 : decode cX12_goesOn 10 = .ok (.iload_n 1, 1) := dgX12_goesOn_0 (10, (.iload_n 1, 1)) (List.mem_of_getElem? (i := 8) rfl)
theorem dX12_goesOn_11 : decode cX12_goesOn 11 = .ok (.iconst 1, 1) := dgX12_goesOn_0 (11, (.iconst 1, 1)) (List.mem_of_getElem? (i := 9) rfl)
theorem dX12_goesOn_12 : decode cX12_goesOn 12 = .ok (.iadd, 1) := dgX12_goesOn_0 (12, (.iadd, 1)) (List.mem_of_getElem? (i := 10) rfl)
theorem dX12_goesOn_13 : decode cX12_goesOn 13 = .ok (.invokevirtual 437, 3) := dgX12_goesOn_0 (13, (.invokevirtual 437, 3)) (List.mem_of_getElem? (i := 11) rfl)
theorem dX12_goesOn_16 : decode cX12_goesOn 16 = .ok (.istore 4, 2) := dgX12_goesOn_0 (16, (.istore 4, 2)) (List.mem_of_getElem? (i := 12) rfl)
theorem dX12_goesOn_18 : decode cX12_goesOn 18 = .ok (.iconst 0, 1) := dgX12_goesOn_0 (18, (.iconst 0, 1)) (List.mem_of_getElem? (i := 13) rfl)
theorem dX12_goesOn_19 : decode cX12_goesOn 19 = .ok (.istore 5, 2) := dgX12_goesOn_0 (19, (.istore 5, 2)) (List.mem_of_getElem? (i := 14) rfl)
theorem dX12_goesOn_21 : decode cX12_goesOn 21 = .ok (.iload 5, 2) := dgX12_goesOn_0 (21, (.iload 5, 2)) (List.mem_of_getElem? (i := 15) rfl)
theorem dX12_goesOn_23 : decode cX12_goesOn 23 = .ok (.bipush 32, 2) := dgX12_goesOn_0 (23, (.bipush 32, 2)) (List.mem_of_getElem? (i := 16) rfl)
theorem dX12_goesOn_25 : decode cX12_goesOn 25 = .ok (.if_icmp .ge 70, 3) := dgX12_goesOn_0 (25, (.if_icmp .ge 70, 3)) (List.mem_of_getElem? (i := 17) rfl)
theorem dX12_goesOn_28 : decode cX12_goesOn 28 = .ok (.iload 4, 2) := dgX12_goesOn_0 (28, (.iload 4, 2)) (List.mem_of_getElem? (i := 18) rfl)
theorem dX12_goesOn_30 : decode cX12_goesOn 30 = .ok (.iconst (-1), 1) := dgX12_goesOn_0 (30, (.iconst (-1), 1)) (List.mem_of_getElem? (i := 19) rfl)
theorem dX12_goesOn_31 : decode cX12_goesOn 31 = .ok (.if_icmp .eq 64, 3) := dgX12_goesOn_0 (31, (.if_icmp .eq 64, 3)) (List.mem_of_getElem? (i := 20) rfl)
theorem dX12_goesOn_34 : decode cX12_goesOn 34 = .ok (.aload_n 0, 1) := dgX12_goesOn_0 (34, (.aload_n 0, 1)) (List.mem_of_getElem? (i := 21) rfl)
theorem dX12_goesOn_35 : decode cX12_goesOn 35 = .ok (.getfield 89, 3) := dgX12_goesOn_0 (35, (.getfield 89, 3)) (List.mem_of_getElem? (i := 22) rfl)
theorem dX12_goesOn_38 : decode cX12_goesOn 38 = .ok (.bipush 32, 2) := dgX12_goesOn_0 (38, (.bipush 32, 2)) (List.mem_of_getElem? (i := 23) rfl)
theorem dX12_goesOn_40 : decode cX12_goesOn 40 = .ok (.bipush 64, 2) := dgX12_goesOn_0 (40, (.bipush 64, 2)) (List.mem_of_getElem? (i := 24) rfl)
theorem dX12_goesOn_42 : decode cX12_goesOn 42 = .ok (.iload_n 1, 1) := dgX12_goesOn_0 (42, (.iload_n 1, 1)) (List.mem_of_getElem? (i := 25) rfl)
theorem dX12_goesOn_43 : decode cX12_goesOn 43 = .ok (.iconst 1, 1) := dgX12_goesOn_0 (43, (.iconst 1, 1)) (List.mem_of_getElem? (i := 26) rfl)
theorem dX12_goesOn_44 : decode cX12_goesOn 44 = .ok (.iadd, 1) := dgX12_goesOn_0 (44, (.iadd, 1)) (List.mem_of_getElem? (i := 27) rfl)
theorem dX12_goesOn_45 : decode cX12_goesOn 45 = .ok (.imul, 1) := dgX12_goesOn_0 (45, (.imul, 1)) (List.mem_of_getElem? (i := 28) rfl)
theorem dX12_goesOn_46 : decode cX12_goesOn 46 = .ok (.iload 4, 2) := dgX12_goesOn_0 (46, (.iload 4, 2)) (List.mem_of_getElem? (i := 29) rfl)
theorem dX12_goesOn_48 : decode cX12_goesOn 48 = .ok (.iadd, 1) := dgX12_goesOn_0 (48, (.iadd, 1)) (List.mem_of_getElem? (i := 30) rfl)
theorem dX12_goesOn_49 : decode cX12_goesOn 49 = .ok (.imul, 1) := dgX12_goesOn_0 (49, (.imul, 1)) (List.mem_of_getElem? (i := 31) rfl)
theorem dX12_goesOn_50 : decode cX12_goesOn 50 = .ok (.iload 5, 2) := dgX12_goesOn_0 (50, (.iload 5, 2)) (List.mem_of_getElem? (i := 32) rfl)
theorem dX12_goesOn_52 : decode cX12_goesOn 52 = .ok (.aload_n 0, 1) := dgX12_goesOn_0 (52, (.aload_n 0, 1)) (List.mem_of_getElem? (i := 33) rfl)
theorem dX12_goesOn_53 : decode cX12_goesOn 53 = .ok (.getfield 95, 3) := dgX12_goesOn_0 (53, (.getfield 95, 3)) (List.mem_of_getElem? (i := 34) rfl)
theorem dX12_goesOn_56 : decode cX12_goesOn 56 = .ok (.bipush 64, 2) := dgX12_goesOn_0 (56, (.bipush 64, 2)) (List.mem_of_getElem? (i := 35) rfl)
theorem dX12_goesOn_58 : decode cX12_goesOn 58 = .ok (.iload_n 1, 1) := dgX12_goesOn_0 (58, (.iload_n 1, 1)) (List.mem_of_getElem? (i := 36) rfl)
theorem dX12_goesOn_59 : decode cX12_goesOn 59 = .ok (.iconst 1, 1) := dgX12_goesOn_0 (59, (.iconst 1, 1)) (List.mem_of_getElem? (i := 37) rfl)
theorem dX12_goesOn_60 : decode cX12_goesOn 60 = .ok (.iadd, 1) := dgX12_goesOn_0 (60, (.iadd, 1)) (List.mem_of_getElem? (i := 38) rfl)
theorem dX12_goesOn_61 : decode cX12_goesOn 61 = .ok (.imul, 1) := dgX12_goesOn_0 (61, (.imul, 1)) (List.mem_of_getElem? (i := 39) rfl)
theorem dgX12_goesOn_1 : ∀ r ∈ ([(62, (.iload 4, 2)), (64, (.iadd, 1)), (65, (.iaload, 1)), (66, (.ior, 1)), (67, (.iadd, 1)), (68, (.dup2, 1)), (69, (.laload, 1)), (70, (.aload_n 0, 1)), (71, (.getfield 89, 3)), (74, (.bipush 32, 2)), (76, (.bipush 64, 2)), (78, (.iload_n 1, 1)), (79, (.imul, 1)), (80, (.iload_n 2, 1)), (81, (.iadd, 1)), (82, (.imul, 1)), (83, (.iload 5, 2)), (85, (.iadd, 1)), (86, (.laload, 1)), (87, (.ladd, 1)), (88, (.lastore, 1)), (89, (.iinc 5 1, 3)), (92, (.goto (-71), 3)), (95, (.iinc 3 1, 3)), (98, (.goto (-96), 3)), (101, (.return_, 1))] : List (Nat × (Instr × Nat))), decode cX12_goesOn r.1 = .ok r.2 := by decide +kernel
theorem dX12_goesOn_62 : decode cX12_goesOn 62 = .ok (.iload 4, 2) := dgX12_goesOn_1 (62, (.iload 4, 2)) (List.mem_of_getElem? (i := 0) rfl)
theorem dX12_goesOn_64 : decode cX12_goesOn 64 = .ok (.iadd, 1) := dgX12_goesOn_1 (64, (.iadd, 1)) (List.mem_of_getElem? (i := 1) rfl)
theorem dX12_goesOn_65 : decode cX12_goesOn 65 = .ok (.iaload, 1) := dgX12_goesOn_1 (65, (.iaload, 1)) (List.mem_of_getElem? (i := 2) rfl)
theorem dX12_goesOn_66 : decode cX12_goesOn 66 = .ok (.ior, 1) := dgX12_goesOn_1 (66, (.ior, 1)) (List.mem_of_getElem? (i := 3) rfl)
theorem dX12_goesOn_67 : decode cX12_goesOn 67 = .ok (.iadd, 1) := dgX12_goesOn_1 (67, (.iadd, 1)) (List.mem_of_getElem? (i := 4) rfl)
theorem dX12_goesOn_68 : decode cX12_goesOn 68 = .ok (.dup2, 1) := dgX12_goesOn_1 (68, (.dup2, 1)) (List.mem_of_getElem? (i := 5) rfl)
theorem dX12_goesOn_69 : decode cX12_goesOn 69 = .ok (.laload, 1) := dgX12_goesOn_1 (69, (.laload, 1)) (List.mem_of_getElem? (i := 6) rfl)
theorem dX12_goesOn_70 : decode cX12_goesOn 70 = .ok (.aload_n 0, 1) := dgX12_goesOn_1 (70, (.aload_n 0, 1)) (List.mem_of_getElem? (i := 7) rfl)
theorem dX12_goesOn_71 : decode cX12_goesOn 71 = .ok (.getfield 89, 3) := dgX12_goesOn_1 (71, (.getfield 89, 3)) (List.mem_of_getElem? (i := 8) rfl)
theorem dX12_goesOn_74 : decode cX12_goesOn 74 = .ok (.bipush 32, 2) := dgX12_goesOn_1 (74, (.bipush 32, 2)) (List.mem_of_getElem? (i := 9) rfl)
theorem dX12_goesOn_76 : decode cX12_goesOn 76 = .ok (.bipush 64, 2) := dgX12_goesOn_1 (76, (.bipush 64, 2)) (List.mem_of_getElem? (i := 10) rfl)
theorem dX12_goesOn_78 : decode cX12_goesOn 78 = .ok (.iload_n 1, 1) := dgX12_goesOn_1 (78, (.iload_n 1, 1)) (List.mem_of_getElem? (i := 11) rfl)
theorem dX12_goesOn_79 : decode cX12_goesOn 79 = .ok (.imul, 1) := dgX12_goesOn_1 (79, (.imul, 1)) (List.mem_of_getElem? (i := 12) rfl)
theorem dX12_goesOn_80 : decode cX12_goesOn 80 = .ok (.iload_n 2, 1) := dgX12_goesOn_1 (80, (.iload_n 2, 1)) (List.mem_of_getElem? (i := 13) rfl)
theorem dX12_goesOn_81 : decode cX12_goesOn 81 = .ok (.iadd, 1) := dgX12_goesOn_1 (81, (.iadd, 1)) (List.mem_of_getElem? (i := 14) rfl)
theorem dX12_goesOn_82 : decode cX12_goesOn 82 = .ok (.imul, 1) := dgX12_goesOn_1 (82, (.imul, 1)) (List.mem_of_getElem? (i := 15) rfl)
theorem dX12_goesOn_83 : decode cX12_goesOn 83 = .ok (.iload 5, 2) := dgX12_goesOn_1 (83, (.iload 5, 2)) (List.mem_of_getElem? (i := 16) rfl)
theorem dX12_goesOn_85 : decode cX12_goesOn 85 = .ok (.iadd, 1) := dgX12_goesOn_1 (85, (.iadd, 1)) (List.mem_of_getElem? (i := 17) rfl)
theorem dX12_goesOn_86 : decode cX12_goesOn 86 = .ok (.laload, 1) := dgX12_goesOn_1 (86, (.laload, 1)) (List.mem_of_getElem? (i := 18) rfl)
theorem dX12_goesOn_87 : decode cX12_goesOn 87 = .ok (.ladd, 1) := dgX12_goesOn_1 (87, (.ladd, 1)) (List.mem_of_getElem? (i := 19) rfl)
theorem dX12_goesOn_88 : decode cX12_goesOn 88 = .ok (.lastore, 1) := dgX12_goesOn_1 (88, (.lastore, 1)) (List.mem_of_getElem? (i := 20) rfl)
theorem dX12_goesOn_89 : decode cX12_goesOn 89 = .ok (.iinc 5 1, 3) := dgX12_goesOn_1 (89, (.iinc 5 1, 3)) (List.mem_of_getElem? (i := 21) rfl)
theorem dX12_goesOn_92 : decode cX12_goesOn 92 = .ok (.goto (-71), 3) := dgX12_goesOn_1 (92, (.goto (-71), 3)) (List.mem_of_getElem? (i := 22) rfl)
theorem dX12_goesOn_95 : decode cX12_goesOn 95 = .ok (.iinc 3 1, 3) := dgX12_goesOn_1 (95, (.iinc 3 1, 3)) (List.mem_of_getElem? (i := 23) rfl)
theorem dX12_goesOn_98 : decode cX12_goesOn 98 = .ok (.goto (-96), 3) := dgX12_goesOn_1 (98, (.goto (-96), 3)) (List.mem_of_getElem? (i := 24) rfl)
theorem dX12_goesOn_101 : decode cX12_goesOn 101 = .ok (.return_, 1) := dgX12_goesOn_1 (101, (.return_, 1)) (List.mem_of_getElem? (i := 25) rfl)
theorem ml_X12_437 : Cond.methodLink RX12 437 yX12_step ∈ tblG := tg 1728 (by decide +kernel) (by decide +kernel)
theorem im_X12_step : Cond.instanceMethod yX12_step ∈ tblG := tg 1730 (by decide +kernel) (by decide +kernel)
theorem se_X12_step : Cond.selects RX12 yX12_step yX12_step ∈ tblG := tg 79 (by decide +kernel) (by decide +kernel)
theorem cd_X12_step : Cond.code yX12_step cX12_step 5 (some .int) ∈ tblG := tg 1731 (by decide +kernel) (by decide +kernel)
theorem gW_X12_step : GoodIn tblG (wsG yX12_step cX12_step 5 (some .int)) := tgi cd_X12_step
theorem gV_X12_437 : GoodIn tblG (wsV RX12 437 RX12 yX12_step (wsG yX12_step cX12_step 5 (some .int))) := tgV ml_X12_437 im_X12_step se_X12_step ini_X12 gW_X12_step
theorem hv_X12_step : yX12_step.cls = RX12 ∧ yX12_step.cls ≠ "java/lang/invoke/MethodHandle" ∧ yX12_step.cls ≠ "java/lang/invoke/VarHandle" ∧ (parseMethodDescriptor yX12_step.desc).map (fun d => d.parameters.length) = some 3 := by decide +kernel
theorem fl_X12_89 : Cond.fieldLink RX12 89 "LateGlassModel" "ahead" "[J" ∈ tblG := tg 1246 (by decide +kernel) (by decide +kernel)
theorem dgX12_comesFrom_0 : ∀ r ∈ ([(0, (.iconst 0, 1)), (1, (.istore_n 3, 1)), (2, (.iload_n 3, 1)), (3, (.iconst 5, 1)), (4, (.if_icmp .ge 97, 3)), (7, (.aload_n 0, 1)), (8, (.iload_n 2, 1)), (9, (.iload_n 3, 1)), (10, (.iload_n 1, 1)), (11, (.iconst 1, 1)), (12, (.iadd, 1)), (13, (.invokevirtual 437, 3)), (16, (.istore 4, 2)), (18, (.iconst 0, 1)), (19, (.istore 5, 2)), (21, (.iload 5, 2)), (23, (.bipush 32, 2)), (25, (.if_icmp .ge 70, 3)), (28, (.iload 4, 2)), (30, (.iconst (-1), 1)), (31, (.if_icmp .eq 64, 3)), (34, (.aload_n 0, 1)), (35, (.getfield 92, 3)), (38, (.bipush 32, 2)), (40, (.bipush 64, 2)), (42, (.iload_n 1, 1)), (43, (.imul, 1)), (44, (.iload_n 2, 1)), (45, (.iadd, 1)), (46, (.imul, 1)), (47, (.iload 5, 2)), (49, (.iadd, 1)), (50, (.dup2, 1)), (51, (.laload, 1)), (52, (.aload_n 0, 1)), (53, (.getfield 92, 3)), (56, (.bipush 32, 2)), (58, (.bipush 64, 2)), (60, (.iload_n 1, 1)), (61, (.iconst 1, 1))] : List (Nat × (Instr × Nat))), decode cX12_comesFrom r.1 = .ok r.2 := by decide +kernel
theorem dX12_comesFrom_0 : decode cX12_comesFrom 0 = .ok (.iconst 0, 1) := dgX12_comesFrom_0 (0, (.iconst 0, 1)) (List.mem_of_getElem? (i := 0) rfl)
theorem dX12_comesFrom_1 : decode cX12_comesFrom 1 = .ok (.istore_n 3, 1) := dgX12_comesFrom_0 (1, (.istore_n 3, 1)) (List.mem_of_getElem? (i := 1) rfl)
theorem dX12_comesFrom_2 : decode cX12_comesFrom 2 = .ok (.iload_n 3, 1) := dgX12_comesFrom_0 (2, (.iload_n 3, 1)) (List.mem_of_getElem? (i := 2) rfl)
theorem dX12_comesFrom_3 : decode cX12_comesFrom 3 = .ok (.iconst 5, 1) := dgX12_comesFrom_0 (3, (.iconst 5, 1)) (List.mem_of_getElem? (i := 3) rfl)
theorem dX12_comesFrom_4 : decode cX12_comesFrom 4 = .ok (.if_icmp .ge 97, 3) := dgX12_comesFrom_0 (4, (.if_icmp .ge 97, 3)) (List.mem_of_getElem? (i := 4) rfl)
theorem dX12_comesFrom_7 : decode cX12_comesFrom 7 = .ok (.aload_n 0, 1) := dgX12_comesFrom_0 (7, (.aload_n 0, 1)) (List.mem_of_getElem? (i := 5) rfl)
theorem dX12_comesFrom_8 : decode cX12_comesFrom 8 = .ok (.iload_n 2, 1) := dgX12_comesFrom_0 (8, (.iload_n 2, 1)) (List.mem_of_getElem? (i := 6) rfl)
theorem dX12_comesFrom_9 : decode cX12_comesFrom 9 = .ok (.iload_n 3, 1) := dgX12_comesFrom_0 (9, (.iload_n 3, 1)) (List.mem_of_getElem? (i := 7) rfl)
theorem dX12_comesFrom_10 : decode cX12_comesFrom 10 = .ok (.iload_n 1, 1) := dgX12_comesFrom_0 (10, (.iload_n 1, 1)) (List.mem_of_getElem? (i := 8) rfl)
theorem dX12_comesFrom_11 : decode cX12_comesFrom 11 = .ok (.iconst 1, 1) := dgX12_comesFrom_0 (11, (.iconst 1, 1)) (List.mem_of_getElem? (i := 9) rfl)
theorem dX12_comesFrom_12 : decode cX12_comesFrom 12 = .ok (.iadd, 1) := dgX12_comesFrom_0 (12, (.iadd, 1)) (List.mem_of_getElem? (i := 10) rfl)
theorem dX12_comesFrom_13 : decode cX12_comesFrom 13 = .ok (.invokevirtual 437, 3) := dgX12_comesFrom_0 (13, (.invokevirtual 437, 3)) (List.mem_of_getElem? (i := 11) rfl)
theorem dX12_comesFrom_16 : decode cX12_comesFrom 16 = .ok (.istore 4, 2) := dgX12_comesFrom_0 (16, (.istore 4, 2)) (List.mem_of_getElem? (i := 12) rfl)
theorem dX12_comesFrom_18 : decode cX12_comesFrom 18 = .ok (.iconst 0, 1) := dgX12_comesFrom_0 (18, (.iconst 0, 1)) (List.mem_of_getElem? (i := 13) rfl)
theorem dX12_comesFrom_19 : decode cX12_comesFrom 19 = .ok (.istore 5, 2) := dgX12_comesFrom_0 (19, (.istore 5, 2)) (List.mem_of_getElem? (i := 14) rfl)
theorem dX12_comesFrom_21 : decode cX12_comesFrom 21 = .ok (.iload 5, 2) := dgX12_comesFrom_0 (21, (.iload 5, 2)) (List.mem_of_getElem? (i := 15) rfl)
theorem dX12_comesFrom_23 : decode cX12_comesFrom 23 = .ok (.bipush 32, 2) := dgX12_comesFrom_0 (23, (.bipush 32, 2)) (List.mem_of_getElem? (i := 16) rfl)
theorem dX12_comesFrom_25 : decode cX12_comesFrom 25 = .ok (.if_icmp .ge 70, 3) := dgX12_comesFrom_0 (25, (.if_icmp .ge 70, 3)) (List.mem_of_getElem? (i := 17) rfl)
theorem dX12_comesFrom_28 : decode cX12_comesFrom 28 = .ok (.iload 4, 2) := dgX12_comesFrom_0 (28, (.iload 4, 2)) (List.mem_of_getElem? (i := 18) rfl)
theorem dX12_comesFrom_30 : decode cX12_comesFrom 30 = .ok (.iconst (-1), 1) := dgX12_comesFrom_0 (30, (.iconst (-1), 1)) (List.mem_of_getElem? (i := 19) rfl)
theorem dX12_comesFrom_31 : decode cX12_comesFrom 31 = .ok (.if_icmp .eq 64, 3) := dgX12_comesFrom_0 (31, (.if_icmp .eq 64, 3)) (List.mem_of_getElem? (i := 20) rfl)
theorem dX12_comesFrom_34 : decode cX12_comesFrom 34 = .ok (.aload_n 0, 1) := dgX12_comesFrom_0 (34, (.aload_n 0, 1)) (List.mem_of_getElem? (i := 21) rfl)
theorem dX12_comesFrom_35 : decode cX12_comesFrom 35 = .ok (.getfield 92, 3) := dgX12_comesFrom_0 (35, (.getfield 92, 3)) (List.mem_of_getElem? (i := 22) rfl)
theorem dX12_comesFrom_38 : decode cX12_comesFrom 38 = .ok (.bipush 32, 2) := dgX12_comesFrom_0 (38, (.bipush 32, 2)) (List.mem_of_getElem? (i := 23) rfl)
theorem dX12_comesFrom_40 : decode cX12_comesFrom 40 = .ok (.bipush 64, 2) := dgX12_comesFrom_0 (40, (.bipush 64, 2)) (List.mem_of_getElem? (i := 24) rfl)
theorem dX12_comesFrom_42 : decode cX12_comesFrom 42 = .ok (.iload_n 1, 1) := dgX12_comesFrom_0 (42, (.iload_n 1, 1)) (List.mem_of_getElem? (i := 25) rfl)
theorem dX12_comesFrom_43 : decode cX12_comesFrom 43 = .ok (.imul, 1) := dgX12_comesFrom_0 (43, (.imul, 1)) (List.mem_of_getElem? (i := 26) rfl)
theorem dX12_comesFrom_44 : decode cX12_comesFrom 44 = .ok (.iload_n 2, 1) := dgX12_comesFrom_0 (44, (.iload_n 2, 1)) (List.mem_of_getElem? (i := 27) rfl)
theorem dX12_comesFrom_45 : decode cX12_comesFrom 45 = .ok (.iadd, 1) := dgX12_comesFrom_0 (45, (.iadd, 1)) (List.mem_of_getElem? (i := 28) rfl)
theorem dX12_comesFrom_46 : decode cX12_comesFrom 46 = .ok (.imul, 1) := dgX12_comesFrom_0 (46, (.imul, 1)) (List.mem_of_getElem? (i := 29) rfl)
theorem dX12_comesFrom_47 : decode cX12_comesFrom 47 = .ok (.iload 5, 2) := dgX12_comesFrom_0 (47, (.iload 5, 2)) (List.mem_of_getElem? (i := 30) rfl)
theorem dX12_comesFrom_49 : decode cX12_comesFrom 49 = .ok (.iadd, 1) := dgX12_comesFrom_0 (49, (.iadd, 1)) (List.mem_of_getElem? (i := 31) rfl)
theorem dX12_comesFrom_50 : decode cX12_comesFrom 50 = .ok (.dup2, 1) := dgX12_comesFrom_0 (50, (.dup2, 1)) (List.mem_of_getElem? (i := 32) rfl)
theorem dX12_comesFrom_51 : decode cX12_comesFrom 51 = .ok (.laload, 1) := dgX12_comesFrom_0 (51, (.laload, 1)) (List.mem_of_getElem? (i := 33) rfl)
theorem dX12_comesFrom_52 : decode cX12_comesFrom 52 = .ok (.aload_n 0, 1) := dgX12_comesFrom_0 (52, (.aload_n 0, 1)) (List.mem_of_getElem? (i := 34) rfl)
theorem dX12_comesFrom_53 : decode cX12_comesFrom 53 = .ok (.getfield 92, 3) := dgX12_comesFrom_0 (53, (.getfield 92, 3)) (List.mem_of_getElem? (i := 35) rfl)
theorem dX12_comesFrom_56 : decode cX12_comesFrom 56 = .ok (.bipush 32, 2) := dgX12_comesFrom_0 (56, (.bipush 32, 2)) (List.mem_of_getElem? (i := 36) rfl)
theorem dX12_comesFrom_58 : decode cX12_comesFrom 58 = .ok (.bipush 64, 2) := dgX12_comesFrom_0 (58, (.bipush 64, 2)) (List.mem_of_getElem? (i := 37) rfl)
theorem dX12_comesFrom_60 : decode cX12_comesFrom 60 = .ok (.iload_n 1, 1) := dgX12_comesFrom_0 (60, (.iload_n 1, 1)) (List.mem_of_getElem? (i := 38) rfl)
theorem dX12_comesFrom_61 : decode cX12_comesFrom 61 = .ok (.iconst 1, 1) := dgX12_comesFrom_0 (61, (.iconst 1, 1)) (List.mem_of_getElem? (i := 39) rfl)
theorem dgX12_comesFrom_1 : ∀ r ∈ ([(62, (.iadd, 1)), (63, (.imul, 1)), (64, (.iload 4, 2)), (66, (.iadd, 1)), (67, (.imul, 1)), (68, (.iload 5, 2)), (70, (.aload_n 0, 1)), (71, (.getfield 95, 3)), (74, (.bipush 64, 2)), (76, (.iload_n 1, 1)), (77, (.iconst 1, 1)), (78, (.iadd, 1)), (79, (.imul, 1)), (80, (.iload 4, 2)), (82, (.iadd, 1)), (83, (.iaload, 1)), (84, (.ior, 1)), (85, (.iadd, 1)), (86, (.laload, 1)), (87, (.ladd, 1)), (88, (.lastore, 1)), (89, (.iinc 5 1, 3)), (92, (.goto (-71), 3)), (95, (.iinc 3 1, 3)), (98, (.goto (-96), 3)), (101, (.return_, 1))] : List (Nat × (Instr × Nat))), decode cX12_comesFrom r.1 = .ok r.2 := by decide +kernel
theorem dX12_comesFrom_62 : decode cX12_comesFrom 62 = .ok (.iadd, 1) := dgX12_comesFrom_1 (62, (.iadd, 1)) (List.mem_of_getElem? (i := 0) rfl)
theorem dX12_comesFrom_63 : decode cX12_comesFrom 63 = .ok (.imul, 1) := dgX12_comesFrom_1 (63, (.imul, 1)) (List.mem_of_getElem? (i := 1) rfl)
theorem dX12_comesFrom_64 : decode cX12_comesFrom 64 = .ok (.iload 4, 2) := dgX12_comesFrom_1 (64, (.iload 4, 2)) (List.mem_of_getElem? (i := 2) rfl)
theorem dX12_comesFrom_66 : decode cX12_comesFrom 66 = .ok (.iadd, 1) := dgX12_comesFrom_1 (66, (.iadd, 1)) (List.mem_of_getElem? (i := 3) rfl)
theorem dX12_comesFrom_67 : decode cX12_comesFrom 67 = .ok (.imul, 1) := dgX12_comesFrom_1 (67, (.imul, 1)) (List.mem_of_getElem? (i := 4) rfl)
theorem dX12_comesFrom_68 : decode cX12_comesFrom 68 = .ok (.iload 5, 2) := dgX12_comesFrom_1 (68, (.iload 5, 2)) (List.mem_of_getElem? (i := 5) rfl)
theorem dX12_comesFrom_70 : decode cX12_comesFrom 70 = .ok (.aload_n 0, 1) := dgX12_comesFrom_1 (70, (.aload_n 0, 1)) (List.mem_of_getElem? (i := 6) rfl)
theorem dX12_comesFrom_71 : decode cX12_comesFrom 71 = .ok (.getfield 95, 3) := dgX12_comesFrom_1 (71, (.getfield 95, 3)) (List.mem_of_getElem? (i := 7) rfl)
theorem dX12_comesFrom_74 : decode cX12_comesFrom 74 = .ok (.bipush 64, 2) := dgX12_comesFrom_1 (74, (.bipush 64, 2)) (List.mem_of_getElem? (i := 8) rfl)
theorem dX12_comesFrom_76 : decode cX12_comesFrom 76 = .ok (.iload_n 1, 1) := dgX12_comesFrom_1 (76, (.iload_n 1, 1)) (List.mem_of_getElem? (i := 9) rfl)
theorem dX12_comesFrom_77 : decode cX12_comesFrom 77 = .ok (.iconst 1, 1) := dgX12_comesFrom_1 (77, (.iconst 1, 1)) (List.mem_of_getElem? (i := 10) rfl)
theorem dX12_comesFrom_78 : decode cX12_comesFrom 78 = .ok (.iadd, 1) := dgX12_comesFrom_1 (78, (.iadd, 1)) (List.mem_of_getElem? (i := 11) rfl)
theorem dX12_comesFrom_79 : decode cX12_comesFrom 79 = .ok (.imul, 1) := dgX12_comesFrom_1 (79, (.imul, 1)) (List.mem_of_getElem? (i := 12) rfl)
theorem dX12_comesFrom_80 : decode cX12_comesFrom 80 = .ok (.iload 4, 2) := dgX12_comesFrom_1 (80, (.iload 4, 2)) (List.mem_of_getElem? (i := 13) rfl)
theorem dX12_comesFrom_82 : decode cX12_comesFrom 82 = .ok (.iadd, 1) := dgX12_comesFrom_1 (82, (.iadd, 1)) (List.mem_of_getElem? (i := 14) rfl)
theorem dX12_comesFrom_83 : decode cX12_comesFrom 83 = .ok (.iaload, 1) := dgX12_comesFrom_1 (83, (.iaload, 1)) (List.mem_of_getElem? (i := 15) rfl)
theorem dX12_comesFrom_84 : decode cX12_comesFrom 84 = .ok (.ior, 1) := dgX12_comesFrom_1 (84, (.ior, 1)) (List.mem_of_getElem? (i := 16) rfl)
theorem dX12_comesFrom_85 : decode cX12_comesFrom 85 = .ok (.iadd, 1) := dgX12_comesFrom_1 (85, (.iadd, 1)) (List.mem_of_getElem? (i := 17) rfl)
theorem dX12_comesFrom_86 : decode cX12_comesFrom 86 = .ok (.laload, 1) := dgX12_comesFrom_1 (86, (.laload, 1)) (List.mem_of_getElem? (i := 18) rfl)
theorem dX12_comesFrom_87 : decode cX12_comesFrom 87 = .ok (.ladd, 1) := dgX12_comesFrom_1 (87, (.ladd, 1)) (List.mem_of_getElem? (i := 19) rfl)
theorem dX12_comesFrom_88 : decode cX12_comesFrom 88 = .ok (.lastore, 1) := dgX12_comesFrom_1 (88, (.lastore, 1)) (List.mem_of_getElem? (i := 20) rfl)
theorem dX12_comesFrom_89 : decode cX12_comesFrom 89 = .ok (.iinc 5 1, 3) := dgX12_comesFrom_1 (89, (.iinc 5 1, 3)) (List.mem_of_getElem? (i := 21) rfl)
theorem dX12_comesFrom_92 : decode cX12_comesFrom 92 = .ok (.goto (-71), 3) := dgX12_comesFrom_1 (92, (.goto (-71), 3)) (List.mem_of_getElem? (i := 22) rfl)
theorem dX12_comesFrom_95 : decode cX12_comesFrom 95 = .ok (.iinc 3 1, 3) := dgX12_comesFrom_1 (95, (.iinc 3 1, 3)) (List.mem_of_getElem? (i := 23) rfl)
theorem dX12_comesFrom_98 : decode cX12_comesFrom 98 = .ok (.goto (-96), 3) := dgX12_comesFrom_1 (98, (.goto (-96), 3)) (List.mem_of_getElem? (i := 24) rfl)
theorem dX12_comesFrom_101 : decode cX12_comesFrom 101 = .ok (.return_, 1) := dgX12_comesFrom_1 (101, (.return_, 1)) (List.mem_of_getElem? (i := 25) rfl)
theorem fl_X12_92 : Cond.fieldLink RX12 92 "LateGlassModel" "behind" "[J" ∈ tblG := tg 1247 (by decide +kernel) (by decide +kernel)
set_option maxHeartbeats 4000000 in
set_option maxRecDepth 100000 in
theorem n_comesFrom (l : Launch) (G : g5_G) (b_o b_be b_me b_rf b_ro b_im b_ke b_tp b_nl b_op b_ar b_pi b_pa b_ws b_hw b_se b_re b_pt b_ip b_ah b_tr b_ld b_wn : Nat) (sz : Nat) (u_th : Int32) (u_sa : Int32) (u_fd : Int32) (u_td : Int32) (u_fr : Int32) (u_to : Int32) (u_so : Int32) (u_fa : Int32) (u_bd : Int32) (u_nc : Int32) (u_co : Int32) (u_le : Int32) (u_pd : Int32) (u_od : Int32) (u_la : Int32) (u_bk : Int32) (u_ce : Int32) (u_ho : Int32) (u_wy : Int32) (u_bt : Int32) (u_ps : Int32) (u_tg : Int32) (u_sn : Int32) (u_ic : Int32) (u_wd : Int32) (u_id : Int32) (p_1 : Int32) (p_2 : Int32) (u_wo : Int64) (u_va : Int64) (u_su : Int64) (u_st : Int64) (v_be : Nat → Int64) (v_me : Nat → Int32) (h_u_td : 0 ≤ u_td.toInt ∧ u_td.toInt ≤ 400) (h_u_fr : 0 ≤ u_fr.toInt ∧ u_fr.toInt ≤ 400) (h_u_to : 0 ≤ u_to.toInt ∧ u_to.toInt ≤ 400) (h_u_bd : 0 ≤ u_bd.toInt ∧ u_bd.toInt ≤ 1) (h_u_nc : 0 ≤ u_nc.toInt ∧ u_nc.toInt ≤ 12) (h_u_co : 0 ≤ u_co.toInt ∧ u_co.toInt ≤ 400) (h_u_pd : 0 ≤ u_pd.toInt ∧ u_pd.toInt ≤ 400) (h_u_la : 0 ≤ u_la.toInt ∧ u_la.toInt ≤ 4840) (h_u_bk : 0 ≤ u_bk.toInt ∧ u_bk.toInt ≤ 1) (h_u_ce : 0 ≤ u_ce.toInt ∧ u_ce.toInt ≤ 63) (h_u_ho : 0 ≤ u_ho.toInt ∧ u_ho.toInt ≤ 23) (h_u_wy : 0 ≤ u_wy.toInt ∧ u_wy.toInt ≤ 3) (h_u_bt : 0 ≤ u_bt.toInt ∧ u_bt.toInt ≤ 1000000) (h_u_ps : 0 ≤ u_ps.toInt ∧ u_ps.toInt ≤ 200) (h_u_ic : 0 ≤ u_ic.toInt ∧ u_ic.toInt ≤ 1) (h_u_id : 0 ≤ u_id.toInt ∧ u_id.toInt ≤ 1) (h_p_1 : 0 ≤ p_1.toInt ∧ p_1.toInt ≤ 22) (h_p_2 : 0 ≤ p_2.toInt ∧ p_2.toInt ≤ 63) (r_me : MEI v_me) : Met l yX12_comesFrom (wsG yX12_comesFrom cX12_comesFrom 6 none) ({ frames := 2, cells := 0, slots := 0, locals := 45 }) (va_Pc [.ref b_o, .int p_1, .int p_2] (g5_P G [(b_o, (oc12 u_th u_sa b_rf b_ro b_im b_ke u_fd b_tp u_td u_fr u_to u_so u_wo u_fa u_bd u_nc b_nl u_co b_op b_ar u_le b_pi b_pa u_pd u_od b_ws b_hw u_la b_se b_re u_bk u_va u_su u_ce u_ho u_wy u_bt u_ps b_pt u_tg u_sn b_ip u_ic b_ah b_be b_me u_wd b_tr b_ld u_st b_wn u_id)), (b_be, (arJ G 49152 v_be)), (b_me, (arI G 1536 v_me))] sz)) (va_Qv (fun (u : va_W) => (∃ (o_be : Nat → Int64), (u = [(b_o, (oc12 u_th u_sa b_rf b_ro b_im b_ke u_fd b_tp u_td u_fr u_to u_so u_wo u_fa u_bd u_nc b_nl u_co b_op b_ar u_le b_pi b_pa u_pd u_od b_ws b_hw u_la b_se b_re u_bk u_va u_su u_ce u_ho u_wy u_bt u_ps b_pt u_tg u_sn b_ip u_ic b_ah b_be b_me u_wd b_tr b_ld u_st b_wn u_id)), (b_be, (arJ G 49152 o_be)), (b_me, (arI G 1536 v_me))]))) (g5_B G (va_A [(b_o, (oc12 u_th u_sa b_rf b_ro b_im b_ke u_fd b_tp u_td u_fr u_to u_so u_wo u_fa u_bd u_nc b_nl u_co b_op b_ar u_le b_pi b_pa u_pd u_od b_ws b_hw u_la b_se b_re u_bk u_va u_su u_ce u_ho u_wy u_bt u_ps b_pt u_tg u_sn b_ip u_ic b_ah b_be b_me u_wd b_tr b_ld u_st b_wn u_id)), (b_be, (arJ G 49152 v_be)), (b_me, (arI G 1536 v_me))] sz)) (va_A [(b_o, (oc12 u_th u_sa b_rf b_ro b_im b_ke u_fd b_tp u_td u_fr u_to u_so u_wo u_fa u_bd u_nc b_nl u_co b_op b_ar u_le b_pi b_pa u_pd u_od b_ws b_hw u_la b_se b_re u_bk u_va u_su u_ce u_ho u_wy u_bt u_ps b_pt u_tg u_sn b_ip u_ic b_ah b_be b_me u_wd b_tr b_ld u_st b_wn u_id)), (b_be, (arJ G 49152 v_be)), (b_me, (arI G 1536 v_me))] sz)) 0 0 (va_A [(b_o, (oc12 u_th u_sa b_rf b_ro b_im b_ke u_fd b_tp u_td u_fr u_to u_so u_wo u_fa u_bd u_nc b_nl u_co b_op b_ar u_le b_pi b_pa u_pd u_od b_ws b_hw u_la b_se b_re u_bk u_va u_su u_ce u_ho u_wy u_bt u_ps b_pt u_tg u_sn b_ip u_ic b_ah b_be b_me u_wd b_tr b_ld u_st b_wn u_id)), (b_be, (arJ G 49152 v_be)), (b_me, (arI G 1536 v_me))] sz) := by
  refine Met.ofW (cc := cX12_comesFrom) (maxL := 6) (ret := none) (by decide +kernel) rfl ?_
  intro p e s m args below meth c s₁ B hml hv
  obtain ⟨rfl, hsz, hP, hK, hD0, hN, hT⟩ := hv
  have hx := B.exec
  have hb := B.bytes
  have hr := B.returns
  have hts : ∀ w ∈ tblG, w.before _ s = true := fun w h => atoms_spec (ws := (wsG yX12_comesFrom cX12_comesFrom 6 none)) B.pre w (List.mem_cons_of_mem _ h)
  have hown : s.vm.findClass RX12 = some m.cls := findClass_of_methodNamed B.named
  have hlocks := B.notSynchronized
  subst hsz
  have hD := hD0.self (sz := s.heap.size)
  generalize hAe : va_A [(b_o, (oc12 u_th u_sa b_rf b_ro b_im b_ke u_fd b_tp u_td u_fr u_to u_so u_wo u_fa u_bd u_nc b_nl u_co b_op b_ar u_le b_pi b_pa u_pd u_od b_ws b_hw u_la b_se b_re u_bk u_va u_su u_ce u_ho u_wy u_bt u_ps b_pt u_tg u_sn b_ip u_ic b_ah b_be b_me u_wd b_tr b_ld u_st b_wn u_id)), (b_be, (arJ G 49152 v_be)), (b_me, (arI G 1536 v_me))] s.heap.size = A at hD hT ⊢
  have hA : ∀ q : Nat, s.heap.size ≤ q → A q := fun q h => by rw [← hAe]; exact Or.inr h
  have hS : va_S A s.heap s.heap [] := va_S.rf
  replace hP : va_P G.1 vwCl [(b_o, (oc12 u_th u_sa b_rf b_ro b_im b_ke u_fd b_tp u_td u_fr u_to u_so u_wo u_fa u_bd u_nc b_nl u_co b_op b_ar u_le b_pi b_pa u_pd u_od b_ws b_hw u_la b_se b_re u_bk u_va u_su u_ce u_ho u_wy u_bt u_ps b_pt u_tg u_sn b_ip u_ic b_ah b_be b_me u_wd b_tr b_ld u_st b_wn u_id)), (b_be, (arJ G 49152 v_be)), (b_me, (arI G 1536 v_me))] s.heap := hP
  have hl := lv_entry ([.ref b_o, .int p_1, .int p_2]) (n := 6) (Nat.le_of_ble_eq_true rfl)
  rw [lg_entry_eq]
  generalize (lg_sl ([.ref b_o, .int p_1, .int p_2]) ++ List.replicate (6 - (lg_sl ([.ref b_o, .int p_1, .int p_2])).length) Slot.unset).toArray = ls at hl ⊢
  replace hl : lv_has ls 6 [(0, .ref b_o), (1, .int p_1), (2, .int p_2)] := hl
  refine lv_iconst (v := 0) hx hb dX12_comesFrom_0 (by decide +kernel) ?_
  refine lv_istore_n (lv' := [(3, .int 0), (0, .ref b_o), (1, .int p_1), (2, .int p_2)]) hx hb dX12_comesFrom_1 rfl hl (by decide +kernel) rfl ?_
  clear hl
  intro ls hl
  refine g5_loop (α := (Int32) × (Nat → Int64)) (fun (q : (Int32) × (Nat → Int64)) (ls : Array Slot) (H : Heap) (locs : List Loc) => match q with | (k2_3, k2_be) => lv_has ls 6 [(3, .int k2_3), (0, .ref b_o), (1, .int p_1), (2, .int p_2)] ∧ va_P G.1 vwCl [(b_o, (oc12 u_th u_sa b_rf b_ro b_im b_ke u_fd b_tp u_td u_fr u_to u_so u_wo u_fa u_bd u_nc b_nl u_co b_op b_ar u_le b_pi b_pa u_pd u_od b_ws b_hw u_la b_se b_re u_bk u_va u_su u_ce u_ho u_wy u_bt u_ps b_pt u_tg u_sn b_ip u_ic b_ah b_be b_me u_wd b_tr b_ld u_st b_wn u_id)), (b_be, (arJ G 49152 k2_be)), (b_me, (arI G 1536 v_me))] H ∧ va_D A [(b_o, (oc12 u_th u_sa b_rf b_ro b_im b_ke u_fd b_tp u_td u_fr u_to u_so u_wo u_fa u_bd u_nc b_nl u_co b_op b_ar u_le b_pi b_pa u_pd u_od b_ws b_hw u_la b_se b_re u_bk u_va u_su u_ce u_ho u_wy u_bt u_ps b_pt u_tg u_sn b_ip u_ic b_ah b_be b_me u_wd b_tr b_ld u_st b_wn u_id)), (b_be, (arJ G 49152 k2_be)), (b_me, (arI G 1536 v_me))] ∧ va_S A s.heap H locs ∧ (0 ≤ k2_3.toInt ∧ k2_3.toInt ≤ 5)) (fun (q : (Int32) × (Nat → Int64)) => match q with | (k2_3, k2_be) => Int.toNat (5 - k2_3.toInt)) (0, v_be) ⟨lv_sub hl [0, 1, 2, 3] rfl, hP, hD, hS, ⟨by decide, by decide⟩⟩ ?_
  rintro ⟨k2_3, k2_be⟩ ls H locs ⟨hl, hP, hD, hS, (i_1 : 0 ≤ k2_3.toInt ∧ k2_3.toInt ≤ 5)⟩ ih_2_2
  replace hl : lv_has ls 6 [(3, .int k2_3), (0, .ref b_o), (1, .int p_1), (2, .int p_2)] := hl
  refine g5_rs [(b_o, (oc12 u_th u_sa b_rf b_ro b_im b_ke u_fd b_tp u_td u_fr u_to u_so u_wo u_fa u_bd u_nc b_nl u_co b_op b_ar u_le b_pi b_pa u_pd u_od b_ws b_hw u_la b_se b_re u_bk u_va u_su u_ce u_ho u_wy u_bt u_ps b_pt u_tg u_sn b_ip u_ic b_ah b_be b_me u_wd b_tr b_ld u_st b_wn u_id)), (b_be, (arJ G 49152 k2_be)), (b_me, (arI G 1536 v_me))] hP hD ?_
  clear hP hD
  intro hP hD
  refine lv_iload_n hx hb dX12_comesFrom_2 rfl (lv_at hl 0 rfl) ?_
  refine lv_iconst (v := 5) hx hb dX12_comesFrom_3 (by decide +kernel) ?_
  refine lv_icmp_ge (tgt := 101) hx hb dX12_comesFrom_4 (by decide +kernel) (fun c_3 => ?_) (fun c_3 => ?_)
  ·
    have i_3 : k2_3.toInt ≥ 5 := g5_ge (a := k2_3.toInt) (b := 5) rfl (by decide +kernel) c_3
    exact W.vret hx hb hr (fun t ht hW => ⟨⟨[(b_o, (oc12 u_th u_sa b_rf b_ro b_im b_ke u_fd b_tp u_td u_fr u_to u_so u_wo u_fa u_bd u_nc b_nl u_co b_op b_ar u_le b_pi b_pa u_pd u_od b_ws b_hw u_la b_se b_re u_bk u_va u_su u_ce u_ho u_wy u_bt u_ps b_pt u_tg u_sn b_ip u_ic b_ah b_be b_me u_wd b_tr b_ld u_st b_wn u_id)), (b_be, (arJ G 49152 k2_be)), (b_me, (arI G 1536 v_me))], rfl, ⟨k2_be, rfl⟩, by rw [ht]; exact hP.sub [0, 1, 2] rfl, hD.sub [0, 1, 2] (by decide +kernel) rfl⟩, hS.F ht⟩) hS.2.2 dX12_comesFrom_101
  ·
    have i_3 : k2_3.toInt < 5 := g5_geN (a := k2_3.toInt) (b := 5) rfl (by decide +kernel) c_3
    refine lv_aload_n hx hb dX12_comesFrom_7 rfl (lv_at hl 1 rfl) ?_
    refine lv_iload_n hx hb dX12_comesFrom_8 rfl (lv_at hl 3 rfl) ?_
    refine lv_iload_n hx hb dX12_comesFrom_9 rfl (lv_at hl 0 rfl) ?_
    refine lv_iload_n hx hb dX12_comesFrom_10 rfl (lv_at hl 2 rfl) ?_
    refine W.eq (g2 := F0 m 11 ls [.int p_1, .int k2_3, .int p_2, .ref b_o]) rfl ?_
    refine lv_iconst (v := 1) hx hb dX12_comesFrom_11 (by decide +kernel) ?_
    refine lv_iadd hx hb dX12_comesFrom_12 ?_
    have t_4 : (p_1 + 1).toInt = p_1.toInt + 1 := g5_iadd (a := p_1.toInt) (b := 1) (by rfl) (by decide +kernel) (by omega) (by omega)
    obtain ⟨hPc, hDc, hFc⟩ := g5_sub3 (wc := [(b_o, (oc12 u_th u_sa b_rf b_ro b_im b_ke u_fd b_tp u_td u_fr u_to u_so u_wo u_fa u_bd u_nc b_nl u_co b_op b_ar u_le b_pi b_pa u_pd u_od b_ws b_hw u_la b_se b_re u_bk u_va u_su u_ce u_ho u_wy u_bt u_ps b_pt u_tg u_sn b_ip u_ic b_ah b_be b_me u_wd b_tr b_ld u_st b_wn u_id)), (b_me, (arI G 1536 v_me))]) hP hD hS hA [0, 2] (by decide +kernel) rfl
    refine va_calli (va_runV (As := [.int p_2, .int k2_3, .int (p_1 + 1)]) (rest := []) ⟨hx, hb, hml, hown, hts⟩ (n_step l G b_o b_me b_rf b_ro b_im b_ke b_tp b_nl b_op b_ar b_pi b_pa b_ws b_hw b_se b_re b_pt b_ip b_ah b_be b_tr b_ld b_wn H.size u_th u_sa u_fd u_td u_fr u_to u_so u_fa u_bd u_nc u_co u_le u_pd u_od u_la u_bk u_ce u_ho u_wy u_bt u_ps u_tg u_sn u_ic u_wd u_id p_2 k2_3 (p_1 + 1) u_wo u_va u_su u_st v_me h_u_td h_u_fr h_u_to h_u_bd h_u_nc h_u_co h_u_pd h_u_la h_u_bk h_u_ce h_u_ho h_u_wy h_u_bt h_u_ps h_u_ic h_u_id h_p_2 ⟨by omega, by omega⟩ ⟨by omega, by omega⟩ (r_me)) (cwV 3 hts gV_X12_437 rfl rfl rfl hv_X12_step ⟨Nat.le_of_ble_eq_true rfl, Nat.le_of_ble_eq_true rfl⟩) (g5_preV hPc hK hDc hN hT hS hFc (ci := 12) (q0 := 0) rfl rfl) rfl rfl hl.1 rfl (lv_room (Nat.le_of_ble_eq_true rfl)) dX12_comesFrom_13 ⟨Nat.le_of_ble_eq_true rfl, Nat.le_of_ble_eq_true rfl⟩) hS (fun q _ h => hFc q h) hFc (fun r u t H locs ht hvm hw hB hz1 hk1 hS => ?_)
    obtain ⟨hP1, hD1⟩ := hB
    have hP1 := g5_ht ht hP1
    obtain ⟨z7, (i_5 : (-1) ≤ z7.toInt ∧ z7.toInt ≤ 63), (i_6 : z7.toInt = -1 ∨ (v_me (64 * (p_1 + 1).toInt + z7.toInt).toNat).toInt < 64), y8, rfl⟩ := hw
    have hJ9 := va_join (wr := [(b_be, (arJ G 49152 k2_be))]) hP hD [0, 2] [1] rfl rfl (by decide +kernel) (by decide +kernel) hk1 hFc hP1 hD1
    clear hP hD hPc hDc hFc ht hvm hz1 hk1 hP1 hD1
    obtain ⟨hP, hD⟩ := hJ9
    refine g5_rs [(b_be, (arJ G 49152 k2_be)), (b_o, (oc12 u_th u_sa b_rf b_ro b_im b_ke u_fd b_tp u_td u_fr u_to u_so u_wo u_fa u_bd u_nc b_nl u_co b_op b_ar u_le b_pi b_pa u_pd u_od b_ws b_hw u_la b_se b_re u_bk u_va u_su u_ce u_ho u_wy u_bt u_ps b_pt u_tg u_sn b_ip u_ic b_ah b_be b_me u_wd b_tr b_ld u_st b_wn u_id)), (b_me, (arI G 1536 v_me))] hP hD ?_
    clear hP hD
    intro hP hD
    refine g5_ti (v := z7) y8 ?_
    refine lv_istore (lv' := [(4, .int z7), (3, .int k2_3), (0, .ref b_o), (1, .int p_1), (2, .int p_2)]) hx hb dX12_comesFrom_16 hl (by decide +kernel) rfl ?_
    clear hl
    intro ls hl
    refine lv_iconst (v := 0) hx hb dX12_comesFrom_18 (by decide +kernel) ?_
    refine W.eq (g2 := F0 m 19 ls [.int 0]) rfl ?_
    refine lv_istore (lv' := [(5, .int 0), (4, .int z7), (3, .int k2_3), (0, .ref b_o), (1, .int p_1), (2, .int p_2)]) hx hb dX12_comesFrom_19 hl (by decide +kernel) rfl ?_
    clear hl
    intro ls hl
    refine g5_loop (α := (Int32) × (Nat → Int64)) (fun (q : (Int32) × (Nat → Int64)) (ls : Array Slot) (H : Heap) (locs : List Loc) => match q with | (k21_5, k21_be) => lv_has ls 6 [(5, .int k21_5), (4, .int z7), (3, .int k2_3), (0, .ref b_o), (1, .int p_1), (2, .int p_2)] ∧ va_P G.1 vwCl [(b_be, (arJ G 49152 k21_be)), (b_o, (oc12 u_th u_sa b_rf b_ro b_im b_ke u_fd b_tp u_td u_fr u_to u_so u_wo u_fa u_bd u_nc b_nl u_co b_op b_ar u_le b_pi b_pa u_pd u_od b_ws b_hw u_la b_se b_re u_bk u_va u_su u_ce u_ho u_wy u_bt u_ps b_pt u_tg u_sn b_ip u_ic b_ah b_be b_me u_wd b_tr b_ld u_st b_wn u_id)), (b_me, (arI G 1536 v_me))] H ∧ va_D A [(b_be, (arJ G 49152 k21_be)), (b_o, (oc12 u_th u_sa b_rf b_ro b_im b_ke u_fd b_tp u_td u_fr u_to u_so u_wo u_fa u_bd u_nc b_nl u_co b_op b_ar u_le b_pi b_pa u_pd u_od b_ws b_hw u_la b_se b_re u_bk u_va u_su u_ce u_ho u_wy u_bt u_ps b_pt u_tg u_sn b_ip u_ic b_ah b_be b_me u_wd b_tr b_ld u_st b_wn u_id)), (b_me, (arI G 1536 v_me))] ∧ va_S A s.heap H locs ∧ (0 ≤ k21_5.toInt ∧ k21_5.toInt ≤ 32)) (fun (q : (Int32) × (Nat → Int64)) => match q with | (k21_5, k21_be) => Int.toNat (32 - k21_5.toInt)) (0, k2_be) ⟨lv_sub hl [0, 1, 2, 3, 4, 5] rfl, hP, hD, hS, ⟨by decide, by decide⟩⟩ ?_
    rintro ⟨k21_5, k21_be⟩ ls H locs ⟨hl, hP, hD, hS, (i_9 : 0 ≤ k21_5.toInt ∧ k21_5.toInt ≤ 32)⟩ ih_21_10
    replace hl : lv_has ls 6 [(5, .int k21_5), (4, .int z7), (3, .int k2_3), (0, .ref b_o), (1, .int p_1), (2, .int p_2)] := hl
    refine g5_rs [(b_be, (arJ G 49152 k21_be)), (b_o, (oc12 u_th u_sa b_rf b_ro b_im b_ke u_fd b_tp u_td u_fr u_to u_so u_wo u_fa u_bd u_nc b_nl u_co b_op b_ar u_le b_pi b_pa u_pd u_od b_ws b_hw u_la b_se b_re u_bk u_va u_su u_ce u_ho u_wy u_bt u_ps b_pt u_tg u_sn b_ip u_ic b_ah b_be b_me u_wd b_tr b_ld u_st b_wn u_id)), (b_me, (arI G 1536 v_me))] hP hD ?_
    clear hP hD
    intro hP hD
    refine lv_iload hx hb dX12_comesFrom_21 (lv_at hl 0 rfl) ?_
    refine lv_bipush (v := 32) hx hb dX12_comesFrom_23 (by decide +kernel) ?_
    refine lv_icmp_ge (tgt := 95) hx hb dX12_comesFrom_25 (by decide +kernel) (fun c_11 => ?_) (fun c_11 => ?_)
    ·
      have i_11 : k21_5.toInt ≥ 32 := g5_ge (a := k21_5.toInt) (b := 32) rfl (by decide +kernel) c_11
      refine lv_iinc (v := (k2_3 + 1)) (lv' := [(3, .int (k2_3 + 1)), (5, .int k21_5), (4, .int z7), (0, .ref b_o), (1, .int p_1), (2, .int p_2)]) hx hb dX12_comesFrom_95 hl (k := 2) rfl rfl (by decide +kernel) rfl ?_
      clear hl
      intro ls hl
      have t_12 : (k2_3 + 1).toInt = k2_3.toInt + 1 := g5_iadd (a := k2_3.toInt) (b := 1) rfl (by decide +kernel) (by omega) (by omega)
      refine lv_goto (tgt := 2) hx hb dX12_comesFrom_98 (by decide +kernel) ?_
      exact ih_2_2 ((k2_3 + 1), k21_be) ls H locs (show Int.toNat (5 - (k2_3 + 1).toInt) < Int.toNat (5 - k2_3.toInt) from g_up (show k2_3.toInt < (k2_3 + 1).toInt by omega) (show k2_3.toInt < 5 by omega)) ⟨lv_sub hl [0, 3, 4, 5] rfl, hP.sub [1, 0, 2] rfl, hD.sub [1, 0, 2] (by decide +kernel) rfl, hS, ⟨by omega, by omega⟩⟩
    ·
      have i_11 : k21_5.toInt < 32 := g5_geN (a := k21_5.toInt) (b := 32) rfl (by decide +kernel) c_11
      refine lv_iload hx hb dX12_comesFrom_28 (lv_at hl 1 rfl) ?_
      refine lv_iconst (v := (-1)) hx hb dX12_comesFrom_30 (by decide +kernel) ?_
      refine lv_icmp_eq (tgt := 95) hx hb dX12_comesFrom_31 (by decide +kernel) (fun c_13 => ?_) (fun c_13 => ?_)
      ·
        have i_13 : z7.toInt = (-1) := g5_eq (a := z7.toInt) (b := (-1)) rfl (by decide +kernel) c_13
        refine lv_iinc (v := (k2_3 + 1)) (lv' := [(3, .int (k2_3 + 1)), (5, .int k21_5), (4, .int z7), (0, .ref b_o), (1, .int p_1), (2, .int p_2)]) hx hb dX12_comesFrom_95 hl (k := 2) rfl rfl (by decide +kernel) rfl ?_
        clear hl
        intro ls hl
        have t_14 : (k2_3 + 1).toInt = k2_3.toInt + 1 := g5_iadd (a := k2_3.toInt) (b := 1) rfl (by decide +kernel) (by omega) (by omega)
        refine lv_goto (tgt := 2) hx hb dX12_comesFrom_98 (by decide +kernel) ?_
        exact ih_2_2 ((k2_3 + 1), k21_be) ls H locs (show Int.toNat (5 - (k2_3 + 1).toInt) < Int.toNat (5 - k2_3.toInt) from g_up (show k2_3.toInt < (k2_3 + 1).toInt by omega) (show k2_3.toInt < 5 by omega)) ⟨lv_sub hl [0, 3, 4, 5] rfl, hP.sub [1, 0, 2] rfl, hD.sub [1, 0, 2] (by decide +kernel) rfl, hS, ⟨by omega, by omega⟩⟩
      ·
        have n_13 : gNe (z7.toInt) ((-1)) := g5_eqN (a := z7.toInt) (b := (-1)) rfl (by decide +kernel) c_13
        have i_13 : z7.toInt ≥ 0 := by have z := g5_eqN (a := z7.toInt) (b := (-1)) (by rfl) (by decide +kernel) c_13; omega
        refine lv_aload_n hx hb dX12_comesFrom_34 rfl (lv_at hl 3 rfl) ?_
        refine va_get (D := G.1) (ci := 12) (v := .ref b_be) (C := RX12) (T := TX12) (N := 52) hx hb hts inG_X12 hown hK hP 1 rfl rfl 44 (by decide +kernel) (hts _ fl_X12_92) (fun _ h9 => h9) rfl dX12_comesFrom_35 ?_
        refine lv_bipush (v := 32) hx hb dX12_comesFrom_38 (by decide +kernel) ?_
        refine lv_bipush (v := 64) hx hb dX12_comesFrom_40 (by decide +kernel) ?_
        refine W.eq (g2 := F0 m 42 ls [.int 64, .int 32, .ref b_be]) rfl ?_
        refine lv_iload_n hx hb dX12_comesFrom_42 rfl (lv_at hl 4 rfl) ?_
        refine lv_imul hx hb dX12_comesFrom_43 ?_
        have t_15 : (64 * p_1).toInt = 64 * p_1.toInt := g5_imul (a := 64) (b := p_1.toInt) (by decide +kernel) (by rfl) (by omega) (by omega)
        refine lv_iload_n hx hb dX12_comesFrom_44 rfl (lv_at hl 5 rfl) ?_
        refine lv_iadd hx hb dX12_comesFrom_45 ?_
        have t_16 : ((64 * p_1) + p_2).toInt = (64 * p_1).toInt + p_2.toInt := g5_iadd (a := (64 * p_1).toInt) (b := p_2.toInt) (by rfl) (by rfl) (by omega) (by omega)
        refine lv_imul hx hb dX12_comesFrom_46 ?_
        have t_17 : (32 * ((64 * p_1) + p_2)).toInt = 32 * ((64 * p_1) + p_2).toInt := g5_imul (a := 32) (b := ((64 * p_1) + p_2).toInt) (by decide +kernel) (by rfl) (by omega) (by omega)
        refine W.eq (g2 := F0 m 47 ls [.int (32 * ((64 * p_1) + p_2)), .ref b_be]) rfl ?_
        refine lv_iload hx hb dX12_comesFrom_47 (lv_at hl 0 rfl) ?_
        refine lv_iadd hx hb dX12_comesFrom_49 ?_
        have t_18 : ((32 * ((64 * p_1) + p_2)) + k21_5).toInt = (32 * ((64 * p_1) + p_2)).toInt + k21_5.toInt := g5_iadd (a := (32 * ((64 * p_1) + p_2)).toInt) (b := k21_5.toInt) (by rfl) (by rfl) (by omega) (by omega)
        refine lv_dup2_11 hx hb dX12_comesFrom_50 rfl rfl ?_
        refine va_lald hx hb hK hP 0 1 rfl rfl (i := ((32 * ((64 * p_1) + p_2)) + k21_5)) (vp_in_iff.mpr ⟨by omega, by omega⟩) dX12_comesFrom_51 ?_
        refine lv_aload_n hx hb dX12_comesFrom_52 rfl (lv_at hl 3 rfl) ?_
        refine W.eq (g2 := F0 m 53 ls [.ref b_o, .long (k21_be ((32 * ((64 * p_1) + p_2)) + k21_5).toNatClampNeg), .int ((32 * ((64 * p_1) + p_2)) + k21_5), .ref b_be]) rfl ?_
        refine va_get (D := G.1) (ci := 12) (v := .ref b_be) (C := RX12) (T := TX12) (N := 52) hx hb hts inG_X12 hown hK hP 1 rfl rfl 44 (by decide +kernel) (hts _ fl_X12_92) (fun _ h9 => h9) rfl dX12_comesFrom_53 ?_
        refine lv_bipush (v := 32) hx hb dX12_comesFrom_56 (by decide +kernel) ?_
        refine lv_bipush (v := 64) hx hb dX12_comesFrom_58 (by decide +kernel) ?_
        refine lv_iload_n hx hb dX12_comesFrom_60 rfl (lv_at hl 4 rfl) ?_
        refine lv_iconst (v := 1) hx hb dX12_comesFrom_61 (by decide +kernel) ?_
        refine W.eq (g2 := F0 m 62 ls [.int 1, .int p_1, .int 64, .int 32, .ref b_be, .long (k21_be ((32 * ((64 * p_1) + p_2)) + k21_5).toNatClampNeg), .int ((32 * ((64 * p_1) + p_2)) + k21_5), .ref b_be]) rfl ?_
        refine lv_iadd hx hb dX12_comesFrom_62 ?_
        have t_19 : (p_1 + 1).toInt = p_1.toInt + 1 := g5_iadd (a := p_1.toInt) (b := 1) (by rfl) (by decide +kernel) (by omega) (by omega)
        refine lv_imul hx hb dX12_comesFrom_63 ?_
        have t_20 : (64 * (p_1 + 1)).toInt = 64 * (p_1 + 1).toInt := g5_imul (a := 64) (b := (p_1 + 1).toInt) (by decide +kernel) (by rfl) (by omega) (by omega)
        refine lv_iload hx hb dX12_comesFrom_64 (lv_at hl 1 rfl) ?_
        refine lv_iadd hx hb dX12_comesFrom_66 ?_
        have t_21 : ((64 * (p_1 + 1)) + z7).toInt = (64 * (p_1 + 1)).toInt + z7.toInt := g5_iadd (a := (64 * (p_1 + 1)).toInt) (b := z7.toInt) (by rfl) (by rfl) (by omega) (by omega)
        refine lv_imul hx hb dX12_comesFrom_67 ?_
        have t_22 : (32 * ((64 * (p_1 + 1)) + z7)).toInt = 32 * ((64 * (p_1 + 1)) + z7).toInt := g5_imul (a := 32) (b := ((64 * (p_1 + 1)) + z7).toInt) (by decide +kernel) (by rfl) (by omega) (by omega)
        refine W.eq (g2 := F0 m 68 ls [.int (32 * ((64 * (p_1 + 1)) + z7)), .ref b_be, .long (k21_be ((32 * ((64 * p_1) + p_2)) + k21_5).toNatClampNeg), .int ((32 * ((64 * p_1) + p_2)) + k21_5), .ref b_be]) rfl ?_
        refine lv_iload hx hb dX12_comesFrom_68 (lv_at hl 0 rfl) ?_
        refine lv_aload_n hx hb dX12_comesFrom_70 rfl (lv_at hl 3 rfl) ?_
        refine va_get (D := G.1) (ci := 12) (v := .ref b_me) (C := RX12) (T := TX12) (N := 52) hx hb hts inG_X12 hown hK hP 1 rfl rfl 45 (by decide +kernel) (hts _ fl_X12_95) (fun _ h9 => h9) rfl dX12_comesFrom_71 ?_
        refine lv_bipush (v := 64) hx hb dX12_comesFrom_74 (by decide +kernel) ?_
        refine lv_iload_n hx hb dX12_comesFrom_76 rfl (lv_at hl 4 rfl) ?_
        refine W.eq (g2 := F0 m 77 ls [.int p_1, .int 64, .ref b_me, .int k21_5, .int (32 * ((64 * (p_1 + 1)) + z7)), .ref b_be, .long (k21_be ((32 * ((64 * p_1) + p_2)) + k21_5).toNatClampNeg), .int ((32 * ((64 * p_1) + p_2)) + k21_5), .ref b_be]) rfl ?_
        refine lv_iconst (v := 1) hx hb dX12_comesFrom_77 (by decide +kernel) ?_
        refine lv_iadd hx hb dX12_comesFrom_78 ?_
        have t_23 : (p_1 + 1).toInt = p_1.toInt + 1 := g5_iadd (a := p_1.toInt) (b := 1) (by rfl) (by decide +kernel) (by omega) (by omega)
        refine lv_imul hx hb dX12_comesFrom_79 ?_
        have t_24 : (64 * (p_1 + 1)).toInt = 64 * (p_1 + 1).toInt := g5_imul (a := 64) (b := (p_1 + 1).toInt) (by decide +kernel) (by rfl) (by omega) (by omega)
        refine lv_iload hx hb dX12_comesFrom_80 (lv_at hl 1 rfl) ?_
        refine lv_iadd hx hb dX12_comesFrom_82 ?_
        have t_25 : ((64 * (p_1 + 1)) + z7).toInt = (64 * (p_1 + 1)).toInt + z7.toInt := g5_iadd (a := (64 * (p_1 + 1)).toInt) (b := z7.toInt) (by rfl) (by rfl) (by omega) (by omega)
        refine W.eq (g2 := F0 m 83 ls [.int ((64 * (p_1 + 1)) + z7), .ref b_me, .int k21_5, .int (32 * ((64 * (p_1 + 1)) + z7)), .ref b_be, .long (k21_be ((32 * ((64 * p_1) + p_2)) + k21_5).toNatClampNeg), .int ((32 * ((64 * p_1) + p_2)) + k21_5), .ref b_be]) rfl ?_
        refine va_iald hx hb hK hP 2 0 rfl rfl (i := ((64 * (p_1 + 1)) + z7)) (vp_in_iff.mpr ⟨by omega, by omega⟩) dX12_comesFrom_83 ?_
        have hr_26 : 0 ≤ (v_me ((64 * (p_1 + 1)) + z7).toNatClampNeg).toInt ∧ ((v_me ((64 * (p_1 + 1)) + z7).toNatClampNeg).toInt < 32 ∨ 64 ≤ (v_me ((64 * (p_1 + 1)) + z7).toNatClampNeg).toInt) ∧ (v_me ((64 * (p_1 + 1)) + z7).toNatClampNeg).toInt ≤ 127 := r_me (((64 * (p_1 + 1)) + z7).toNatClampNeg)
        have h64_27 : (v_me ((64 * (p_1 + 1)) + z7).toNatClampNeg).toInt < 64 := by have e9 : ((64 * (p_1 + 1)) + z7).toNatClampNeg = (64 * (p_1 + 1).toInt + z7.toInt).toNat := (by have zz := g5_clamp ((64 * (p_1 + 1)) + z7); omega); rw [e9]; rcases i_6 with q | q; omega; exact q
        refine lv_ior hx hb dX12_comesFrom_84 ?_
        have ho_28 : 0 ≤ (k21_5 ||| (v_me ((64 * (p_1 + 1)) + z7).toNatClampNeg)).toInt ∧ (k21_5 ||| (v_me ((64 * (p_1 + 1)) + z7).toNatClampNeg)).toInt < 32 := me_low ⟨by omega, by omega⟩ ⟨by omega, by omega⟩
        refine lv_iadd hx hb dX12_comesFrom_85 ?_
        have t_29 : ((32 * ((64 * (p_1 + 1)) + z7)) + (k21_5 ||| (v_me ((64 * (p_1 + 1)) + z7).toNatClampNeg))).toInt = (32 * ((64 * (p_1 + 1)) + z7)).toInt + (k21_5 ||| (v_me ((64 * (p_1 + 1)) + z7).toNatClampNeg)).toInt := g5_iadd (a := (32 * ((64 * (p_1 + 1)) + z7)).toInt) (b := (k21_5 ||| (v_me ((64 * (p_1 + 1)) + z7).toNatClampNeg)).toInt) (by rfl) (by rfl) (by omega) (by omega)
        refine va_lald hx hb hK hP 0 1 rfl rfl (i := ((32 * ((64 * (p_1 + 1)) + z7)) + (k21_5 ||| (v_me ((64 * (p_1 + 1)) + z7).toNatClampNeg)))) (vp_in_iff.mpr ⟨by omega, by omega⟩) dX12_comesFrom_86 ?_
        refine lv_ladd hx hb dX12_comesFrom_87 ?_
        refine W.eq (g2 := F0 m 88 ls [.long ((k21_be ((32 * ((64 * p_1) + p_2)) + k21_5).toNatClampNeg) + (k21_be ((32 * ((64 * (p_1 + 1)) + z7)) + (k21_5 ||| (v_me ((64 * (p_1 + 1)) + z7).toNatClampNeg))).toNatClampNeg)), .int ((32 * ((64 * p_1) + p_2)) + k21_5), .ref b_be]) rfl ?_
        refine va_last hx hb hK hP hD hS 0 1 rfl rfl (i := ((32 * ((64 * p_1) + p_2)) + k21_5)) (x := ((k21_be ((32 * ((64 * p_1) + p_2)) + k21_5).toNatClampNeg) + (k21_be ((32 * ((64 * (p_1 + 1)) + z7)) + (k21_5 ||| (v_me ((64 * (p_1 + 1)) + z7).toNatClampNeg))).toNatClampNeg))) (vp_in_iff.mpr ⟨by omega, by omega⟩) dX12_comesFrom_88 ?_
        clear hP hD hS
        intro H locs hP hD hS
        refine g5_rs [(b_be, (arJ G 49152 (vp_updL k21_be ((32 * ((64 * p_1) + p_2)) + k21_5).toNatClampNeg ((k21_be ((32 * ((64 * p_1) + p_2)) + k21_5).toNatClampNeg) + (k21_be ((32 * ((64 * (p_1 + 1)) + z7)) + (k21_5 ||| (v_me ((64 * (p_1 + 1)) + z7).toNatClampNeg))).toNatClampNeg))))), (b_o, (oc12 u_th u_sa b_rf b_ro b_im b_ke u_fd b_tp u_td u_fr u_to u_so u_wo u_fa u_bd u_nc b_nl u_co b_op b_ar u_le b_pi b_pa u_pd u_od b_ws b_hw u_la b_se b_re u_bk u_va u_su u_ce u_ho u_wy u_bt u_ps b_pt u_tg u_sn b_ip u_ic b_ah b_be b_me u_wd b_tr b_ld u_st b_wn u_id)), (b_me, (arI G 1536 v_me))] hP hD ?_
        clear hP hD
        intro hP hD
        refine lv_iinc (v := (k21_5 + 1)) (lv' := [(5, .int (k21_5 + 1)), (4, .int z7), (3, .int k2_3), (0, .ref b_o), (1, .int p_1), (2, .int p_2)]) hx hb dX12_comesFrom_89 hl (k := 0) rfl rfl (by decide +kernel) rfl ?_
        clear hl
        intro ls hl
        have t_30 : (k21_5 + 1).toInt = k21_5.toInt + 1 := g5_iadd (a := k21_5.toInt) (b := 1) rfl (by decide +kernel) (by omega) (by omega)
        refine lv_goto (tgt := 21) hx hb dX12_comesFrom_92 (by decide +kernel) ?_
        exact ih_21_10 ((k21_5 + 1), (vp_updL k21_be ((32 * ((64 * p_1) + p_2)) + k21_5).toNatClampNeg ((k21_be ((32 * ((64 * p_1) + p_2)) + k21_5).toNatClampNeg) + (k21_be ((32 * ((64 * (p_1 + 1)) + z7)) + (k21_5 ||| (v_me ((64 * (p_1 + 1)) + z7).toNatClampNeg))).toNatClampNeg)))) ls H locs (show Int.toNat (32 - (k21_5 + 1).toInt) < Int.toNat (32 - k21_5.toInt) from g_up (show k21_5.toInt < (k21_5 + 1).toInt by omega) (show k21_5.toInt < 32 by omega)) ⟨lv_sub hl [0, 1, 2, 3, 4, 5] rfl, hP, hD, hS, ⟨by omega, by omega⟩⟩
theorem dgX12_rowsAt_0 : ∀ r ∈ ([(0, (.lconst 0, 1)), (1, (.lstore_n 3, 1)), (2, (.iconst 0, 1)), (3, (.istore 5, 2)), (5, (.iload 5, 2)), (7, (.bipush 32, 2)), (9, (.if_icmp .ge 41, 3)), (12, (.bipush 32, 2)), (14, (.bipush 64, 2)), (16, (.iload_n 1, 1)), (17, (.imul, 1)), (18, (.iload_n 2, 1)), (19, (.iadd, 1)), (20, (.imul, 1)), (21, (.iload 5, 2)), (23, (.iadd, 1)), (24, (.istore 6, 2)), (26, (.lload_n 3, 1)), (27, (.aload_n 0, 1)), (28, (.getfield 89, 3)), (31, (.iload 6, 2)), (33, (.laload, 1)), (34, (.aload_n 0, 1)), (35, (.getfield 92, 3)), (38, (.iload 6, 2)), (40, (.laload, 1)), (41, (.lmul, 1)), (42, (.ladd, 1)), (43, (.lstore_n 3, 1)), (44, (.iinc 5 1, 3)), (47, (.goto (-42), 3)), (50, (.lload_n 3, 1)), (51, (.lreturn, 1))] : List (Nat × (Instr × Nat))), decode cX12_rowsAt r.1 = .ok r.2 := by decide +kernel
theorem dX12_rowsAt_0 : decode cX12_rowsAt 0 = .ok (.lconst 0, 1) := dgX12_rowsAt_0 (0, (.lconst 0, 1)) (List.mem_of_getElem? (i := 0) rfl)
theorem dX12_rowsAt_1 : decode cX12_rowsAt 1 = .ok (.lstore_n 3, 1) := dgX12_rowsAt_0 (1, (.lstore_n 3, 1)) (List.mem_of_getElem? (i := 1) rfl)
theorem dX12_rowsAt_2 : decode cX12_rowsAt 2 = .ok (.iconst 0, 1) := dgX12_rowsAt_0 (2, (.iconst 0, 1)) (List.mem_of_getElem? (i := 2) rfl)
theorem dX12_rowsAt_3 : decode cX12_rowsAt 3 = .ok (.istore 5, 2) := dgX12_rowsAt_0 (3, (.istore 5, 2)) (List.mem_of_getElem? (i := 3) rfl)
theorem dX12_rowsAt_5 : decode cX12_rowsAt 5 = .ok (.iload 5, 2) := dgX12_rowsAt_0 (5, (.iload 5, 2)) (List.mem_of_getElem? (i := 4) rfl)
theorem dX12_rowsAt_7 : decode cX12_rowsAt 7 = .ok (.bipush 32, 2) := dgX12_rowsAt_0 (7, (.bipush 32, 2)) (List.mem_of_getElem? (i := 5) rfl)
theorem dX12_rowsAt_9 : decode cX12_rowsAt 9 = .ok (.if_icmp .ge 41, 3) := dgX12_rowsAt_0 (9, (.if_icmp .ge 41, 3)) (List.mem_of_getElem? (i := 6) rfl)
theorem dX12_rowsAt_12 : decode cX12_rowsAt 12 = .ok (.bipush 32, 2) := dgX12_rowsAt_0 (12, (.bipush 32, 2)) (List.mem_of_getElem? (i := 7) rfl)
theorem dX12_rowsAt_14 : decode cX12_rowsAt 14 = .ok (.bipush 64, 2) := dgX12_rowsAt_0 (14, (.bipush 64, 2)) (List.mem_of_getElem? (i := 8) rfl)
theorem dX12_rowsAt_16 : decode cX12_rowsAt 16 = .ok (.iload_n 1, 1) := dgX12_rowsAt_0 (16, (.iload_n 1, 1)) (List.mem_of_getElem? (i := 9) rfl)
theorem dX12_rowsAt_17 : decode cX12_rowsAt 17 = .ok (.imul, 1) := dgX12_rowsAt_0 (17, (.imul, 1)) (List.mem_of_getElem? (i := 10) rfl)
theorem dX12_rowsAt_18 : decode cX12_rowsAt 18 = .ok (.iload_n 2, 1) := dgX12_rowsAt_0 (18, (.iload_n 2, 1)) (List.mem_of_getElem? (i := 11) rfl)
theorem dX12_rowsAt_19 : decode cX12_rowsAt 19 = .ok (.iadd, 1) := dgX12_rowsAt_0 (19, (.iadd, 1)) (List.mem_of_getElem? (i := 12) rfl)
theorem dX12_rowsAt_20 : decode cX12_rowsAt 20 = .ok (.imul, 1) := dgX12_rowsAt_0 (20, (.imul, 1)) (List.mem_of_getElem? (i := 13) rfl)
theorem dX12_rowsAt_21 : decode cX12_rowsAt 21 = .ok (.iload 5, 2) := dgX12_rowsAt_0 (21, (.iload 5, 2)) (List.mem_of_getElem? (i := 14) rfl)
theorem dX12_rowsAt_23 : decode cX12_rowsAt 23 = .ok (.iadd, 1) := dgX12_rowsAt_0 (23, (.iadd, 1)) (List.mem_of_getElem? (i := 15) rfl)
theorem dX12_rowsAt_24 : decode cX12_rowsAt 24 = .ok (.istore 6, 2) := dgX12_rowsAt_0 (24, (.istore 6, 2)) (List.mem_of_getElem? (i := 16) rfl)
theorem dX12_rowsAt_26 : decode cX12_rowsAt 26 = .ok (.lload_n 3, 1) := dgX12_rowsAt_0 (26, (.lload_n 3, 1)) (List.mem_of_getElem? (i := 17) rfl)
theorem dX12_rowsAt_27 : decode cX12_rowsAt 27 = .ok (.aload_n 0, 1) := dgX12_rowsAt_0 (27, (.aload_n 0, 1)) (List.mem_of_getElem? (i := 18) rfl)
theorem dX12_rowsAt_28 : decode cX12_rowsAt 28 = .ok (.getfield 89, 3) := dgX12_rowsAt_0 (28, (.getfield 89, 3)) (List.mem_of_getElem? (i := 19) rfl)
theorem dX12_rowsAt_31 : decode cX12_rowsAt 31 = .ok (.iload 6, 2) := dgX12_rowsAt_0 (31, (.iload 6, 2)) (List.mem_of_getElem? (i := 20) rfl)
theorem dX12_rowsAt_33 : decode cX12_rowsAt 33 = .ok (.laload, 1) := dgX12_rowsAt_0 (33, (.laload, 1)) (List.mem_of_getElem? (i := 21) rfl)
theorem dX12_rowsAt_34 : decode cX12_rowsAt 34 = .ok (.aload_n 0, 1) := dgX12_rowsAt_0 (34, (.aload_n 0, 1)) (List.mem_of_getElem? (i := 22) rfl)
theorem dX12_rowsAt_35 : decode cX12_rowsAt 35 = .ok (.getfield 92, 3) := dgX12_rowsAt_0 (35, (.getfield 92, 3)) (List.mem_of_getElem? (i := 23) rfl)
theorem dX12_rowsAt_38 : decode cX12_rowsAt 38 = .ok (.iload 6, 2) := dgX12_rowsAt_0 (38, (.iload 6, 2)) (List.mem_of_getElem? (i := 24) rfl)
theorem dX12_rowsAt_40 : decode cX12_rowsAt 40 = .ok (.laload, 1) := dgX12_rowsAt_0 (40, (.laload, 1)) (List.mem_of_getElem? (i := 25) rfl)
theorem dX12_rowsAt_41 : decode cX12_rowsAt 41 = .ok (.lmul, 1) := dgX12_rowsAt_0 (41, (.lmul, 1)) (List.mem_of_getElem? (i := 26) rfl)
theorem dX12_rowsAt_42 : decode cX12_rowsAt 42 = .ok (.ladd, 1) := dgX12_rowsAt_0 (42, (.ladd, 1)) (List.mem_of_getElem? (i := 27) rfl)
theorem dX12_rowsAt_43 : decode cX12_rowsAt 43 = .ok (.lstore_n 3, 1) := dgX12_rowsAt_0 (43, (.lstore_n 3, 1)) (List.mem_of_getElem? (i := 28) rfl)
theorem dX12_rowsAt_44 : decode cX12_rowsAt 44 = .ok (.iinc 5 1, 3) := dgX12_rowsAt_0 (44, (.iinc 5 1, 3)) (List.mem_of_getElem? (i := 29) rfl)
theorem dX12_rowsAt_47 : decode cX12_rowsAt 47 = .ok (.goto (-42), 3) := dgX12_rowsAt_0 (47, (.goto (-42), 3)) (List.mem_of_getElem? (i := 30) rfl)
theorem dX12_rowsAt_50 : decode cX12_rowsAt 50 = .ok (.lload_n 3, 1) := dgX12_rowsAt_0 (50, (.lload_n 3, 1)) (List.mem_of_getElem? (i := 31) rfl)
theorem dX12_rowsAt_51 : decode cX12_rowsAt 51 = .ok (.lreturn, 1) := dgX12_rowsAt_0 (51, (.lreturn, 1)) (List.mem_of_getElem? (i := 32) rfl)
set_option maxHeartbeats 4000000 in
set_option maxRecDepth 100000 in
theorem n_rowsAt (l : Launch) (G : g5_G) (b_o b_ah b_be b_rf b_ro b_im b_ke b_tp b_nl b_op b_ar b_pi b_pa b_ws b_hw b_se b_re b_pt b_ip b_me b_tr b_ld b_wn : Nat) (sz : Nat) (u_th : Int32) (u_sa : Int32) (u_fd : Int32) (u_td : Int32) (u_fr : Int32) (u_to : Int32) (u_so : Int32) (u_fa : Int32) (u_bd : Int32) (u_nc : Int32) (u_co : Int32) (u_le : Int32) (u_pd : Int32) (u_od : Int32) (u_la : Int32) (u_bk : Int32) (u_ce : Int32) (u_ho : Int32) (u_wy : Int32) (u_bt : Int32) (u_ps : Int32) (u_tg : Int32) (u_sn : Int32) (u_ic : Int32) (u_wd : Int32) (u_id : Int32) (p_1 : Int32) (p_2 : Int32) (u_wo : Int64) (u_va : Int64) (u_su : Int64) (u_st : Int64) (v_ah : Nat → Int64) (v_be : Nat → Int64) (h_u_td : 0 ≤ u_td.toInt ∧ u_td.toInt ≤ 400) (h_u_fr : 0 ≤ u_fr.toInt ∧ u_fr.toInt ≤ 400) (h_u_to : 0 ≤ u_to.toInt ∧ u_to.toInt ≤ 400) (h_u_bd : 0 ≤ u_bd.toInt ∧ u_bd.toInt ≤ 1) (h_u_nc : 0 ≤ u_nc.toInt ∧ u_nc.toInt ≤ 12) (h_u_co : 0 ≤ u_co.toInt ∧ u_co.toInt ≤ 400) (h_u_pd : 0 ≤ u_pd.toInt ∧ u_pd.toInt ≤ 400) (h_u_la : 0 ≤ u_la.toInt ∧ u_la.toInt ≤ 4840) (h_u_bk : 0 ≤ u_bk.toInt ∧ u_bk.toInt ≤ 1) (h_u_ce : 0 ≤ u_ce.toInt ∧ u_ce.toInt ≤ 63) (h_u_ho : 0 ≤ u_ho.toInt ∧ u_ho.toInt ≤ 23) (h_u_wy : 0 ≤ u_wy.toInt ∧ u_wy.toInt ≤ 3) (h_u_bt : 0 ≤ u_bt.toInt ∧ u_bt.toInt ≤ 1000000) (h_u_ps : 0 ≤ u_ps.toInt ∧ u_ps.toInt ≤ 200) (h_u_ic : 0 ≤ u_ic.toInt ∧ u_ic.toInt ≤ 1) (h_u_id : 0 ≤ u_id.toInt ∧ u_id.toInt ≤ 1) (h_p_1 : 0 ≤ p_1.toInt ∧ p_1.toInt ≤ 23) (h_p_2 : 0 ≤ p_2.toInt ∧ p_2.toInt ≤ 63) : Met l yX12_rowsAt (wsG yX12_rowsAt cX12_rowsAt 7 (some .long)) ({ frames := 0, cells := 0, slots := 0, locals := 0 }) (va_Pc [.ref b_o, .int p_1, .int p_2] (g5_P G [(b_o, (oc12 u_th u_sa b_rf b_ro b_im b_ke u_fd b_tp u_td u_fr u_to u_so u_wo u_fa u_bd u_nc b_nl u_co b_op b_ar u_le b_pi b_pa u_pd u_od b_ws b_hw u_la b_se b_re u_bk u_va u_su u_ce u_ho u_wy u_bt u_ps b_pt u_tg u_sn b_ip u_ic b_ah b_be b_me u_wd b_tr b_ld u_st b_wn u_id)), (b_ah, (arJ G 49152 v_ah)), (b_be, (arJ G 49152 v_be))] sz)) (va_Ql (fun (r : Int64) (u : va_W) => (∃ (o_r : Int64), (r = o_r) ∧ (u = [(b_o, (oc12 u_th u_sa b_rf b_ro b_im b_ke u_fd b_tp u_td u_fr u_to u_so u_wo u_fa u_bd u_nc b_nl u_co b_op b_ar u_le b_pi b_pa u_pd u_od b_ws b_hw u_la b_se b_re u_bk u_va u_su u_ce u_ho u_wy u_bt u_ps b_pt u_tg u_sn b_ip u_ic b_ah b_be b_me u_wd b_tr b_ld u_st b_wn u_id)), (b_ah, (arJ G 49152 v_ah)), (b_be, (arJ G 49152 v_be))]))) (g5_B G (va_A [(b_o, (oc12 u_th u_sa b_rf b_ro b_im b_ke u_fd b_tp u_td u_fr u_to u_so u_wo u_fa u_bd u_nc b_nl u_co b_op b_ar u_le b_pi b_pa u_pd u_od b_ws b_hw u_la b_se b_re u_bk u_va u_su u_ce u_ho u_wy u_bt u_ps b_pt u_tg u_sn b_ip u_ic b_ah b_be b_me u_wd b_tr b_ld u_st b_wn u_id)), (b_ah, (arJ G 49152 v_ah)), (b_be, (arJ G 49152 v_be))] sz)) (va_A [(b_o, (oc12 u_th u_sa b_rf b_ro b_im b_ke u_fd b_tp u_td u_fr u_to u_so u_wo u_fa u_bd u_nc b_nl u_co b_op b_ar u_le b_pi b_pa u_pd u_od b_ws b_hw u_la b_se b_re u_bk u_va u_su u_ce u_ho u_wy u_bt u_ps b_pt u_tg u_sn b_ip u_ic b_ah b_be b_me u_wd b_tr b_ld u_st b_wn u_id)), (b_ah, (arJ G 49152 v_ah)), (b_be, (arJ G 49152 v_be))] sz)) 0 0 (va_A [(b_o, (oc12 u_th u_sa b_rf b_ro b_im b_ke u_fd b_tp u_td u_fr u_to u_so u_wo u_fa u_bd u_nc b_nl u_co b_op b_ar u_le b_pi b_pa u_pd u_od b_ws b_hw u_la b_se b_re u_bk u_va u_su u_ce u_ho u_wy u_bt u_ps b_pt u_tg u_sn b_ip u_ic b_ah b_be b_me u_wd b_tr b_ld u_st b_wn u_id)), (b_ah, (arJ G 49152 v_ah)), (b_be, (arJ G 49152 v_be))] sz) := by
  refine Met.ofW (cc := cX12_rowsAt) (maxL := 7) (ret := (some .long)) (by decide +kernel) rfl ?_
  intro p e s m args below meth c s₁ B hml hv
  obtain ⟨rfl, hsz, hP, hK, hD0, hN, hT⟩ := hv
  have hx := B.exec
  have hb := B.bytes
  have hr := B.returns
  have hts : ∀ w ∈ tblG, w.before _ s = true := fun w h => atoms_spec (ws := (wsG yX12_rowsAt cX12_rowsAt 7 (some .long))) B.pre w (List.mem_cons_of_mem _ h)
  have hown : s.vm.findClass RX12 = some m.cls := findClass_of_methodNamed B.named
  have hlocks := B.notSynchronized
  subst hsz
  have hD := hD0.self (sz := s.heap.size)
  generalize hAe : va_A [(b_o, (oc12 u_th u_sa b_rf b_ro b_im b_ke u_fd b_tp u_td u_fr u_to u_so u_wo u_fa u_bd u_nc b_nl u_co b_op b_ar u_le b_pi b_pa u_pd u_od b_ws b_hw u_la b_se b_re u_bk u_va u_su u_ce u_ho u_wy u_bt u_ps b_pt u_tg u_sn b_ip u_ic b_ah b_be b_me u_wd b_tr b_ld u_st b_wn u_id)), (b_ah, (arJ G 49152 v_ah)), (b_be, (arJ G 49152 v_be))] s.heap.size = A at hD hT ⊢
  have hA : ∀ q : Nat, s.heap.size ≤ q → A q := fun q h => by rw [← hAe]; exact Or.inr h
  have hS : va_S A s.heap s.heap [] := va_S.rf
  replace hP : va_P G.1 vwCl [(b_o, (oc12 u_th u_sa b_rf b_ro b_im b_ke u_fd b_tp u_td u_fr u_to u_so u_wo u_fa u_bd u_nc b_nl u_co b_op b_ar u_le b_pi b_pa u_pd u_od b_ws b_hw u_la b_se b_re u_bk u_va u_su u_ce u_ho u_wy u_bt u_ps b_pt u_tg u_sn b_ip u_ic b_ah b_be b_me u_wd b_tr b_ld u_st b_wn u_id)), (b_ah, (arJ G 49152 v_ah)), (b_be, (arJ G 49152 v_be))] s.heap := hP
  have hl := lv_entry ([.ref b_o, .int p_1, .int p_2]) (n := 7) (Nat.le_of_ble_eq_true rfl)
  rw [lg_entry_eq]
  generalize (lg_sl ([.ref b_o, .int p_1, .int p_2]) ++ List.replicate (7 - (lg_sl ([.ref b_o, .int p_1, .int p_2])).length) Slot.unset).toArray = ls at hl ⊢
  replace hl : lv_has ls 7 [(0, .ref b_o), (1, .int p_1), (2, .int p_2)] := hl
  refine lv_lconst (v := 0) hx hb dX12_rowsAt_0 (by decide +kernel) ?_
  refine lv_lstore_n (lv' := [(3, .long 0), (0, .ref b_o), (1, .int p_1), (2, .int p_2)]) hx hb dX12_rowsAt_1 rfl hl (by decide +kernel) rfl ?_
  clear hl
  intro ls hl
  refine lv_iconst (v := 0) hx hb dX12_rowsAt_2 (by decide +kernel) ?_
  refine lv_istore (lv' := [(5, .int 0), (3, .long 0), (0, .ref b_o), (1, .int p_1), (2, .int p_2)]) hx hb dX12_rowsAt_3 hl (by decide +kernel) rfl ?_
  clear hl
  intro ls hl
  refine g5_loop (α := (Int32) × (Int64)) (fun (q : (Int32) × (Int64)) (ls : Array Slot) (H : Heap) (locs : List Loc) => match q with | (k5_5, k5_3) => lv_has ls 7 [(3, .long k5_3), (5, .int k5_5), (0, .ref b_o), (1, .int p_1), (2, .int p_2)] ∧ va_P G.1 vwCl [(b_o, (oc12 u_th u_sa b_rf b_ro b_im b_ke u_fd b_tp u_td u_fr u_to u_so u_wo u_fa u_bd u_nc b_nl u_co b_op b_ar u_le b_pi b_pa u_pd u_od b_ws b_hw u_la b_se b_re u_bk u_va u_su u_ce u_ho u_wy u_bt u_ps b_pt u_tg u_sn b_ip u_ic b_ah b_be b_me u_wd b_tr b_ld u_st b_wn u_id)), (b_ah, (arJ G 49152 v_ah)), (b_be, (arJ G 49152 v_be))] H ∧ va_D A [(b_o, (oc12 u_th u_sa b_rf b_ro b_im b_ke u_fd b_tp u_td u_fr u_to u_so u_wo u_fa u_bd u_nc b_nl u_co b_op b_ar u_le b_pi b_pa u_pd u_od b_ws b_hw u_la b_se b_re u_bk u_va u_su u_ce u_ho u_wy u_bt u_ps b_pt u_tg u_sn b_ip u_ic b_ah b_be b_me u_wd b_tr b_ld u_st b_wn u_id)), (b_ah, (arJ G 49152 v_ah)), (b_be, (arJ G 49152 v_be))] ∧ va_S A s.heap H locs ∧ (0 ≤ k5_5.toInt ∧ k5_5.toInt ≤ 32)) (fun (q : (Int32) × (Int64)) => match q with | (k5_5, k5_3) => Int.toNat (32 - k5_5.toInt)) (0, 0) ⟨lv_sub hl [1, 0, 2, 3, 4] rfl, hP, hD, hS, ⟨by decide, by decide⟩⟩ ?_
  rintro ⟨k5_5, k5_3⟩ ls H locs ⟨hl, hP, hD, hS, (i_1 : 0 ≤ k5_5.toInt ∧ k5_5.toInt ≤ 32)⟩ ih_5_2
  replace hl : lv_has ls 7 [(3, .long k5_3), (5, .int k5_5), (0, .ref b_o), (1, .int p_1), (2, .int p_2)] := hl
  refine g5_rs [(b_o, (oc12 u_th u_sa b_rf b_ro b_im b_ke u_fd b_tp u_td u_fr u_to u_so u_wo u_fa u_bd u_nc b_nl u_co b_op b_ar u_le b_pi b_pa u_pd u_od b_ws b_hw u_la b_se b_re u_bk u_va u_su u_ce u_ho u_wy u_bt u_ps b_pt u_tg u_sn b_ip u_ic b_ah b_be b_me u_wd b_tr b_ld u_st b_wn u_id)), (b_ah, (arJ G 49152 v_ah)), (b_be, (arJ G 49152 v_be))] hP hD ?_
  clear hP hD
  intro hP hD
  refine lv_iload hx hb dX12_rowsAt_5 (lv_at hl 1 rfl) ?_
  refine lv_bipush (v := 32) hx hb dX12_rowsAt_7 (by decide +kernel) ?_
  refine lv_icmp_ge (tgt := 50) hx hb dX12_rowsAt_9 (by decide +kernel) (fun c_3 => ?_) (fun c_3 => ?_)
  ·
    have i_3 : k5_5.toInt ≥ 32 := g5_ge (a := k5_5.toInt) (b := 32) rfl (by decide +kernel) c_3
    refine lv_lload_n hx hb dX12_rowsAt_50 rfl (lv_at hl 0 rfl) ?_
    exact W.lret (v := k5_3) hx hb hr (fun t ht hW => ⟨⟨k5_3, [(b_o, (oc12 u_th u_sa b_rf b_ro b_im b_ke u_fd b_tp u_td u_fr u_to u_so u_wo u_fa u_bd u_nc b_nl u_co b_op b_ar u_le b_pi b_pa u_pd u_od b_ws b_hw u_la b_se b_re u_bk u_va u_su u_ce u_ho u_wy u_bt u_ps b_pt u_tg u_sn b_ip u_ic b_ah b_be b_me u_wd b_tr b_ld u_st b_wn u_id)), (b_ah, (arJ G 49152 v_ah)), (b_be, (arJ G 49152 v_be))], rfl, ⟨k5_3, rfl, rfl⟩, by rw [ht]; exact hP.sub [0, 1, 2] rfl, hD.sub [0, 1, 2] (by decide +kernel) rfl⟩, hS.F ht⟩) hS.2.2 dX12_rowsAt_51
  ·
    have i_3 : k5_5.toInt < 32 := g5_geN (a := k5_5.toInt) (b := 32) rfl (by decide +kernel) c_3
    refine lv_bipush (v := 32) hx hb dX12_rowsAt_12 (by decide +kernel) ?_
    refine lv_bipush (v := 64) hx hb dX12_rowsAt_14 (by decide +kernel) ?_
    refine lv_iload_n hx hb dX12_rowsAt_16 rfl (lv_at hl 3 rfl) ?_
    refine lv_imul hx hb dX12_rowsAt_17 ?_
    have t_4 : (64 * p_1).toInt = 64 * p_1.toInt := g5_imul (a := 64) (b := p_1.toInt) (by decide +kernel) (by rfl) (by omega) (by omega)
    refine W.eq (g2 := F0 m 18 ls [.int (64 * p_1), .int 32]) rfl ?_
    refine lv_iload_n hx hb dX12_rowsAt_18 rfl (lv_at hl 4 rfl) ?_
    refine lv_iadd hx hb dX12_rowsAt_19 ?_
    have t_5 : ((64 * p_1) + p_2).toInt = (64 * p_1).toInt + p_2.toInt := g5_iadd (a := (64 * p_1).toInt) (b := p_2.toInt) (by rfl) (by rfl) (by omega) (by omega)
    refine lv_imul hx hb dX12_rowsAt_20 ?_
    have t_6 : (32 * ((64 * p_1) + p_2)).toInt = 32 * ((64 * p_1) + p_2).toInt := g5_imul (a := 32) (b := ((64 * p_1) + p_2).toInt) (by decide +kernel) (by rfl) (by omega) (by omega)
    refine lv_iload hx hb dX12_rowsAt_21 (lv_at hl 1 rfl) ?_
    refine lv_iadd hx hb dX12_rowsAt_23 ?_
    have t_7 : ((32 * ((64 * p_1) + p_2)) + k5_5).toInt = (32 * ((64 * p_1) + p_2)).toInt + k5_5.toInt := g5_iadd (a := (32 * ((64 * p_1) + p_2)).toInt) (b := k5_5.toInt) (by rfl) (by rfl) (by omega) (by omega)
    refine W.eq (g2 := F0 m 24 ls [.int ((32 * ((64 * p_1) + p_2)) + k5_5)]) rfl ?_
    refine lv_istore (lv' := [(6, .int ((32 * ((64 * p_1) + p_2)) + k5_5)), (3, .long k5_3), (5, .int k5_5), (0, .ref b_o), (1, .int p_1), (2, .int p_2)]) hx hb dX12_rowsAt_24 hl (by decide +kernel) rfl ?_
    clear hl
    intro ls hl
    refine lv_lload_n hx hb dX12_rowsAt_26 rfl (lv_at hl 1 rfl) ?_
    refine lv_aload_n hx hb dX12_rowsAt_27 rfl (lv_at hl 3 rfl) ?_
    refine va_get (D := G.1) (ci := 12) (v := .ref b_ah) (C := RX12) (T := TX12) (N := 52) hx hb hts inG_X12 hown hK hP 0 rfl rfl 43 (by decide +kernel) (hts _ fl_X12_89) (fun _ h9 => h9) rfl dX12_rowsAt_28 ?_
    refine lv_iload hx hb dX12_rowsAt_31 (lv_at hl 0 rfl) ?_
    refine W.eq (g2 := F0 m 33 ls [.int ((32 * ((64 * p_1) + p_2)) + k5_5), .ref b_ah, .long k5_3]) rfl ?_
    refine va_lald hx hb hK hP 1 1 rfl rfl (i := ((32 * ((64 * p_1) + p_2)) + k5_5)) (vp_in_iff.mpr ⟨by omega, by omega⟩) dX12_rowsAt_33 ?_
    refine lv_aload_n hx hb dX12_rowsAt_34 rfl (lv_at hl 3 rfl) ?_
    refine va_get (D := G.1) (ci := 12) (v := .ref b_be) (C := RX12) (T := TX12) (N := 52) hx hb hts inG_X12 hown hK hP 0 rfl rfl 44 (by decide +kernel) (hts _ fl_X12_92) (fun _ h9 => h9) rfl dX12_rowsAt_35 ?_
    refine lv_iload hx hb dX12_rowsAt_38 (lv_at hl 0 rfl) ?_
    refine va_lald hx hb hK hP 2 1 rfl rfl (i := ((32 * ((64 * p_1) + p_2)) + k5_5)) (vp_in_iff.mpr ⟨by omega, by omega⟩) dX12_rowsAt_40 ?_
    refine W.eq (g2 := F0 m 41 ls [.long (v_be ((32 * ((64 * p_1) + p_2)) + k5_5).toNatClampNeg), .long (v_ah ((32 * ((64 * p_1) + p_2)) + k5_5).toNatClampNeg), .long k5_3]) rfl ?_
    refine lv_lmul hx hb dX12_rowsAt_41 ?_
    refine lv_ladd hx hb dX12_rowsAt_42 ?_
    refine lv_lstore_n (lv' := [(3, .long (k5_3 + ((v_ah ((32 * ((64 * p_1) + p_2)) + k5_5).toNatClampNeg) * (v_be ((32 * ((64 * p_1) + p_2)) + k5_5).toNatClampNeg)))), (6, .int ((32 * ((64 * p_1) + p_2)) + k5_5)), (5, .int k5_5), (0, .ref b_o), (1, .int p_1), (2, .int p_2)]) hx hb dX12_rowsAt_43 rfl hl (by decide +kernel) rfl ?_
    clear hl
    intro ls hl
    refine lv_iinc (v := (k5_5 + 1)) (lv' := [(5, .int (k5_5 + 1)), (3, .long (k5_3 + ((v_ah ((32 * ((64 * p_1) + p_2)) + k5_5).toNatClampNeg) * (v_be ((32 * ((64 * p_1) + p_2)) + k5_5).toNatClampNeg)))), (6, .int ((32 * ((64 * p_1) + p_2)) + k5_5)), (0, .ref b_o), (1, .int p_1), (2, .int p_2)]) hx hb dX12_rowsAt_44 hl (k := 2) rfl rfl (by decide +kernel) rfl ?_
    clear hl
    intro ls hl
    have t_8 : (k5_5 + 1).toInt = k5_5.toInt + 1 := g5_iadd (a := k5_5.toInt) (b := 1) rfl (by decide +kernel) (by omega) (by omega)
    refine lv_goto (tgt := 5) hx hb dX12_rowsAt_47 (by decide +kernel) ?_
    exact ih_5_2 ((k5_5 + 1), (k5_3 + ((v_ah ((32 * ((64 * p_1) + p_2)) + k5_5).toNatClampNeg) * (v_be ((32 * ((64 * p_1) + p_2)) + k5_5).toNatClampNeg)))) ls H locs (show Int.toNat (32 - (k5_5 + 1).toInt) < Int.toNat (32 - k5_5.toInt) from g_up (show k5_5.toInt < (k5_5 + 1).toInt by omega) (show k5_5.toInt < 32 by omega)) ⟨lv_sub hl [1, 0, 3, 4, 5] rfl, hP, hD, hS, ⟨by omega, by omega⟩⟩
theorem dgX12_allRows_0 : ∀ r ∈ ([(0, (.lconst 0, 1)), (1, (.lstore_n 1, 1)), (2, (.iconst 0, 1)), (3, (.istore_n 3, 1)), (4, (.iload_n 3, 1)), (5, (.bipush 64, 2)), (7, (.if_icmp .ge 18, 3)), (10, (.lload_n 1, 1)), (11, (.aload_n 0, 1)), (12, (.iconst 0, 1)), (13, (.iload_n 3, 1)), (14, (.invokevirtual 440, 3)), (17, (.ladd, 1)), (18, (.lstore_n 1, 1)), (19, (.iinc 3 1, 3)), (22, (.goto (-18), 3)), (25, (.lload_n 1, 1)), (26, (.lreturn, 1))] : List (Nat × (Instr × Nat))), decode cX12_allRows r.1 = .ok r.2 := by decide +kernel
theorem dX12_allRows_0 : decode cX12_allRows 0 = .ok (.lconst 0, 1) := dgX12_allRows_0 (0, (.lconst 0, 1)) (List.mem_of_getElem? (i := 0) rfl)
theorem dX12_allRows_1 : decode cX12_allRows 1 = .ok (.lstore_n 1, 1) := dgX12_allRows_0 (1, (.lstore_n 1, 1)) (List.mem_of_getElem? (i := 1) rfl)
theorem dX12_allRows_2 : decode cX12_allRows 2 = .ok (.iconst 0, 1) := dgX12_allRows_0 (2, (.iconst 0, 1)) (List.mem_of_getElem? (i := 2) rfl)
theorem dX12_allRows_3 : decode cX12_allRows 3 = .ok (.istore_n 3, 1) := dgX12_allRows_0 (3, (.istore_n 3, 1)) (List.mem_of_getElem? (i := 3) rfl)
theorem dX12_allRows_4 : decode cX12_allRows 4 = .ok (.iload_n 3, 1) := dgX12_allRows_0 (4, (.iload_n 3, 1)) (List.mem_of_getElem? (i := 4) rfl)
theorem dX12_allRows_5 : decode cX12_allRows 5 = .ok (.bipush 64, 2) := dgX12_allRows_0 (5, (.bipush 64, 2)) (List.mem_of_getElem? (i := 5) rfl)
theorem dX12_allRows_7 : decode cX12_allRows 7 = .ok (.if_icmp .ge 18, 3) := dgX12_allRows_0 (7, (.if_icmp .ge 18, 3)) (List.mem_of_getElem? (i := 6) rfl)
theorem dX12_allRows_10 : decode cX12_allRows 10 = .ok (.lload_n 1, 1) := dgX12_allRows_0 (10, (.lload_n 1, 1)) (List.mem_of_getElem? (i := 7) rfl)
theorem dX12_allRows_11 : decode cX12_allRows 11 = .ok (.aload_n 0, 1) := dgX12_allRows_0 (11, (.aload_n 0, 1)) (List.mem_of_getElem? (i := 8) rfl)
theorem dX12_allRows_12 : decode cX12_allRows 12 = .ok (.iconst 0, 1) := dgX12_allRows_0 (12, (.iconst 0, 1)) (List.mem_of_getElem? (i := 9) rfl)
theorem dX12_allRows_13 : decode cX12_allRows 13 = .ok (.iload_n 3, 1) := dgX12_allRows_0 (13, (.iload_n 3, 1)) (List.mem_of_getElem? (i := 10) rfl)
theorem dX12_allRows_14 : decode cX12_allRows 14 = .ok (.invokevirtual 440, 3) := dgX12_allRows_0 (14, (.invokevirtual 440, 3)) (List.mem_of_getElem? (i := 11) rfl)
theorem dX12_allRows_17 : decode cX12_allRows 17 = .ok (.ladd, 1) := dgX12_allRows_0 (17, (.ladd, 1)) (List.mem_of_getElem? (i := 12) rfl)
theorem dX12_allRows_18 : decode cX12_allRows 18 = .ok (.lstore_n 1, 1) := dgX12_allRows_0 (18, (.lstore_n 1, 1)) (List.mem_of_getElem? (i := 13) rfl)
theorem dX12_allRows_19 : decode cX12_allRows 19 = .ok (.iinc 3 1, 3) := dgX12_allRows_0 (19, (.iinc 3 1, 3)) (List.mem_of_getElem? (i := 14) rfl)
theorem dX12_allRows_22 : decode cX12_allRows 22 = .ok (.goto (-18), 3) := dgX12_allRows_0 (22, (.goto (-18), 3)) (List.mem_of_getElem? (i := 15) rfl)
theorem dX12_allRows_25 : decode cX12_allRows 25 = .ok (.lload_n 1, 1) := dgX12_allRows_0 (25, (.lload_n 1, 1)) (List.mem_of_getElem? (i := 16) rfl)
theorem dX12_allRows_26 : decode cX12_allRows 26 = .ok (.lreturn, 1) := dgX12_allRows_0 (26, (.lreturn, 1)) (List.mem_of_getElem? (i := 17) rfl)
theorem ml_X12_440 : Cond.methodLink RX12 440 yX12_rowsAt ∈ tblG := tg 1740 (by decide +kernel) (by decide +kernel)
theorem im_X12_rowsAt : Cond.instanceMethod yX12_rowsAt ∈ tblG := tg 1742 (by decide +kernel) (by decide +kernel)
theorem se_X12_rowsAt : Cond.selects RX12 yX12_rowsAt yX12_rowsAt ∈ tblG := tg 82 (by decide +kernel) (by decide +kernel)
theorem cd_X12_rowsAt : Cond.code yX12_rowsAt cX12_rowsAt 7 (some .long) ∈ tblG := tg 1743 (by decide +kernel) (by decide +kernel)
theorem gW_X12_rowsAt : GoodIn tblG (wsG yX12_rowsAt cX12_rowsAt 7 (some .long)) := tgi cd_X12_rowsAt
theorem gV_X12_440 : GoodIn tblG (wsV RX12 440 RX12 yX12_rowsAt (wsG yX12_rowsAt cX12_rowsAt 7 (some .long))) := tgV ml_X12_440 im_X12_rowsAt se_X12_rowsAt ini_X12 gW_X12_rowsAt
theorem hv_X12_rowsAt : yX12_rowsAt.cls = RX12 ∧ yX12_rowsAt.cls ≠ "java/lang/invoke/MethodHandle" ∧ yX12_rowsAt.cls ≠ "java/lang/invoke/VarHandle" ∧ (parseMethodDescriptor yX12_rowsAt.desc).map (fun d => d.parameters.length) = some 2 := by decide +kernel
set_option maxHeartbeats 4000000 in
set_option maxRecDepth 100000 in
theorem n_allRows (l : Launch) (G : g5_G) (b_o b_ah b_be b_rf b_ro b_im b_ke b_tp b_nl b_op b_ar b_pi b_pa b_ws b_hw b_se b_re b_pt b_ip b_me b_tr b_ld b_wn : Nat) (sz : Nat) (u_th : Int32) (u_sa : Int32) (u_fd : Int32) (u_td : Int32) (u_fr : Int32) (u_to : Int32) (u_so : Int32) (u_fa : Int32) (u_bd : Int32) (u_nc : Int32) (u_co : Int32) (u_le : Int32) (u_pd : Int32) (u_od : Int32) (u_la : Int32) (u_bk : Int32) (u_ce : Int32) (u_ho : Int32) (u_wy : Int32) (u_bt : Int32) (u_ps : Int32) (u_tg : Int32) (u_sn : Int32) (u_ic : Int32) (u_wd : Int32) (u_id : Int32) (u_wo : Int64) (u_va : Int64) (u_su : Int64) (u_st : Int64) (v_ah : Nat → Int64) (v_be : Nat → Int64) (h_u_td : 0 ≤ u_td.toInt ∧ u_td.toInt ≤ 400) (h_u_fr : 0 ≤ u_fr.toInt ∧ u_fr.toInt ≤ 400) (h_u_to : 0 ≤ u_to.toInt ∧ u_to.toInt ≤ 400) (h_u_bd : 0 ≤ u_bd.toInt ∧ u_bd.toInt ≤ 1) (h_u_nc : 0 ≤ u_nc.toInt ∧ u_nc.toInt ≤ 12) (h_u_co : 0 ≤ u_co.toInt ∧ u_co.toInt ≤ 400) (h_u_pd : 0 ≤ u_pd.toInt ∧ u_pd.toInt ≤ 400) (h_u_la : 0 ≤ u_la.toInt ∧ u_la.toInt ≤ 4840) (h_u_bk : 0 ≤ u_bk.toInt ∧ u_bk.toInt ≤ 1) (h_u_ce : 0 ≤ u_ce.toInt ∧ u_ce.toInt ≤ 63) (h_u_ho : 0 ≤ u_ho.toInt ∧ u_ho.toInt ≤ 23) (h_u_wy : 0 ≤ u_wy.toInt ∧ u_wy.toInt ≤ 3) (h_u_bt : 0 ≤ u_bt.toInt ∧ u_bt.toInt ≤ 1000000) (h_u_ps : 0 ≤ u_ps.toInt ∧ u_ps.toInt ≤ 200) (h_u_ic : 0 ≤ u_ic.toInt ∧ u_ic.toInt ≤ 1) (h_u_id : 0 ≤ u_id.toInt ∧ u_id.toInt ≤ 1) : Met l yX12_allRows (wsG yX12_allRows cX12_allRows 4 (some .long)) ({ frames := 1, cells := 0, slots := 0, locals := 26 }) (va_Pc [.ref b_o] (g5_P G [(b_o, (oc12 u_th u_sa b_rf b_ro b_im b_ke u_fd b_tp u_td u_fr u_to u_so u_wo u_fa u_bd u_nc b_nl u_co b_op b_ar u_le b_pi b_pa u_pd u_od b_ws b_hw u_la b_se b_re u_bk u_va u_su u_ce u_ho u_wy u_bt u_ps b_pt u_tg u_sn b_ip u_ic b_ah b_be b_me u_wd b_tr b_ld u_st b_wn u_id)), (b_ah, (arJ G 49152 v_ah)), (b_be, (arJ G 49152 v_be))] sz)) (va_Ql (fun (r : Int64) (u : va_W) => (∃ (o_r : Int64), (r = o_r) ∧ (u = [(b_o, (oc12 u_th u_sa b_rf b_ro b_im b_ke u_fd b_tp u_td u_fr u_to u_so u_wo u_fa u_bd u_nc b_nl u_co b_op b_ar u_le b_pi b_pa u_pd u_od b_ws b_hw u_la b_se b_re u_bk u_va u_su u_ce u_ho u_wy u_bt u_ps b_pt u_tg u_sn b_ip u_ic b_ah b_be b_me u_wd b_tr b_ld u_st b_wn u_id)), (b_ah, (arJ G 49152 v_ah)), (b_be, (arJ G 49152 v_be))]))) (g5_B G (va_A [(b_o, (oc12 u_th u_sa b_rf b_ro b_im b_ke u_fd b_tp u_td u_fr u_to u_so u_wo u_fa u_bd u_nc b_nl u_co b_op b_ar u_le b_pi b_pa u_pd u_od b_ws b_hw u_la b_se b_re u_bk u_va u_su u_ce u_ho u_wy u_bt u_ps b_pt u_tg u_sn b_ip u_ic b_ah b_be b_me u_wd b_tr b_ld u_st b_wn u_id)), (b_ah, (arJ G 49152 v_ah)), (b_be, (arJ G 49152 v_be))] sz)) (va_A [(b_o, (oc12 u_th u_sa b_rf b_ro b_im b_ke u_fd b_tp u_td u_fr u_to u_so u_wo u_fa u_bd u_nc b_nl u_co b_op b_ar u_le b_pi b_pa u_pd u_od b_ws b_hw u_la b_se b_re u_bk u_va u_su u_ce u_ho u_wy u_bt u_ps b_pt u_tg u_sn b_ip u_ic b_ah b_be b_me u_wd b_tr b_ld u_st b_wn u_id)), (b_ah, (arJ G 49152 v_ah)), (b_be, (arJ G 49152 v_be))] sz)) 0 0 (va_A [(b_o, (oc12 u_th u_sa b_rf b_ro b_im b_ke u_fd b_tp u_td u_fr u_to u_so u_wo u_fa u_bd u_nc b_nl u_co b_op b_ar u_le b_pi b_pa u_pd u_od b_ws b_hw u_la b_se b_re u_bk u_va u_su u_ce u_ho u_wy u_bt u_ps b_pt u_tg u_sn b_ip u_ic b_ah b_be b_me u_wd b_tr b_ld u_st b_wn u_id)), (b_ah, (arJ G 49152 v_ah)), (b_be, (arJ G 49152 v_be))] sz) := by
  refine Met.ofW (cc := cX12_allRows) (maxL := 4) (ret := (some .long)) (by decide +kernel) rfl ?_
  intro p e s m args below meth c s₁ B hml hv
  obtain ⟨rfl, hsz, hP, hK, hD0, hN, hT⟩ := hv
  have hx := B.exec
  have hb := B.bytes
  have hr := B.returns
  have hts : ∀ w ∈ tblG, w.before _ s = true := fun w h => atoms_spec (ws := (wsG yX12_allRows cX12_allRows 4 (some .long))) B.pre w (List.mem_cons_of_mem _ h)
  have hown : s.vm.findClass RX12 = some m.cls := findClass_of_methodNamed B.named
  have hlocks := B.notSynchronized
  subst hsz
  have hD := hD0.self (sz := s.heap.size)
  generalize hAe : va_A [(b_o, (oc12 u_th u_sa b_rf b_ro b_im b_ke u_fd b_tp u_td u_fr u_to u_so u_wo u_fa u_bd u_nc b_nl u_co b_op b_ar u_le b_pi b_pa u_pd u_od b_ws b_hw u_la b_se b_re u_bk u_va u_su u_ce u_ho u_wy u_bt u_ps b_pt u_tg u_sn b_ip u_ic b_ah b_be b_me u_wd b_tr b_ld u_st b_wn u_id)), (b_ah, (arJ G 49152 v_ah)), (b_be, (arJ G 49152 v_be))] s.heap.size = A at hD hT ⊢
  have hA : ∀ q : Nat, s.heap.size ≤ q → A q := fun q h => by rw [← hAe]; exact Or.inr h
  have hS : va_S A s.heap s.heap [] := va_S.rf
  replace hP : va_P G.1 vwCl [(b_o, (oc12 u_th u_sa b_rf b_ro b_im b_ke u_fd b_tp u_td u_fr u_to u_so u_wo u_fa u_bd u_nc b_nl u_co b_op b_ar u_le b_pi b_pa u_pd u_od b_ws b_hw u_la b_se b_re u_bk u_va u_su u_ce u_ho u_wy u_bt u_ps b_pt u_tg u_sn b_ip u_ic b_ah b_be b_me u_wd b_tr b_ld u_st b_wn u_id)), (b_ah, (arJ G 49152 v_ah)), (b_be, (arJ G 49152 v_be))] s.heap := hP
  have hl := lv_entry ([.ref b_o]) (n := 4) (Nat.le_of_ble_eq_true rfl)
  rw [lg_entry_eq]
  generalize (lg_sl ([.ref b_o]) ++ List.replicate (4 - (lg_sl ([.ref b_o])).length) Slot.unset).toArray = ls at hl ⊢
  replace hl : lv_has ls 4 [(0, .ref b_o)] := hl
  refine lv_lconst (v := 0) hx hb dX12_allRows_0 (by decide +kernel) ?_
  refine lv_lstore_n (lv' := [(1, .long 0), (0, .ref b_o)]) hx hb dX12_allRows_1 rfl hl (by decide +kernel) rfl ?_
  clear hl
  intro ls hl
  refine lv_iconst (v := 0) hx hb dX12_allRows_2 (by decide +kernel) ?_
  refine lv_istore_n (lv' := [(3, .int 0), (1, .long 0), (0, .ref b_o)]) hx hb dX12_allRows_3 rfl hl (by decide +kernel) rfl ?_
  clear hl
  intro ls hl
  refine g5_loop (α := (Int32) × (Int64)) (fun (q : (Int32) × (Int64)) (ls : Array Slot) (H : Heap) (locs : List Loc) => match q with | (k4_3, k4_1) => lv_has ls 4 [(1, .long k4_1), (3, .int k4_3), (0, .ref b_o)] ∧ va_P G.1 vwCl [(b_o, (oc12 u_th u_sa b_rf b_ro b_im b_ke u_fd b_tp u_td u_fr u_to u_so u_wo u_fa u_bd u_nc b_nl u_co b_op b_ar u_le b_pi b_pa u_pd u_od b_ws b_hw u_la b_se b_re u_bk u_va u_su u_ce u_ho u_wy u_bt u_ps b_pt u_tg u_sn b_ip u_ic b_ah b_be b_me u_wd b_tr b_ld u_st b_wn u_id)), (b_ah, (arJ G 49152 v_ah)), (b_be, (arJ G 49152 v_be))] H ∧ va_D A [(b_o, (oc12 u_th u_sa b_rf b_ro b_im b_ke u_fd b_tp u_td u_fr u_to u_so u_wo u_fa u_bd u_nc b_nl u_co b_op b_ar u_le b_pi b_pa u_pd u_od b_ws b_hw u_la b_se b_re u_bk u_va u_su u_ce u_ho u_wy u_bt u_ps b_pt u_tg u_sn b_ip u_ic b_ah b_be b_me u_wd b_tr b_ld u_st b_wn u_id)), (b_ah, (arJ G 49152 v_ah)), (b_be, (arJ G 49152 v_be))] ∧ va_S A s.heap H locs ∧ (0 ≤ k4_3.toInt ∧ k4_3.toInt ≤ 64)) (fun (q : (Int32) × (Int64)) => match q with | (k4_3, k4_1) => Int.toNat (64 - k4_3.toInt)) (0, 0) ⟨lv_sub hl [1, 0, 2] rfl, hP, hD, hS, ⟨by decide, by decide⟩⟩ ?_
  rintro ⟨k4_3, k4_1⟩ ls H locs ⟨hl, hP, hD, hS, (i_1 : 0 ≤ k4_3.toInt ∧ k4_3.toInt ≤ 64)⟩ ih_4_2
  replace hl : lv_has ls 4 [(1, .long k4_1), (3, .int k4_3), (0, .ref b_o)] := hl
  refine g5_rs [(b_o, (oc12 u_th u_sa b_rf b_ro b_im b_ke u_fd b_tp u_td u_fr u_to u_so u_wo u_fa u_bd u_nc b_nl u_co b_op b_ar u_le b_pi b_pa u_pd u_od b_ws b_hw u_la b_se b_re u_bk u_va u_su u_ce u_ho u_wy u_bt u_ps b_pt u_tg u_sn b_ip u_ic b_ah b_be b_me u_wd b_tr b_ld u_st b_wn u_id)), (b_ah, (arJ G 49152 v_ah)), (b_be, (arJ G 49152 v_be))] hP hD ?_
  clear hP hD
  intro hP hD
  refine lv_iload_n hx hb dX12_allRows_4 rfl (lv_at hl 1 rfl) ?_
  refine lv_bipush (v := 64) hx hb dX12_allRows_5 (by decide +kernel) ?_
  refine lv_icmp_ge (tgt := 25) hx hb dX12_allRows_7 (by decide +kernel) (fun c_3 => ?_) (fun c_3 => ?_)
  ·
    have i_3 : k4_3.toInt ≥ 64 := g5_ge (a := k4_3.toInt) (b := 64) rfl (by decide +kernel) c_3
    refine lv_lload_n hx hb dX12_allRows_25 rfl (lv_at hl 0 rfl) ?_
    exact W.lret (v := k4_1) hx hb hr (fun t ht hW => ⟨⟨k4_1, [(b_o, (oc12 u_th u_sa b_rf b_ro b_im b_ke u_fd b_tp u_td u_fr u_to u_so u_wo u_fa u_bd u_nc b_nl u_co b_op b_ar u_le b_pi b_pa u_pd u_od b_ws b_hw u_la b_se b_re u_bk u_va u_su u_ce u_ho u_wy u_bt u_ps b_pt u_tg u_sn b_ip u_ic b_ah b_be b_me u_wd b_tr b_ld u_st b_wn u_id)), (b_ah, (arJ G 49152 v_ah)), (b_be, (arJ G 49152 v_be))], rfl, ⟨k4_1, rfl, rfl⟩, by rw [ht]; exact hP.sub [0, 1, 2] rfl, hD.sub [0, 1, 2] (by decide +kernel) rfl⟩, hS.F ht⟩) hS.2.2 dX12_allRows_26
  ·
    have i_3 : k4_3.toInt < 64 := g5_geN (a := k4_3.toInt) (b := 64) rfl (by decide +kernel) c_3
    refine lv_lload_n hx hb dX12_allRows_10 rfl (lv_at hl 0 rfl) ?_
    refine lv_aload_n hx hb dX12_allRows_11 rfl (lv_at hl 2 rfl) ?_
    refine lv_iconst (v := 0) hx hb dX12_allRows_12 (by decide +kernel) ?_
    refine lv_iload_n hx hb dX12_allRows_13 rfl (lv_at hl 1 rfl) ?_
    refine W.eq (g2 := F0 m 14 ls [.int k4_3, .int 0, .ref b_o, .long k4_1]) rfl ?_
    obtain ⟨hPc, hDc, hFc⟩ := g5_sub3 (wc := [(b_o, (oc12 u_th u_sa b_rf b_ro b_im b_ke u_fd b_tp u_td u_fr u_to u_so u_wo u_fa u_bd u_nc b_nl u_co b_op b_ar u_le b_pi b_pa u_pd u_od b_ws b_hw u_la b_se b_re u_bk u_va u_su u_ce u_ho u_wy u_bt u_ps b_pt u_tg u_sn b_ip u_ic b_ah b_be b_me u_wd b_tr b_ld u_st b_wn u_id)), (b_ah, (arJ G 49152 v_ah)), (b_be, (arJ G 49152 v_be))]) hP hD hS hA [0, 1, 2] (by decide +kernel) rfl
    refine va_calll (va_runV (As := [.int 0, .int k4_3]) (rest := [.long k4_1]) ⟨hx, hb, hml, hown, hts⟩ (n_rowsAt l G b_o b_ah b_be b_rf b_ro b_im b_ke b_tp b_nl b_op b_ar b_pi b_pa b_ws b_hw b_se b_re b_pt b_ip b_me b_tr b_ld b_wn H.size u_th u_sa u_fd u_td u_fr u_to u_so u_fa u_bd u_nc u_co u_le u_pd u_od u_la u_bk u_ce u_ho u_wy u_bt u_ps u_tg u_sn u_ic u_wd u_id 0 k4_3 u_wo u_va u_su u_st v_ah v_be h_u_td h_u_fr h_u_to h_u_bd h_u_nc h_u_co h_u_pd h_u_la h_u_bk h_u_ce h_u_ho h_u_wy h_u_bt h_u_ps h_u_ic h_u_id ⟨by decide, by decide⟩ ⟨by omega, by omega⟩) (cwV 2 hts gV_X12_440 rfl rfl rfl hv_X12_rowsAt ⟨Nat.le_of_ble_eq_true rfl, Nat.le_of_ble_eq_true rfl⟩) (g5_preV hPc hK hDc hN hT hS hFc (ci := 12) (q0 := 0) rfl rfl) rfl rfl hl.1 rfl (lv_room (Nat.le_of_ble_eq_true rfl)) dX12_allRows_14 ⟨Nat.le_of_ble_eq_true rfl, Nat.le_of_ble_eq_true rfl⟩) hS (fun q _ h => hFc q h) hFc (fun r u t H locs ht hvm hw hB hz1 hk1 hS => ?_)
    obtain ⟨hP1, hD1⟩ := hB
    have hP1 := g5_ht ht hP1
    obtain ⟨z4, y5, rfl⟩ := hw
    have hJ9 := va_join (wr := []) hP hD [0, 1, 2] [] rfl rfl (by decide +kernel) (by decide +kernel) hk1 hFc hP1 hD1
    clear hP hD hPc hDc hFc ht hvm hz1 hk1 hP1 hD1
    obtain ⟨hP, hD⟩ := hJ9
    refine g5_rs [(b_o, (oc12 u_th u_sa b_rf b_ro b_im b_ke u_fd b_tp u_td u_fr u_to u_so u_wo u_fa u_bd u_nc b_nl u_co b_op b_ar u_le b_pi b_pa u_pd u_od b_ws b_hw u_la b_se b_re u_bk u_va u_su u_ce u_ho u_wy u_bt u_ps b_pt u_tg u_sn b_ip u_ic b_ah b_be b_me u_wd b_tr b_ld u_st b_wn u_id)), (b_ah, (arJ G 49152 v_ah)), (b_be, (arJ G 49152 v_be))] hP hD ?_
    clear hP hD
    intro hP hD
    refine g5_tl (v := z4) y5 ?_
    refine lv_ladd hx hb dX12_allRows_17 ?_
    refine lv_lstore_n (lv' := [(1, .long (k4_1 + z4)), (3, .int k4_3), (0, .ref b_o)]) hx hb dX12_allRows_18 rfl hl (by decide +kernel) rfl ?_
    clear hl
    intro ls hl
    refine lv_iinc (v := (k4_3 + 1)) (lv' := [(3, .int (k4_3 + 1)), (1, .long (k4_1 + z4)), (0, .ref b_o)]) hx hb dX12_allRows_19 hl (k := 1) rfl rfl (by decide +kernel) rfl ?_
    clear hl
    intro ls hl
    have t_6 : (k4_3 + 1).toInt = k4_3.toInt + 1 := g5_iadd (a := k4_3.toInt) (b := 1) rfl (by decide +kernel) (by omega) (by omega)
    refine lv_goto (tgt := 4) hx hb dX12_allRows_22 (by decide +kernel) ?_
    exact ih_4_2 ((k4_3 + 1), (k4_1 + z4)) ls H locs (show Int.toNat (64 - (k4_3 + 1).toInt) < Int.toNat (64 - k4_3.toInt) from g_up (show k4_3.toInt < (k4_3 + 1).toInt by omega) (show k4_3.toInt < 64 by omega)) ⟨lv_sub hl [1, 0, 2] rfl, hP, hD, hS, ⟨by omega, by omega⟩⟩
theorem dgX12_findMeets_0 : ∀ r ∈ ([(0, (.aload_n 0, 1)), (1, (.iconst 0, 1)), (2, (.putfield 422, 3)), (5, (.iconst 0, 1)), (6, (.istore 5, 2)), (8, (.iconst 0, 1)), (9, (.istore 6, 2)), (11, (.iload 6, 2)), (13, (.sipush 1536, 3)), (16, (.if_icmp .ge 34, 3)), (19, (.aload_n 0, 1)), (20, (.getfield 95, 3)), (23, (.iload 6, 2)), (25, (.aload_n 0, 1)), (26, (.iload 6, 2)), (28, (.bipush 64, 2)), (30, (.irem, 1)), (31, (.invokevirtual 160, 3)), (34, (.ifCond .eq 8, 3)), (37, (.bipush 64, 2)), (39, (.goto 4, 3)), (42, (.iconst 0, 1)), (43, (.iastore, 1)), (44, (.iinc 6 1, 3)), (47, (.goto (-36), 3)), (50, (.iconst 0, 1)), (51, (.istore 6, 2)), (53, (.iload 6, 2)), (55, (.aload_n 0, 1)), (56, (.getfield 13, 3)), (59, (.iconst 5, 1)), (60, (.iaload, 1)), (61, (.if_icmp .ge 162, 3)), (64, (.sipush 230, 3)), (67, (.iconst 4, 1)), (68, (.iload 6, 2)), (70, (.imul, 1)), (71, (.iadd, 1)), (72, (.istore 7, 2)), (74, (.iload_n 1, 1))] : List (Nat × (Instr × Nat))), decode cX12_findMeets r.1 = .ok r.2 := by decide +kernel
theorem dX12_findMeets_0 : decode cX12_findMeets 0 = .ok (.aload_n 0, 1) := dgX12_findMeets_0 (0, (.aload_n 0, 1)) (List.mem_of_getElem? (i := 0) rfl)
theorem dX12_findMeets_1 : decode cX12_findMeets 1 = .ok (.iconst 0, 1) := dgX12_findMeets_0 (1, (.iconst 0, 1)) (List.mem_of_getElem? (i := 1) rfl)
theorem dX12_findMeets_2 : decode cX12_findMeets 2 = .ok (.putfield 422, 3) := dgX12_findMeets_0 (2, (.putfield 422, 3)) (List.mem_of_getElem? (i := 2) rfl)
theorem dX12_findMeets_5 : decode cX12_findMeets 5 = .ok (.iconst 0, 1) := dgX12_findMeets_0 (5, (.iconst 0, 1)) (List.mem_of_getElem? (i := 3) rfl)
theorem dX12_findMeets_6 : decode cX12_findMeets 6 = .ok (.istore 5, 2) := dgX12_findMeets_0 (6, (.istore 5, 2)) (List.mem_of_getElem? (i := 4) rfl)
theorem dX12_findMeets_8 : decode cX12_findMeets 8 = .ok (.iconst 0, 1) := dgX12_findMeets_0 (8, (.iconst 0, 1)) (List.mem_of_getElem? (i := 5) rfl)
theorem dX12_findMeets_9 : decode cX12_findMeets 9 = .ok (.istore 6, 2) := dgX12_findMeets_0 (9, (.istore 6, 2)) (List.mem_of_getElem? (i := 6) rfl)
theorem dX12_findMeets_11 : decode cX12_findMeets 11 = .ok (.iload 6, 2) := dgX12_findMeets_0 (11, (.iload 6, 2)) (List.mem_of_getElem? (i := 7) rfl)
theorem dX12_findMeets_13 : decode cX12_findMeets 13 = .ok (.sipush 1536, 3) := dgX12_findMeets_0 (13, (.sipush 1536, 3)) (List.mem_of_getElem? (i := 8) rfl)
theorem dX12_findMeets_16 : decode cX12_findMeets 16 = .ok (.if_icmp .ge 34, 3) := dgX12_findMeets_0 (16, (.if_icmp .ge 34, 3)) (List.mem_of_getElem? (i := 9) rfl)
theorem dX12_findMeets_19 : decode cX12_findMeets 19 = .ok (.aload_n 0, 1) := dgX12_findMeets_0 (19, (.aload_n 0, 1)) (List.mem_of_getElem? (i := 10) rfl)
theorem dX12_findMeets_20 : decode cX12_findMeets 20 = .ok (.getfield 95, 3) := dgX12_findMeets_0 (20, (.getfield 95, 3)) (List.mem_of_getElem? (i := 11) rfl)
theorem dX12_findMeets_23 : decode cX12_findMeets 23 = .ok (.iload 6, 2) := dgX12_findMeets_0 (23, (.iload 6, 2)) (List.mem_of_getElem? (i := 12) rfl)
theorem dX12_findMeets_25 : decode cX12_findMeets 25 = .ok (.aload_n 0, 1) := dgX12_findMeets_0 (25, (.aload_n 0, 1)) (List.mem_of_getElem? (i := 13) rfl)
theorem dX12_findMeets_26 : decode cX12_findMeets 26 = .ok (.iload 6, 2) := dgX12_findMeets_0 (26, (.iload 6, 2)) (List.mem_of_getElem? (i := 14) rfl)
theorem dX12_findMeets_28 : decode cX12_findMeets 28 = .ok (.bipush 64, 2) := dgX12_findMeets_0 (28, (.bipush 64, 2)) (List.mem_of_getElem? (i := 15) rfl)
theorem dX12_findMeets_30 : decode cX12_findMeets 30 = .ok (.irem, 1) := dgX12_findMeets_0 (30, (.irem, 1)) (List.mem_of_getElem? (i := 16) rfl)
theorem dX12_findMeets_31 : decode cX12_findMeets 31 = .ok (.invokevirtual 160, 3) := dgX12_findMeets_0 (31, (.invokevirtual 160, 3)) (List.mem_of_getElem? (i := 17) rfl)
theorem dX12_findMeets_34 : decode cX12_findMeets 34 = .ok (.ifCond .eq 8, 3) := dgX12_findMeets_0 (34, (.ifCond .eq 8, 3)) (List.mem_of_getElem? (i := 18) rfl)
theorem dX12_findMeets_37 : decode cX12_findMeets 37 = .ok (.bipush 64, 2) := dgX12_findMeets_0 (37, (.bipush 64, 2)) (List.mem_of_getElem? (i := 19) rfl)
theorem dX12_findMeets_39 : decode cX12_findMeets 39 = .ok (.goto 4, 3) := dgX12_findMeets_0 (39, (.goto 4, 3)) (List.mem_of_getElem? (i := 20) rfl)
theorem dX12_findMeets_42 : decode cX12_findMeets 42 = .ok (.iconst 0, 1) := dgX12_findMeets_0 (42, (.iconst 0, 1)) (List.mem_of_getElem? (i := 21) rfl)
theorem dX12_findMeets_43 : decode cX12_findMeets 43 = .ok (.iastore, 1) := dgX12_findMeets_0 (43, (.iastore, 1)) (List.mem_of_getElem? (i := 22) rfl)
theorem dX12_findMeets_44 : decode cX12_findMeets 44 = .ok (.iinc 6 1, 3) := dgX12_findMeets_0 (44, (.iinc 6 1, 3)) (List.mem_of_getElem? (i := 23) rfl)
theorem dX12_findMeets_47 : decode cX12_findMeets 47 = .ok (.goto (-36), 3) := dgX12_findMeets_0 (47, (.goto (-36), 3)) (List.mem_of_getElem? (i := 24) rfl)
theorem dX12_findMeets_50 : decode cX12_findMeets 50 = .ok (.iconst 0, 1) := dgX12_findMeets_0 (50, (.iconst 0, 1)) (List.mem_of_getElem? (i := 25) rfl)
theorem dX12_findMeets_51 : decode cX12_findMeets 51 = .ok (.istore 6, 2) := dgX12_findMeets_0 (51, (.istore 6, 2)) (List.mem_of_getElem? (i := 26) rfl)
theorem dX12_findMeets_53 : decode cX12_findMeets 53 = .ok (.iload 6, 2) := dgX12_findMeets_0 (53, (.iload 6, 2)) (List.mem_of_getElem? (i := 27) rfl)
theorem dX12_findMeets_55 : decode cX12_findMeets 55 = .ok (.aload_n 0, 1) := dgX12_findMeets_0 (55, (.aload_n 0, 1)) (List.mem_of_getElem? (i := 28) rfl)
theorem dX12_findMeets_56 : decode cX12_findMeets 56 = .ok (.getfield 13, 3) := dgX12_findMeets_0 (56, (.getfield 13, 3)) (List.mem_of_getElem? (i := 29) rfl)
theorem dX12_findMeets_59 : decode cX12_findMeets 59 = .ok (.iconst 5, 1) := dgX12_findMeets_0 (59, (.iconst 5, 1)) (List.mem_of_getElem? (i := 30) rfl)
theorem dX12_findMeets_60 : decode cX12_findMeets 60 = .ok (.iaload, 1) := dgX12_findMeets_0 (60, (.iaload, 1)) (List.mem_of_getElem? (i := 31) rfl)
theorem dX12_findMeets_61 : decode cX12_findMeets 61 = .ok (.if_icmp .ge 162, 3) := dgX12_findMeets_0 (61, (.if_icmp .ge 162, 3)) (List.mem_of_getElem? (i := 32) rfl)
theorem dX12_findMeets_64 : decode cX12_findMeets 64 = .ok (.sipush 230, 3) := dgX12_findMeets_0 (64, (.sipush 230, 3)) (List.mem_of_getElem? (i := 33) rfl)
theorem dX12_findMeets_67 : decode cX12_findMeets 67 = .ok (.iconst 4, 1) := dgX12_findMeets_0 (67, (.iconst 4, 1)) (List.mem_of_getElem? (i := 34) rfl)
theorem dX12_findMeets_68 : decode cX12_findMeets 68 = .ok (.iload 6, 2) := dgX12_findMeets_0 (68, (.iload 6, 2)) (List.mem_of_getElem? (i := 35) rfl)
theorem dX12_findMeets_70 : decode cX12_findMeets 70 = .ok (.imul, 1) := dgX12_findMeets_0 (70, (.imul, 1)) (List.mem_of_getElem? (i := 36) rfl)
theorem dX12_findMeets_71 : decode cX12_findMeets 71 = .ok (.iadd, 1) := dgX12_findMeets_0 (71, (.iadd, 1)) (List.mem_of_getElem? (i := 37) rfl)
theorem dX12_findMeets_72 : decode cX12_findMeets 72 = .ok (.istore 7, 2) := dgX12_findMeets_0 (72, (.istore 7, 2)) (List.mem_of_getElem? (i := 38) rfl)
theorem dX12_findMeets_74 : decode cX12_findMeets 74 = .ok (.iload_n 1, 1) := dgX12_findMeets_0 (74, (.iload_n 1, 1)) (List.mem_of_getElem? (i := 39) rfl)
theorem dgX12_findMeets_1 : ∀ r ∈ ([(75, (.iload 6, 2)), (77, (.invokestatic 387, 3)), (80, (.ifCond .eq 137, 3)), (83, (.aload_n 0, 1)), (84, (.getfield 13, 3)), (87, (.iload 7, 2)), (89, (.iconst 3, 1)), (90, (.iadd, 1)), (91, (.iaload, 1)), (92, (.iconst 1, 1)), (93, (.if_icmp .ne 7, 3)), (96, (.iconst 1, 1)), (97, (.goto 4, 3)), (100, (.iconst 0, 1)), (101, (.istore 8, 2)), (103, (.aload_n 0, 1)), (104, (.aload_n 0, 1)), (105, (.getfield 13, 3)), (108, (.iload 7, 2)), (110, (.iaload, 1)), (111, (.aload_n 0, 1)), (112, (.getfield 13, 3)), (115, (.iload 7, 2)), (117, (.iconst 1, 1)), (118, (.iadd, 1)), (119, (.iaload, 1)), (120, (.aload_n 0, 1)), (121, (.getfield 13, 3)), (124, (.iload 7, 2)), (126, (.iconst 2, 1)), (127, (.iadd, 1)), (128, (.iaload, 1)), (129, (.iconst 0, 1)), (130, (.invokevirtual 401, 3)), (133, (.iconst 0, 1)), (134, (.istore 9, 2)), (136, (.iload 9, 2)), (138, (.aload_n 0, 1)), (139, (.getfield 358, 3)), (142, (.if_icmp .ge 38, 3))] : List (Nat × (Instr × Nat))), decode cX12_findMeets r.1 = .ok r.2 := by decide +kernel
theorem dX12_findMeets_75 : decode cX12_findMeets 75 = .ok (.iload 6, 2) := dgX12_findMeets_1 (75, (.iload 6, 2)) (List.mem_of_getElem? (i := 0) rfl)
theorem dX12_findMeets_77 : decode cX12_findMeets 77 = .ok (.invokestatic 387, 3) := dgX12_findMeets_1 (77, (.invokestatic 387, 3)) (List.mem_of_getElem? (i := 1) rfl)
theorem dX12_findMeets_80 : decode cX12_findMeets 80 = .ok (.ifCond .eq 137, 3) := dgX12_findMeets_1 (80, (.ifCond .eq 137, 3)) (List.mem_of_getElem? (i := 2) rfl)
theorem dX12_findMeets_83 : decode cX12_findMeets 83 = .ok (.aload_n 0, 1) := dgX12_findMeets_1 (83, (.aload_n 0, 1)) (List.mem_of_getElem? (i := 3) rfl)
theorem dX12_findMeets_84 : decode cX12_findMeets 84 = .ok (.getfield 13, 3) := dgX12_findMeets_1 (84, (.getfield 13, 3)) (List.mem_of_getElem? (i := 4) rfl)
theorem dX12_findMeets_87 : decode cX12_findMeets 87 = .ok (.iload 7, 2) := dgX12_findMeets_1 (87, (.iload 7, 2)) (List.mem_of_getElem? (i := 5) rfl)
theorem dX12_findMeets_89 : decode cX12_findMeets 89 = .ok (.iconst 3, 1) := dgX12_findMeets_1 (89, (.iconst 3, 1)) (List.mem_of_getElem? (i := 6) rfl)
theorem dX12_findMeets_90 : decode cX12_findMeets 90 = .ok (.iadd, 1) := dgX12_findMeets_1 (90, (.iadd, 1)) (List.mem_of_getElem? (i := 7) rfl)
theorem dX12_findMeets_91 : decode cX12_findMeets 91 = .ok (.iaload, 1) := dgX12_findMeets_1 (91, (.iaload, 1)) (List.mem_of_getElem? (i := 8) rfl)
theorem dX12_findMeets_92 : decode cX12_findMeets 92 = .ok (.iconst 1, 1) := dgX12_findMeets_1 (92, (.iconst 1, 1)) (List.mem_of_getElem? (i := 9) rfl)
theorem dX12_findMeets_93 : decode cX12_findMeets 93 = .ok (.if_icmp .ne 7, 3) := dgX12_findMeets_1 (93, (.if_icmp .ne 7, 3)) (List.mem_of_getElem? (i := 10) rfl)
theorem dX12_findMeets_96 : decode cX12_findMeets 96 = .ok (.iconst 1, 1) := dgX12_findMeets_1 (96, (.iconst 1, 1)) (List.mem_of_getElem? (i := 11) rfl)
theorem dX12_findMeets_97 : decode cX12_findMeets 97 = .ok (.goto 4, 3) := dgX12_findMeets_1 (97, (.goto 4, 3)) (List.mem_of_getElem? (i := 12) rfl)
theorem dX12_findMeets_100 : decode cX12_findMeets 100 = .ok (.iconst 0, 1) := dgX12_findMeets_1 (100, (.iconst 0, 1)) (List.mem_of_getElem? (i := 13) rfl)
theorem dX12_findMeets_101 : decode cX12_findMeets 101 = .ok (.istore 8, 2) := dgX12_findMeets_1 (101, (.istore 8, 2)) (List.mem_of_getElem? (i := 14) rfl)
theorem dX12_findMeets_103 : decode cX12_findMeets 103 = .ok (.aload_n 0, 1) := dgX12_findMeets_1 (103, (.aload_n 0, 1)) (List.mem_of_getElem? (i := 15) rfl)
theorem dX12_findMeets_104 : decode cX12_findMeets 104 = .ok (.aload_n 0, 1) := dgX12_findMeets_1 (104, (.aload_n 0, 1)) (List.mem_of_getElem? (i := 16) rfl)
theorem dX12_findMeets_105 : decode cX12_findMeets 105 = .ok (.getfield 13, 3) := dgX12_findMeets_1 (105, (.getfield 13, 3)) (List.mem_of_getElem? (i := 17) rfl)
theorem dX12_findMeets_108 : decode cX12_findMeets 108 = .ok (.iload 7, 2) := dgX12_findMeets_1 (108, (.iload 7, 2)) (List.mem_of_getElem? (i := 18) rfl)
theorem dX12_findMeets_110 : decode cX12_findMeets 110 = .ok (.iaload, 1) := dgX12_findMeets_1 (110, (.iaload, 1)) (List.mem_of_getElem? (i := 19) rfl)
theorem dX12_findMeets_111 : decode cX12_findMeets 111 = .ok (.aload_n 0, 1) := dgX12_findMeets_1 (111, (.aload_n 0, 1)) (List.mem_of_getElem? (i := 20) rfl)
theorem dX12_findMeets_112 : decode cX12_findMeets 112 = .ok (.getfield 13, 3) := dgX12_findMeets_1 (112, (.getfield 13, 3)) (List.mem_of_getElem? (i := 21) rfl)
theorem dX12_findMeets_115 : decode cX12_findMeets 115 = .ok (.iload 7, 2) := dgX12_findMeets_1 (115, (.iload 7, 2)) (List.mem_of_getElem? (i := 22) rfl)
theorem dX12_findMeets_117 : decode cX12_findMeets 117 = .ok (.iconst 1, 1) := dgX12_findMeets_1 (117, (.iconst 1, 1)) (List.mem_of_getElem? (i := 23) rfl)
theorem dX12_findMeets_118 : decode cX12_findMeets 118 = .ok (.iadd, 1) := dgX12_findMeets_1 (118, (.iadd, 1)) (List.mem_of_getElem? (i := 24) rfl)
theorem dX12_findMeets_119 : decode cX12_findMeets 119 = .ok (.iaload, 1) := dgX12_findMeets_1 (119, (.iaload, 1)) (List.mem_of_getElem? (i := 25) rfl)
theorem dX12_findMeets_120 : decode cX12_findMeets 120 = .ok (.aload_n 0, 1) := dgX12_findMeets_1 (120, (.aload_n 0, 1)) (List.mem_of_getElem? (i := 26) rfl)
theorem dX12_findMeets_121 : decode cX12_findMeets 121 = .ok (.getfield 13, 3) := dgX12_findMeets_1 (121, (.getfield 13, 3)) (List.mem_of_getElem? (i := 27) rfl)
theorem dX12_findMeets_124 : decode cX12_findMeets 124 = .ok (.iload 7, 2) := dgX12_findMeets_1 (124, (.iload 7, 2)) (List.mem_of_getElem? (i := 28) rfl)
theorem dX12_findMeets_126 : decode cX12_findMeets 126 = .ok (.iconst 2, 1) := dgX12_findMeets_1 (126, (.iconst 2, 1)) (List.mem_of_getElem? (i := 29) rfl)
theorem dX12_findMeets_127 : decode cX12_findMeets 127 = .ok (.iadd, 1) := dgX12_findMeets_1 (127, (.iadd, 1)) (List.mem_of_getElem? (i := 30) rfl)
theorem dX12_findMeets_128 : decode cX12_findMeets 128 = .ok (.iaload, 1) := dgX12_findMeets_1 (128, (.iaload, 1)) (List.mem_of_getElem? (i := 31) rfl)
theorem dX12_findMeets_129 : decode cX12_findMeets 129 = .ok (.iconst 0, 1) := dgX12_findMeets_1 (129, (.iconst 0, 1)) (List.mem_of_getElem? (i := 32) rfl)
theorem dX12_findMeets_130 : decode cX12_findMeets 130 = .ok (.invokevirtual 401, 3) := dgX12_findMeets_1 (130, (.invokevirtual 401, 3)) (List.mem_of_getElem? (i := 33) rfl)
theorem dX12_findMeets_133 : decode cX12_findMeets 133 = .ok (.iconst 0, 1) := dgX12_findMeets_1 (133, (.iconst 0, 1)) (List.mem_of_getElem? (i := 34) rfl)
theorem dX12_findMeets_134 : decode cX12_findMeets 134 = .ok (.istore 9, 2) := dgX12_findMeets_1 (134, (.istore 9, 2)) (List.mem_of_getElem? (i := 35) rfl)
theorem dX12_findMeets_136 : decode cX12_findMeets 136 = .ok (.iload 9, 2) := dgX12_findMeets_1 (136, (.iload 9, 2)) (List.mem_of_getElem? (i := 36) rfl)
theorem dX12_findMeets_138 : decode cX12_findMeets 138 = .ok (.aload_n 0, 1) := dgX12_findMeets_1 (138, (.aload_n 0, 1)) (List.mem_of_getElem? (i := 37) rfl)
theorem dX12_findMeets_139 : decode cX12_findMeets 139 = .ok (.getfield 358, 3) := dgX12_findMeets_1 (139, (.getfield 358, 3)) (List.mem_of_getElem? (i := 38) rfl)
theorem dX12_findMeets_142 : decode cX12_findMeets 142 = .ok (.if_icmp .ge 38, 3) := dgX12_findMeets_1 (142, (.if_icmp .ge 38, 3)) (List.mem_of_getElem? (i := 39) rfl)
theorem dgX12_findMeets_2 : ∀ r ∈ ([(145, (.aload_n 0, 1)), (146, (.getfield 95, 3)), (149, (.aload_n 0, 1)), (150, (.getfield 82, 3)), (153, (.iload 9, 2)), (155, (.iaload, 1)), (156, (.dup2, 1)), (157, (.iaload, 1)), (158, (.iload 8, 2)), (160, (.ifCond .eq 10, 3)), (163, (.iconst 1, 1)), (164, (.iload 5, 2)), (166, (.ishl, 1)), (167, (.goto 5, 3)), (170, (.bipush 64, 2)), (172, (.ior, 1)), (173, (.iastore, 1)), (174, (.iinc 9 1, 3)), (177, (.goto (-41), 3)), (180, (.aload_n 0, 1)), (181, (.dup, 1)), (182, (.getfield 422, 3)), (185, (.iload 8, 2)), (187, (.ifCond .eq 10, 3)), (190, (.iconst 1, 1)), (191, (.iload 5, 2)), (193, (.ishl, 1)), (194, (.goto 4, 3)), (197, (.iconst 0, 1)), (198, (.ior, 1)), (199, (.putfield 422, 3)), (202, (.iload 5, 2)), (204, (.iload 8, 2)), (206, (.ifCond .eq 7, 3)), (209, (.iconst 1, 1)), (210, (.goto 4, 3)), (213, (.iconst 0, 1)), (214, (.iadd, 1)), (215, (.istore 5, 2)), (217, (.iinc 6 1, 3))] : List (Nat × (Instr × Nat))), decode cX12_findMeets r.1 = .ok r.2 := by decide +kernel
theorem dX12_findMeets_145 : decode cX12_findMeets 145 = .ok (.aload_n 0, 1) := dgX12_findMeets_2 (145, (.aload_n 0, 1)) (List.mem_of_getElem? (i := 0) rfl)
theorem dX12_findMeets_146 : decode cX12_findMeets 146 = .ok (.getfield 95, 3) := dgX12_findMeets_2 (146, (.getfield 95, 3)) (List.mem_of_getElem? (i := 1) rfl)
theorem dX12_findMeets_149 : decode cX12_findMeets 149 = .ok (.aload_n 0, 1) := dgX12_findMeets_2 (149, (.aload_n 0, 1)) (List.mem_of_getElem? (i := 2) rfl)
theorem dX12_findMeets_150 : decode cX12_findMeets 150 = .ok (.getfield 82, 3) := dgX12_findMeets_2 (150, (.getfield 82, 3)) (List.mem_of_getElem? (i := 3) rfl)
theorem dX12_findMeets_153 : decode cX12_findMeets 153 = .ok (.iload 9, 2) := dgX12_findMeets_2 (153, (.iload 9, 2)) (List.mem_of_getElem? (i := 4) rfl)
theorem dX12_findMeets_155 : decode cX12_findMeets 155 = .ok (.iaload, 1) := dgX12_findMeets_2 (155, (.iaload, 1)) (List.mem_of_getElem? (i := 5) rfl)
theorem dX12_findMeets_156 : decode cX12_findMeets 156 = .ok (.dup2, 1) := dgX12_findMeets_2 (156, (.dup2, 1)) (List.mem_of_getElem? (i := 6) rfl)
theorem dX12_findMeets_157 : decode cX12_findMeets 157 = .ok (.iaload, 1) := dgX12_findMeets_2 (157, (.iaload, 1)) (List.mem_of_getElem? (i := 7) rfl)
theorem dX12_findMeets_158 : decode cX12_findMeets 158 = .ok (.iload 8, 2) := dgX12_findMeets_2 (158, (.iload 8, 2)) (List.mem_of_getElem? (i := 8) rfl)
theorem dX12_findMeets_160 : decode cX12_findMeets 160 = .ok (.ifCond .eq 10, 3) := dgX12_findMeets_2 (160, (.ifCond .eq 10, 3)) (List.mem_of_getElem? (i := 9) rfl)
theorem dX12_findMeets_163 : decode cX12_findMeets 163 = .ok (.iconst 1, 1) := dgX12_findMeets_2 (163, (.iconst 1, 1)) (List.mem_of_getElem? (i := 10) rfl)
theorem dX12_findMeets_164 : decode cX12_findMeets 164 = .ok (.iload 5, 2) := dgX12_findMeets_2 (164, (.iload 5, 2)) (List.mem_of_getElem? (i := 11) rfl)
theorem dX12_findMeets_166 : decode cX12_findMeets 166 = .ok (.ishl, 1) := dgX12_findMeets_2 (166, (.ishl, 1)) (List.mem_of_getElem? (i := 12) rfl)
theorem dX12_findMeets_167 : decode cX12_findMeets 167 = .ok (.goto 5, 3) := dgX12_findMeets_2 (167, (.goto 5, 3)) (List.mem_of_getElem? (i := 13) rfl)
theorem dX12_findMeets_170 : decode cX12_findMeets 170 = .ok (.bipush 64, 2) := dgX12_findMeets_2 (170, (.bipush 64, 2)) (List.mem_of_getElem? (i := 14) rfl)
theorem dX12_findMeets_172 : decode cX12_findMeets 172 = .ok (.ior, 1) := dgX12_findMeets_2 (172, (.ior, 1)) (List.mem_of_getElem? (i := 15) rfl)
theorem dX12_findMeets_173 : decode cX12_findMeets 173 = .ok (.iastore, 1) := dgX12_findMeets_2 (173, (.iastore, 1)) (List.mem_of_getElem? (i := 16) rfl)
theorem dX12_findMeets_174 : decode cX12_findMeets 174 = .ok (.iinc 9 1, 3) := dgX12_findMeets_2 (174, (.iinc 9 1, 3)) (List.mem_of_getElem? (i := 17) rfl)
theorem dX12_findMeets_177 : decode cX12_findMeets 177 = .ok (.goto (-41), 3) := dgX12_findMeets_2 (177, (.goto (-41), 3)) (List.mem_of_getElem? (i := 18) rfl)
theorem dX12_findMeets_180 : decode cX12_findMeets 180 = .ok (.aload_n 0, 1) := dgX12_findMeets_2 (180, (.aload_n 0, 1)) (List.mem_of_getElem? (i := 19) rfl)
theorem dX12_findMeets_181 : decode cX12_findMeets 181 = .ok (.dup, 1) := dgX12_findMeets_2 (181, (.dup, 1)) (List.mem_of_getElem? (i := 20) rfl)
theorem dX12_findMeets_182 : decode cX12_findMeets 182 = .ok (.getfield 422, 3) := dgX12_findMeets_2 (182, (.getfield 422, 3)) (List.mem_of_getElem? (i := 21) rfl)
theorem dX12_findMeets_185 : decode cX12_findMeets 185 = .ok (.iload 8, 2) := dgX12_findMeets_2 (185, (.iload 8, 2)) (List.mem_of_getElem? (i := 22) rfl)
theorem dX12_findMeets_187 : decode cX12_findMeets 187 = .ok (.ifCond .eq 10, 3) := dgX12_findMeets_2 (187, (.ifCond .eq 10, 3)) (List.mem_of_getElem? (i := 23) rfl)
theorem dX12_findMeets_190 : decode cX12_findMeets 190 = .ok (.iconst 1, 1) := dgX12_findMeets_2 (190, (.iconst 1, 1)) (List.mem_of_getElem? (i := 24) rfl)
theorem dX12_findMeets_191 : decode cX12_findMeets 191 = .ok (.iload 5, 2) := dgX12_findMeets_2 (191, (.iload 5, 2)) (List.mem_of_getElem? (i := 25) rfl)
theorem dX12_findMeets_193 : decode cX12_findMeets 193 = .ok (.ishl, 1) := dgX12_findMeets_2 (193, (.ishl, 1)) (List.mem_of_getElem? (i := 26) rfl)
theorem dX12_findMeets_194 : decode cX12_findMeets 194 = .ok (.goto 4, 3) := dgX12_findMeets_2 (194, (.goto 4, 3)) (List.mem_of_getElem? (i := 27) rfl)
theorem dX12_findMeets_197 : decode cX12_findMeets 197 = .ok (.iconst 0, 1) := dgX12_findMeets_2 (197, (.iconst 0, 1)) (List.mem_of_getElem? (i := 28) rfl)
theorem dX12_findMeets_198 : decode cX12_findMeets 198 = .ok (.ior, 1) := dgX12_findMeets_2 (198, (.ior, 1)) (List.mem_of_getElem? (i := 29) rfl)
theorem dX12_findMeets_199 : decode cX12_findMeets 199 = .ok (.putfield 422, 3) := dgX12_findMeets_2 (199, (.putfield 422, 3)) (List.mem_of_getElem? (i := 30) rfl)
theorem dX12_findMeets_202 : decode cX12_findMeets 202 = .ok (.iload 5, 2) := dgX12_findMeets_2 (202, (.iload 5, 2)) (List.mem_of_getElem? (i := 31) rfl)
theorem dX12_findMeets_204 : decode cX12_findMeets 204 = .ok (.iload 8, 2) := dgX12_findMeets_2 (204, (.iload 8, 2)) (List.mem_of_getElem? (i := 32) rfl)
theorem dX12_findMeets_206 : decode cX12_findMeets 206 = .ok (.ifCond .eq 7, 3) := dgX12_findMeets_2 (206, (.ifCond .eq 7, 3)) (List.mem_of_getElem? (i := 33) rfl)
theorem dX12_findMeets_209 : decode cX12_findMeets 209 = .ok (.iconst 1, 1) := dgX12_findMeets_2 (209, (.iconst 1, 1)) (List.mem_of_getElem? (i := 34) rfl)
theorem dX12_findMeets_210 : decode cX12_findMeets 210 = .ok (.goto 4, 3) := dgX12_findMeets_2 (210, (.goto 4, 3)) (List.mem_of_getElem? (i := 35) rfl)
theorem dX12_findMeets_213 : decode cX12_findMeets 213 = .ok (.iconst 0, 1) := dgX12_findMeets_2 (213, (.iconst 0, 1)) (List.mem_of_getElem? (i := 36) rfl)
theorem dX12_findMeets_214 : decode cX12_findMeets 214 = .ok (.iadd, 1) := dgX12_findMeets_2 (214, (.iadd, 1)) (List.mem_of_getElem? (i := 37) rfl)
theorem dX12_findMeets_215 : decode cX12_findMeets 215 = .ok (.istore 5, 2) := dgX12_findMeets_2 (215, (.istore 5, 2)) (List.mem_of_getElem? (i := 38) rfl)
theorem dX12_findMeets_217 : decode cX12_findMeets 217 = .ok (.iinc 6 1, 3) := dgX12_findMeets_2 (217, (.iinc 6 1, 3)) (List.mem_of_getElem? (i := 39) rfl)
theorem dgX12_findMeets_3 : ∀ r ∈ ([(220, (.goto (-167), 3)), (223, (.iload_n 3, 1)), (224, (.iconst (-1), 1)), (225, (.if_icmp .eq 47, 3)), (228, (.aload_n 0, 1)), (229, (.iload_n 2, 1)), (230, (.iload_n 3, 1)), (231, (.iload 4, 2)), (233, (.iconst 0, 1)), (234, (.invokevirtual 401, 3)), (237, (.iconst 0, 1)), (238, (.istore 6, 2)), (240, (.iload 6, 2)), (242, (.aload_n 0, 1)), (243, (.getfield 358, 3)), (246, (.if_icmp .ge 26, 3)), (249, (.aload_n 0, 1)), (250, (.getfield 95, 3)), (253, (.aload_n 0, 1)), (254, (.getfield 82, 3)), (257, (.iload 6, 2)), (259, (.iaload, 1)), (260, (.dup2, 1)), (261, (.iaload, 1)), (262, (.bipush 64, 2)), (264, (.ior, 1)), (265, (.iastore, 1)), (266, (.iinc 6 1, 3)), (269, (.goto (-29), 3)), (272, (.return_, 1))] : List (Nat × (Instr × Nat))), decode cX12_findMeets r.1 = .ok r.2 := by decide +kernel
theorem dX12_findMeets_220 : decode cX12_findMeets 220 = .ok (.goto (-167), 3) := dgX12_findMeets_3 (220, (.goto (-167), 3)) (List.mem_of_getElem? (i := 0) rfl)
theorem dX12_findMeets_223 : decode cX12_findMeets 223 = .ok (.iload_n 3, 1) := dgX12_findMeets_3 (223, (.iload_n 3, 1)) (List.mem_of_getElem? (i := 1) rfl)
theorem dX12_findMeets_224 : decode cX12_findMeets 224 = .ok (.iconst (-1), 1) := dgX12_findMeets_3 (224, (.iconst (-1), 1)) (List.mem_of_getElem? (i := 2) rfl)
theorem dX12_findMeets_225 : decode cX12_findMeets 225 = .ok (.if_icmp .eq 47, 3) := dgX12_findMeets_3 (225, (.if_icmp .eq 47, 3)) (List.mem_of_getElem? (i := 3) rfl)
theorem dX12_findMeets_228 : decode cX12_findMeets 228 = .ok (.aload_n 0, 1) := dgX12_findMeets_3 (228, (.aload_n 0, 1)) (List.mem_of_getElem? (i := 4) rfl)
theorem dX12_findMeets_229 : decode cX12_findMeets 229 = .ok (.iload_n 2, 1) := dgX12_findMeets_3 (229, (.iload_n 2, 1)) (List.mem_of_getElem? (i := 5) rfl)
theorem dX12_findMeets_230 : decode cX12_findMeets 230 = .ok (.iload_n 3, 1) := dgX12_findMeets_3 (230, (.iload_n 3, 1)) (List.mem_of_getElem? (i := 6) rfl)
theorem dX12_findMeets_231 : decode cX12_findMeets 231 = .ok (.iload 4, 2) := dgX12_findMeets_3 (231, (.iload 4, 2)) (List.mem_of_getElem? (i := 7) rfl)
theorem dX12_findMeets_233 : decode cX12_findMeets 233 = .ok (.iconst 0, 1) := dgX12_findMeets_3 (233, (.iconst 0, 1)) (List.mem_of_getElem? (i := 8) rfl)
theorem dX12_findMeets_234 : decode cX12_findMeets 234 = .ok (.invokevirtual 401, 3) := dgX12_findMeets_3 (234, (.invokevirtual 401, 3)) (List.mem_of_getElem? (i := 9) rfl)
theorem dX12_findMeets_237 : decode cX12_findMeets 237 = .ok (.iconst 0, 1) := dgX12_findMeets_3 (237, (.iconst 0, 1)) (List.mem_of_getElem? (i := 10) rfl)
theorem dX12_findMeets_238 : decode cX12_findMeets 238 = .ok (.istore 6, 2) := dgX12_findMeets_3 (238, (.istore 6, 2)) (List.mem_of_getElem? (i := 11) rfl)
theorem dX12_findMeets_240 : decode cX12_findMeets 240 = .ok (.iload 6, 2) := dgX12_findMeets_3 (240, (.iload 6, 2)) (List.mem_of_getElem? (i := 12) rfl)
theorem dX12_findMeets_242 : decode cX12_findMeets 242 = .ok (.aload_n 0, 1) := dgX12_findMeets_3 (242, (.aload_n 0, 1)) (List.mem_of_getElem? (i := 13) rfl)
theorem dX12_findMeets_243 : decode cX12_findMeets 243 = .ok (.getfield 358, 3) := dgX12_findMeets_3 (243, (.getfield 358, 3)) (List.mem_of_getElem? (i := 14) rfl)
theorem dX12_findMeets_246 : decode cX12_findMeets 246 = .ok (.if_icmp .ge 26, 3) := dgX12_findMeets_3 (246, (.if_icmp .ge 26, 3)) (List.mem_of_getElem? (i := 15) rfl)
theorem dX12_findMeets_249 : decode cX12_findMeets 249 = .ok (.aload_n 0, 1) := dgX12_findMeets_3 (249, (.aload_n 0, 1)) (List.mem_of_getElem? (i := 16) rfl)
theorem dX12_findMeets_250 : decode cX12_findMeets 250 = .ok (.getfield 95, 3) := dgX12_findMeets_3 (250, (.getfield 95, 3)) (List.mem_of_getElem? (i := 17) rfl)
theorem dX12_findMeets_253 : decode cX12_findMeets 253 = .ok (.aload_n 0, 1) := dgX12_findMeets_3 (253, (.aload_n 0, 1)) (List.mem_of_getElem? (i := 18) rfl)
theorem dX12_findMeets_254 : decode cX12_findMeets 254 = .ok (.getfield 82, 3) := dgX12_findMeets_3 (254, (.getfield 82, 3)) (List.mem_of_getElem? (i := 19) rfl)
theorem dX12_findMeets_257 : decode cX12_findMeets 257 = .ok (.iload 6, 2) := dgX12_findMeets_3 (257, (.iload 6, 2)) (List.mem_of_getElem? (i := 20) rfl)
theorem dX12_findMeets_259 : decode cX12_findMeets 259 = .ok (.iaload, 1) := dgX12_findMeets_3 (259, (.iaload, 1)) (List.mem_of_getElem? (i := 21) rfl)
theorem dX12_findMeets_260 : decode cX12_findMeets 260 = .ok (.dup2, 1) := dgX12_findMeets_3 (260, (.dup2, 1)) (List.mem_of_getElem? (i := 22) rfl)
theorem dX12_findMeets_261 : decode cX12_findMeets 261 = .ok (.iaload, 1) := dgX12_findMeets_3 (261, (.iaload, 1)) (List.mem_of_getElem? (i := 23) rfl)
theorem dX12_findMeets_262 : decode cX12_findMeets 262 = .ok (.bipush 64, 2) := dgX12_findMeets_3 (262, (.bipush 64, 2)) (List.mem_of_getElem? (i := 24) rfl)
theorem dX12_findMeets_264 : decode cX12_findMeets 264 = .ok (.ior, 1) := dgX12_findMeets_3 (264, (.ior, 1)) (List.mem_of_getElem? (i := 25) rfl)
theorem dX12_findMeets_265 : decode cX12_findMeets 265 = .ok (.iastore, 1) := dgX12_findMeets_3 (265, (.iastore, 1)) (List.mem_of_getElem? (i := 26) rfl)
theorem dX12_findMeets_266 : decode cX12_findMeets 266 = .ok (.iinc 6 1, 3) := dgX12_findMeets_3 (266, (.iinc 6 1, 3)) (List.mem_of_getElem? (i := 27) rfl)
theorem dX12_findMeets_269 : decode cX12_findMeets 269 = .ok (.goto (-29), 3) := dgX12_findMeets_3 (269, (.goto (-29), 3)) (List.mem_of_getElem? (i := 28) rfl)
theorem dX12_findMeets_272 : decode cX12_findMeets 272 = .ok (.return_, 1) := dgX12_findMeets_3 (272, (.return_, 1)) (List.mem_of_getElem? (i := 29) rfl)
theorem fl_X12_422 : Cond.fieldLink RX12 422 "LateGlassModel" "wanted" "I" ∈ tblG := tg 1249 (by decide +kernel) (by decide +kernel)
set_option maxHeartbeats 4000000 in
set_option maxRecDepth 100000 in
theorem n_findMeets (l : Launch) (G : g5_G) (b_o b_ro b_se b_re b_pt b_me b_rf b_im b_ke b_tp b_nl b_op b_ar b_pi b_pa b_ws b_hw b_ip b_ah b_be b_tr b_ld b_wn : Nat) (sz : Nat) (u_th : Int32) (u_sa : Int32) (u_fd : Int32) (u_td : Int32) (u_fr : Int32) (u_to : Int32) (u_so : Int32) (u_fa : Int32) (u_bd : Int32) (u_nc : Int32) (u_co : Int32) (u_le : Int32) (u_pd : Int32) (u_od : Int32) (u_la : Int32) (u_bk : Int32) (u_ce : Int32) (u_ho : Int32) (u_wy : Int32) (u_bt : Int32) (u_ps : Int32) (u_tg : Int32) (u_sn : Int32) (u_ic : Int32) (u_wd : Int32) (u_id : Int32) (p_1 : Int32) (p_2 : Int32) (p_3 : Int32) (p_4 : Int32) (u_wo : Int64) (u_va : Int64) (u_su : Int64) (u_st : Int64) (v_ro : Nat → Int32) (v_se : Nat → Int64) (v_re : Nat → Int64) (v_pt : Nat → Int32) (v_me : Nat → Int32) (h_u_td : 0 ≤ u_td.toInt ∧ u_td.toInt ≤ 400) (h_u_fr : 0 ≤ u_fr.toInt ∧ u_fr.toInt ≤ 400) (h_u_to : 0 ≤ u_to.toInt ∧ u_to.toInt ≤ 400) (h_u_bd : 0 ≤ u_bd.toInt ∧ u_bd.toInt ≤ 1) (h_u_nc : 0 ≤ u_nc.toInt ∧ u_nc.toInt ≤ 12) (h_u_co : 0 ≤ u_co.toInt ∧ u_co.toInt ≤ 400) (h_u_pd : 0 ≤ u_pd.toInt ∧ u_pd.toInt ≤ 400) (h_u_la : 0 ≤ u_la.toInt ∧ u_la.toInt ≤ 4840) (h_u_bk : 0 ≤ u_bk.toInt ∧ u_bk.toInt ≤ 1) (h_u_ce : 0 ≤ u_ce.toInt ∧ u_ce.toInt ≤ 63) (h_u_ho : 0 ≤ u_ho.toInt ∧ u_ho.toInt ≤ 23) (h_u_wy : 0 ≤ u_wy.toInt ∧ u_wy.toInt ≤ 3) (h_u_bt : 0 ≤ u_bt.toInt ∧ u_bt.toInt ≤ 1000000) (h_u_ps : 0 ≤ u_ps.toInt ∧ u_ps.toInt ≤ 200) (h_u_ic : 0 ≤ u_ic.toInt ∧ u_ic.toInt ≤ 1) (h_u_id : 0 ≤ u_id.toInt ∧ u_id.toInt ≤ 1) (h_p_2 : 0 ≤ p_2.toInt ∧ p_2.toInt ≤ 63) (h_p_3 : (-1) ≤ p_3.toInt ∧ p_3.toInt ≤ 3) (h_p_4 : 0 ≤ p_4.toInt ∧ p_4.toInt ≤ 23) (r_ro : MI v_ro) (r_pt : PTI v_pt) (r_me : MEI v_me) : Met l yX12_findMeets (wsG yX12_findMeets cX12_findMeets 10 none) ({ frames := 7, cells := 0, slots := 0, locals := 176 }) (va_Pc [.ref b_o, .int p_1, .int p_2, .int p_3, .int p_4] (g5_P G [(b_o, (oc12 u_th u_sa b_rf b_ro b_im b_ke u_fd b_tp u_td u_fr u_to u_so u_wo u_fa u_bd u_nc b_nl u_co b_op b_ar u_le b_pi b_pa u_pd u_od b_ws b_hw u_la b_se b_re u_bk u_va u_su u_ce u_ho u_wy u_bt u_ps b_pt u_tg u_sn b_ip u_ic b_ah b_be b_me u_wd b_tr b_ld u_st b_wn u_id)), (b_ro, (arI G 5740 v_ro)), (b_se, (arJ G 13 v_se)), (b_re, (arJ G 400 v_re)), (b_pt, (arI G 200 v_pt)), (b_me, (arI G 1536 v_me))] sz)) (va_Qv (fun (u : va_W) => (∃ (o_la : Int32) (o_bk : Int32) (o_va : Int64) (o_su : Int64) (o_ce : Int32) (o_ho : Int32) (o_wy : Int32) (o_bt : Int32) (o_ps : Int32) (o_tg : Int32) (o_sn : Int32) (o_wd : Int32) (o_se : Nat → Int64) (o_re : Nat → Int64) (o_pt : Nat → Int32) (o_me : Nat → Int32), (0 ≤ o_la.toInt ∧ o_la.toInt ≤ 4840) ∧ (0 ≤ o_bk.toInt ∧ o_bk.toInt ≤ 1) ∧ (0 ≤ o_ce.toInt ∧ o_ce.toInt ≤ 63) ∧ (0 ≤ o_ho.toInt ∧ o_ho.toInt ≤ 23) ∧ (0 ≤ o_wy.toInt ∧ o_wy.toInt ≤ 3) ∧ (0 ≤ o_bt.toInt ∧ o_bt.toInt ≤ 1000000) ∧ (0 ≤ o_ps.toInt ∧ o_ps.toInt ≤ 200) ∧ (PTI o_pt) ∧ (MEI o_me) ∧ (u = [(b_o, (oc12 u_th u_sa b_rf b_ro b_im b_ke u_fd b_tp u_td u_fr u_to u_so u_wo u_fa u_bd u_nc b_nl u_co b_op b_ar u_le b_pi b_pa u_pd u_od b_ws b_hw o_la b_se b_re o_bk o_va o_su o_ce o_ho o_wy o_bt o_ps b_pt o_tg o_sn b_ip u_ic b_ah b_be b_me o_wd b_tr b_ld u_st b_wn u_id)), (b_ro, (arI G 5740 v_ro)), (b_se, (arJ G 13 o_se)), (b_re, (arJ G 400 o_re)), (b_pt, (arI G 200 o_pt)), (b_me, (arI G 1536 o_me))]))) (g5_B G (va_A [(b_o, (oc12 u_th u_sa b_rf b_ro b_im b_ke u_fd b_tp u_td u_fr u_to u_so u_wo u_fa u_bd u_nc b_nl u_co b_op b_ar u_le b_pi b_pa u_pd u_od b_ws b_hw u_la b_se b_re u_bk u_va u_su u_ce u_ho u_wy u_bt u_ps b_pt u_tg u_sn b_ip u_ic b_ah b_be b_me u_wd b_tr b_ld u_st b_wn u_id)), (b_ro, (arI G 5740 v_ro)), (b_se, (arJ G 13 v_se)), (b_re, (arJ G 400 v_re)), (b_pt, (arI G 200 v_pt)), (b_me, (arI G 1536 v_me))] sz)) (va_A [(b_o, (oc12 u_th u_sa b_rf b_ro b_im b_ke u_fd b_tp u_td u_fr u_to u_so u_wo u_fa u_bd u_nc b_nl u_co b_op b_ar u_le b_pi b_pa u_pd u_od b_ws b_hw u_la b_se b_re u_bk u_va u_su u_ce u_ho u_wy u_bt u_ps b_pt u_tg u_sn b_ip u_ic b_ah b_be b_me u_wd b_tr b_ld u_st b_wn u_id)), (b_ro, (arI G 5740 v_ro)), (b_se, (arJ G 13 v_se)), (b_re, (arJ G 400 v_re)), (b_pt, (arI G 200 v_pt)), (b_me, (arI G 1536 v_me))] sz)) 0 0 (va_A [(b_o, (oc12 u_th u_sa b_rf b_ro b_im b_ke u_fd b_tp u_td u_fr u_to u_so u_wo u_fa u_bd u_nc b_nl u_co b_op b_ar u_le b_pi b_pa u_pd u_od b_ws b_hw u_la b_se b_re u_bk u_va u_su u_ce u_ho u_wy u_bt u_ps b_pt u_tg u_sn b_ip u_ic b_ah b_be b_me u_wd b_tr b_ld u_st b_wn u_id)), (b_ro, (arI G 5740 v_ro)), (b_se, (arJ G 13 v_se)), (b_re, (arJ G 400 v_re)), (b_pt, (arI G 200 v_pt)), (b_me, (arI G 1536 v_me))] sz) := by
  refine Met.ofW (cc := cX12_findMeets) (maxL := 10) (ret := none) (by decide +kernel) rfl ?_
  intro p e s m args below meth c s₁ B hml hv
  obtain ⟨rfl, hsz, hP, hK, hD0, hN, hT⟩ := hv
  have hx := B.exec
  have hb := B.bytes
  have hr := B.returns
  have hts : ∀ w ∈ tblG, w.before _ s = true := fun w h => atoms_spec (ws := (wsG yX12_findMeets cX12_findMeets 10 none)) B.pre w (List.mem_cons_of_mem _ h)
  have hown : s.vm.findClass RX12 = some m.cls := findClass_of_methodNamed B.named
  have hlocks := B.notSynchronized
  subst hsz
  have hD := hD0.self (sz := s.heap.size)
  generalize hAe : va_A [(b_o, (oc12 u_th u_sa b_rf b_ro b_im b_ke u_fd b_tp u_td u_fr u_to u_so u_wo u_fa u_bd u_nc b_nl u_co b_op b_ar u_le b_pi b_pa u_pd u_od b_ws b_hw u_la b_se b_re u_bk u_va u_su u_ce u_ho u_wy u_bt u_ps b_pt u_tg u_sn b_ip u_ic b_ah b_be b_me u_wd b_tr b_ld u_st b_wn u_id)), (b_ro, (arI G 5740 v_ro)), (b_se, (arJ G 13 v_se)), (b_re, (arJ G 400 v_re)), (b_pt, (arI G 200 v_pt)), (b_me, (arI G 1536 v_me))] s.heap.size = A at hD hT ⊢
  have hA : ∀ q : Nat, s.heap.size ≤ q → A q := fun q h => by rw [← hAe]; exact Or.inr h
  have hS : va_S A s.heap s.heap [] := va_S.rf
  replace hP : va_P G.1 vwCl [(b_o, (oc12 u_th u_sa b_rf b_ro b_im b_ke u_fd b_tp u_td u_fr u_to u_so u_wo u_fa u_bd u_nc b_nl u_co b_op b_ar u_le b_pi b_pa u_pd u_od b_ws b_hw u_la b_se b_re u_bk u_va u_su u_ce u_ho u_wy u_bt u_ps b_pt u_tg u_sn b_ip u_ic b_ah b_be b_me u_wd b_tr b_ld u_st b_wn u_id)), (b_ro, (arI G 5740 v_ro)), (b_se, (arJ G 13 v_se)), (b_re, (arJ G 400 v_re)), (b_pt, (arI G 200 v_pt)), (b_me, (arI G 1536 v_me))] s.heap := hP
  have hl := lv_entry ([.ref b_o, .int p_1, .int p_2, .int p_3, .int p_4]) (n := 10) (Nat.le_of_ble_eq_true rfl)
  rw [lg_entry_eq]
  generalize (lg_sl ([.ref b_o, .int p_1, .int p_2, .int p_3, .int p_4]) ++ List.replicate (10 - (lg_sl ([.ref b_o, .int p_1, .int p_2, .int p_3, .int p_4])).length) Slot.unset).toArray = ls at hl ⊢
  replace hl : lv_has ls 10 [(0, .ref b_o), (1, .int p_1), (2, .int p_2), (3, .int p_3), (4, .int p_4)] := hl
  refine lv_aload_n hx hb dX12_findMeets_0 rfl (lv_at hl 0 rfl) ?_
  refine lv_iconst (v := 0) hx hb dX12_findMeets_1 (by decide +kernel) ?_
  refine va_put (D := G.1) (ci := 12) (v := .int 0) (ty := .int) (C := RX12) (T := TX12) (N := 52) hx hb hts inG_X12 tyX12 tyX12_ok nmX12 hown hK hP hD hS 0 rfl rfl 46 (by decide +kernel) (hts _ fl_X12_422) (fun _ h9 => h9) rfl (by decide +kernel) rfl rfl (Nat.le_of_ble_eq_true rfl) dX12_findMeets_2 ?_
  clear hP hD hS
  intro H locs hP hD hS
  refine g5_rs [(b_o, (oc12 u_th u_sa b_rf b_ro b_im b_ke u_fd b_tp u_td u_fr u_to u_so u_wo u_fa u_bd u_nc b_nl u_co b_op b_ar u_le b_pi b_pa u_pd u_od b_ws b_hw u_la b_se b_re u_bk u_va u_su u_ce u_ho u_wy u_bt u_ps b_pt u_tg u_sn b_ip u_ic b_ah b_be b_me 0 b_tr b_ld u_st b_wn u_id)), (b_ro, (arI G 5740 v_ro)), (b_se, (arJ G 13 v_se)), (b_re, (arJ G 400 v_re)), (b_pt, (arI G 200 v_pt)), (b_me, (arI G 1536 v_me))] hP hD ?_
  clear hP hD
  intro hP hD
  refine lv_iconst (v := 0) hx hb dX12_findMeets_5 (by decide +kernel) ?_
  refine W.eq (g2 := F0 m 6 ls [.int 0]) rfl ?_
  refine lv_istore (lv' := [(5, .int 0), (0, .ref b_o), (1, .int p_1), (2, .int p_2), (3, .int p_3), (4, .int p_4)]) hx hb dX12_findMeets_6 hl (by decide +kernel) rfl ?_
  clear hl
  intro ls hl
  refine lv_iconst (v := 0) hx hb dX12_findMeets_8 (by decide +kernel) ?_
  refine lv_istore (lv' := [(6, .int 0), (5, .int 0), (0, .ref b_o), (1, .int p_1), (2, .int p_2), (3, .int p_3), (4, .int p_4)]) hx hb dX12_findMeets_9 hl (by decide +kernel) rfl ?_
  clear hl
  intro ls hl
  refine g5_loop (α := (Int32) × (Nat → Int32)) (fun (q : (Int32) × (Nat → Int32)) (ls : Array Slot) (H : Heap) (locs : List Loc) => match q with | (k11_6, k11_me) => lv_has ls 10 [(6, .int k11_6), (5, .int 0), (0, .ref b_o), (1, .int p_1), (2, .int p_2), (3, .int p_3), (4, .int p_4)] ∧ va_P G.1 vwCl [(b_o, (oc12 u_th u_sa b_rf b_ro b_im b_ke u_fd b_tp u_td u_fr u_to u_so u_wo u_fa u_bd u_nc b_nl u_co b_op b_ar u_le b_pi b_pa u_pd u_od b_ws b_hw u_la b_se b_re u_bk u_va u_su u_ce u_ho u_wy u_bt u_ps b_pt u_tg u_sn b_ip u_ic b_ah b_be b_me 0 b_tr b_ld u_st b_wn u_id)), (b_ro, (arI G 5740 v_ro)), (b_se, (arJ G 13 v_se)), (b_re, (arJ G 400 v_re)), (b_pt, (arI G 200 v_pt)), (b_me, (arI G 1536 k11_me))] H ∧ va_D A [(b_o, (oc12 u_th u_sa b_rf b_ro b_im b_ke u_fd b_tp u_td u_fr u_to u_so u_wo u_fa u_bd u_nc b_nl u_co b_op b_ar u_le b_pi b_pa u_pd u_od b_ws b_hw u_la b_se b_re u_bk u_va u_su u_ce u_ho u_wy u_bt u_ps b_pt u_tg u_sn b_ip u_ic b_ah b_be b_me 0 b_tr b_ld u_st b_wn u_id)), (b_ro, (arI G 5740 v_ro)), (b_se, (arJ G 13 v_se)), (b_re, (arJ G 400 v_re)), (b_pt, (arI G 200 v_pt)), (b_me, (arI G 1536 k11_me))] ∧ va_S A s.heap H locs ∧ (0 ≤ k11_6.toInt ∧ k11_6.toInt ≤ 1536) ∧ (MEI k11_me)) (fun (q : (Int32) × (Nat → Int32)) => match q with | (k11_6, k11_me) => Int.toNat (1536 - k11_6.toInt)) (0, v_me) ⟨lv_sub hl [0, 1, 2, 3, 4, 5, 6] rfl, hP, hD, hS, ⟨by decide, by decide⟩, r_me⟩ ?_
  rintro ⟨k11_6, k11_me⟩ ls H locs ⟨hl, hP, hD, hS, (i_1 : 0 ≤ k11_6.toInt ∧ k11_6.toInt ≤ 1536), (i_2 : MEI k11_me)⟩ ih_11_3
  replace hl : lv_has ls 10 [(6, .int k11_6), (5, .int 0), (0, .ref b_o), (1, .int p_1), (2, .int p_2), (3, .int p_3), (4, .int p_4)] := hl
  refine g5_rs [(b_o, (oc12 u_th u_sa b_rf b_ro b_im b_ke u_fd b_tp u_td u_fr u_to u_so u_wo u_fa u_bd u_nc b_nl u_co b_op b_ar u_le b_pi b_pa u_pd u_od b_ws b_hw u_la b_se b_re u_bk u_va u_su u_ce u_ho u_wy u_bt u_ps b_pt u_tg u_sn b_ip u_ic b_ah b_be b_me 0 b_tr b_ld u_st b_wn u_id)), (b_ro, (arI G 5740 v_ro)), (b_se, (arJ G 13 v_se)), (b_re, (arJ G 400 v_re)), (b_pt, (arI G 200 v_pt)), (b_me, (arI G 1536 k11_me))] hP hD ?_
  clear hP hD
  intro hP hD
  refine lv_iload hx hb dX12_findMeets_11 (lv_at hl 0 rfl) ?_
  refine lv_sipush (v := 1536) hx hb dX12_findMeets_13 (by decide +kernel) ?_
  refine lv_icmp_ge (tgt := 50) hx hb dX12_findMeets_16 (by decide +kernel) (fun c_4 => ?_) (fun c_4 => ?_)
  ·
    have i_4 : k11_6.toInt ≥ 1536 := g5_ge (a := k11_6.toInt) (b := 1536) rfl (by decide +kernel) c_4
    refine lv_iconst (v := 0) hx hb dX12_findMeets_50 (by decide +kernel) ?_
    refine lv_istore (lv' := [(6, .int 0), (5, .int 0), (0, .ref b_o), (1, .int p_1), (2, .int p_2), (3, .int p_3), (4, .int p_4)]) hx hb dX12_findMeets_51 hl (by decide +kernel) rfl ?_
    clear hl
    intro ls hl
    refine g5_loop (α := (Int32) × (Int32) × (Int32) × (Int32) × (Int64) × (Int64) × (Int32) × (Int32) × (Int32) × (Int32) × (Int32) × (Int32) × (Int32) × (Int32) × (Nat → Int64) × (Nat → Int64) × (Nat → Int32) × (Nat → Int32)) (fun (q : (Int32) × (Int32) × (Int32) × (Int32) × (Int64) × (Int64) × (Int32) × (Int32) × (Int32) × (Int32) × (Int32) × (Int32) × (Int32) × (Int32) × (Nat → Int64) × (Nat → Int64) × (Nat → Int32) × (Nat → Int32)) (ls : Array Slot) (H : Heap) (locs : List Loc) => match q with | (k53_6, k53_5, k53_la, k53_bk, k53_va, k53_su, k53_ce, k53_ho, k53_wy, k53_bt, k53_ps, k53_tg, k53_sn, k53_wd, k53_se, k53_re, k53_pt, k53_me) => lv_has ls 10 [(5, .int k53_5), (6, .int k53_6), (0, .ref b_o), (1, .int p_1), (2, .int p_2), (3, .int p_3), (4, .int p_4)] ∧ va_P G.1 vwCl [(b_o, (oc12 u_th u_sa b_rf b_ro b_im b_ke u_fd b_tp u_td u_fr u_to u_so u_wo u_fa u_bd u_nc b_nl u_co b_op b_ar u_le b_pi b_pa u_pd u_od b_ws b_hw k53_la b_se b_re k53_bk k53_va k53_su k53_ce k53_ho k53_wy k53_bt k53_ps b_pt k53_tg k53_sn b_ip u_ic b_ah b_be b_me k53_wd b_tr b_ld u_st b_wn u_id)), (b_ro, (arI G 5740 v_ro)), (b_se, (arJ G 13 k53_se)), (b_re, (arJ G 400 k53_re)), (b_pt, (arI G 200 k53_pt)), (b_me, (arI G 1536 k53_me))] H ∧ va_D A [(b_o, (oc12 u_th u_sa b_rf b_ro b_im b_ke u_fd b_tp u_td u_fr u_to u_so u_wo u_fa u_bd u_nc b_nl u_co b_op b_ar u_le b_pi b_pa u_pd u_od b_ws b_hw k53_la b_se b_re k53_bk k53_va k53_su k53_ce k53_ho k53_wy k53_bt k53_ps b_pt k53_tg k53_sn b_ip u_ic b_ah b_be b_me k53_wd b_tr b_ld u_st b_wn u_id)), (b_ro, (arI G 5740 v_ro)), (b_se, (arJ G 13 k53_se)), (b_re, (arJ G 400 k53_re)), (b_pt, (arI G 200 k53_pt)), (b_me, (arI G 1536 k53_me))] ∧ va_S A s.heap H locs ∧ (0 ≤ k53_6.toInt ∧ k53_6.toInt ≤ 10) ∧ (0 ≤ k53_5.toInt ∧ k53_5.toInt ≤ 10) ∧ (0 ≤ k53_la.toInt ∧ k53_la.toInt ≤ 4840) ∧ (0 ≤ k53_bk.toInt ∧ k53_bk.toInt ≤ 1) ∧ (0 ≤ k53_ce.toInt ∧ k53_ce.toInt ≤ 63) ∧ (0 ≤ k53_ho.toInt ∧ k53_ho.toInt ≤ 23) ∧ (0 ≤ k53_wy.toInt ∧ k53_wy.toInt ≤ 3) ∧ (0 ≤ k53_bt.toInt ∧ k53_bt.toInt ≤ 1000000) ∧ (0 ≤ k53_ps.toInt ∧ k53_ps.toInt ≤ 200) ∧ (PTI k53_pt) ∧ (MEI k53_me) ∧ (k53_5.toInt ≤ snS (fun j => v_ro (230 + j)) (v_ro 5).toInt k53_6.toInt.toNat)) (fun (q : (Int32) × (Int32) × (Int32) × (Int32) × (Int64) × (Int64) × (Int32) × (Int32) × (Int32) × (Int32) × (Int32) × (Int32) × (Int32) × (Int32) × (Nat → Int64) × (Nat → Int64) × (Nat → Int32) × (Nat → Int32)) => match q with | (k53_6, k53_5, k53_la, k53_bk, k53_va, k53_su, k53_ce, k53_ho, k53_wy, k53_bt, k53_ps, k53_tg, k53_sn, k53_wd, k53_se, k53_re, k53_pt, k53_me) => Int.toNat (10 - k53_6.toInt)) (0, 0, u_la, u_bk, u_va, u_su, u_ce, u_ho, u_wy, u_bt, u_ps, u_tg, u_sn, 0, v_se, v_re, v_pt, k11_me) ⟨lv_sub hl [1, 0, 2, 3, 4, 5, 6] rfl, hP, hD, hS, ⟨by decide, by decide⟩, ⟨by decide, by decide⟩, h_u_la, h_u_bk, h_u_ce, h_u_ho, h_u_wy, h_u_bt, h_u_ps, r_pt, i_2, Int.le_refl _⟩ ?_
    rintro ⟨k53_6, k53_5, k53_la, k53_bk, k53_va, k53_su, k53_ce, k53_ho, k53_wy, k53_bt, k53_ps, k53_tg, k53_sn, k53_wd, k53_se, k53_re, k53_pt, k53_me⟩ ls H locs ⟨hl, hP, hD, hS, (i_5 : 0 ≤ k53_6.toInt ∧ k53_6.toInt ≤ 10), (i_6 : 0 ≤ k53_5.toInt ∧ k53_5.toInt ≤ 10), (i_7 : 0 ≤ k53_la.toInt ∧ k53_la.toInt ≤ 4840), (i_8 : 0 ≤ k53_bk.toInt ∧ k53_bk.toInt ≤ 1), (i_9 : 0 ≤ k53_ce.toInt ∧ k53_ce.toInt ≤ 63), (i_10 : 0 ≤ k53_ho.toInt ∧ k53_ho.toInt ≤ 23), (i_11 : 0 ≤ k53_wy.toInt ∧ k53_wy.toInt ≤ 3), (i_12 : 0 ≤ k53_bt.toInt ∧ k53_bt.toInt ≤ 1000000), (i_13 : 0 ≤ k53_ps.toInt ∧ k53_ps.toInt ≤ 200), (i_14 : PTI k53_pt), (i_15 : MEI k53_me), (i_16 : k53_5.toInt ≤ snS (fun j => v_ro (230 + j)) (v_ro 5).toInt k53_6.toInt.toNat)⟩ ih_53_17
    replace hl : lv_has ls 10 [(5, .int k53_5), (6, .int k53_6), (0, .ref b_o), (1, .int p_1), (2, .int p_2), (3, .int p_3), (4, .int p_4)] := hl
    refine g5_rs [(b_o, (oc12 u_th u_sa b_rf b_ro b_im b_ke u_fd b_tp u_td u_fr u_to u_so u_wo u_fa u_bd u_nc b_nl u_co b_op b_ar u_le b_pi b_pa u_pd u_od b_ws b_hw k53_la b_se b_re k53_bk k53_va k53_su k53_ce k53_ho k53_wy k53_bt k53_ps b_pt k53_tg k53_sn b_ip u_ic b_ah b_be b_me k53_wd b_tr b_ld u_st b_wn u_id)), (b_ro, (arI G 5740 v_ro)), (b_se, (arJ G 13 k53_se)), (b_re, (arJ G 400 k53_re)), (b_pt, (arI G 200 k53_pt)), (b_me, (arI G 1536 k53_me))] hP hD ?_
    clear hP hD
    intro hP hD
    refine lv_iload hx hb dX12_findMeets_53 (lv_at hl 1 rfl) ?_
    refine lv_aload_n hx hb dX12_findMeets_55 rfl (lv_at hl 2 rfl) ?_
    refine va_get (D := G.1) (ci := 12) (v := .ref b_ro) (C := RX12) (T := TX12) (N := 52) hx hb hts inG_X12 hown hK hP 0 rfl rfl 3 (by decide +kernel) (hts _ fl_X12_13) (fun _ h9 => h9) rfl dX12_findMeets_56 ?_
    refine lv_iconst (v := 5) hx hb dX12_findMeets_59 (by decide +kernel) ?_
    refine W.eq (g2 := F0 m 60 ls [.int 5, .ref b_ro, .int k53_6]) rfl ?_
    refine va_iald hx hb hK hP 1 0 rfl rfl (i := 5) (by unfold vp_in; decide) dX12_findMeets_60 ?_
    refine g5_ti (v := (v_ro 5)) rfl ?_
    have hr_18 : 0 ≤ (v_ro 5).toInt ∧ (v_ro 5).toInt ≤ 10 := mi_5 r_ro
    refine lv_icmp_ge (tgt := 223) hx hb dX12_findMeets_61 (by decide +kernel) (fun c_19 => ?_) (fun c_19 => ?_)
    ·
      have i_19 : k53_6.toInt ≥ (v_ro 5).toInt := g5_ge (a := k53_6.toInt) (b := (v_ro 5).toInt) rfl rfl c_19
      refine lv_iload_n hx hb dX12_findMeets_223 rfl (lv_at hl 5 rfl) ?_
      refine lv_iconst (v := (-1)) hx hb dX12_findMeets_224 (by decide +kernel) ?_
      refine lv_icmp_eq (tgt := 272) hx hb dX12_findMeets_225 (by decide +kernel) (fun c_20 => ?_) (fun c_20 => ?_)
      ·
        have i_20 : p_3.toInt = (-1) := g5_eq (a := p_3.toInt) (b := (-1)) rfl (by decide +kernel) c_20
        exact W.vret hx hb hr (fun t ht hW => ⟨⟨[(b_o, (oc12 u_th u_sa b_rf b_ro b_im b_ke u_fd b_tp u_td u_fr u_to u_so u_wo u_fa u_bd u_nc b_nl u_co b_op b_ar u_le b_pi b_pa u_pd u_od b_ws b_hw k53_la b_se b_re k53_bk k53_va k53_su k53_ce k53_ho k53_wy k53_bt k53_ps b_pt k53_tg k53_sn b_ip u_ic b_ah b_be b_me k53_wd b_tr b_ld u_st b_wn u_id)), (b_ro, (arI G 5740 v_ro)), (b_se, (arJ G 13 k53_se)), (b_re, (arJ G 400 k53_re)), (b_pt, (arI G 200 k53_pt)), (b_me, (arI G 1536 k53_me))], rfl, ⟨k53_la, k53_bk, k53_va, k53_su, k53_ce, k53_ho, k53_wy, k53_bt, k53_ps, k53_tg, k53_sn, k53_wd, k53_se, k53_re, k53_pt, k53_me, i_7, i_8, i_9, i_10, i_11, i_12, i_13, i_14, i_15, rfl⟩, by rw [ht]; exact hP.sub [0, 1, 2, 3, 4, 5] rfl, hD.sub [0, 1, 2, 3, 4, 5] (by decide +kernel) rfl⟩, hS.F ht⟩) hS.2.2 dX12_findMeets_272
      ·
        have n_20 : gNe (p_3.toInt) ((-1)) := g5_eqN (a := p_3.toInt) (b := (-1)) rfl (by decide +kernel) c_20
        have i_20 : p_3.toInt ≥ 0 := by have z := g5_eqN (a := p_3.toInt) (b := (-1)) (by rfl) (by decide +kernel) c_20; omega
        refine lv_aload_n hx hb dX12_findMeets_228 rfl (lv_at hl 2 rfl) ?_
        refine lv_iload_n hx hb dX12_findMeets_229 rfl (lv_at hl 4 rfl) ?_
        refine lv_iload_n hx hb dX12_findMeets_230 rfl (lv_at hl 5 rfl) ?_
        refine lv_iload hx hb dX12_findMeets_231 (lv_at hl 6 rfl) ?_
        refine W.eq (g2 := F0 m 233 ls [.int p_4, .int p_3, .int p_2, .ref b_o]) rfl ?_
        refine lv_iconst (v := 0) hx hb dX12_findMeets_233 (by decide +kernel) ?_
        obtain ⟨hPc, hDc, hFc⟩ := g5_sub3 (wc := [(b_o, (oc12 u_th u_sa b_rf b_ro b_im b_ke u_fd b_tp u_td u_fr u_to u_so u_wo u_fa u_bd u_nc b_nl u_co b_op b_ar u_le b_pi b_pa u_pd u_od b_ws b_hw k53_la b_se b_re k53_bk k53_va k53_su k53_ce k53_ho k53_wy k53_bt k53_ps b_pt k53_tg k53_sn b_ip u_ic b_ah b_be b_me k53_wd b_tr b_ld u_st b_wn u_id)), (b_ro, (arI G 5740 v_ro)), (b_se, (arJ G 13 k53_se)), (b_re, (arJ G 400 k53_re)), (b_pt, (arI G 200 k53_pt))]) hP hD hS hA [0, 1, 2, 3, 4] (by decide +kernel) rfl
        refine va_callv (va_runV (As := [.int p_2, .int p_3, .int p_4, .int 0]) (rest := []) ⟨hx, hb, hml, hown, hts⟩ (n_go l G b_o b_ro b_se b_re b_pt b_rf b_im b_ke b_tp b_nl b_op b_ar b_pi b_pa b_ws b_hw b_ip b_ah b_be b_me b_tr b_ld b_wn H.size u_th u_sa u_fd u_td u_fr u_to u_so u_fa u_bd u_nc u_co u_le u_pd u_od k53_la k53_bk k53_ce k53_ho k53_wy k53_bt k53_ps k53_tg k53_sn u_ic k53_wd u_id p_2 p_3 p_4 0 u_wo k53_va k53_su u_st v_ro k53_se k53_re k53_pt h_u_td h_u_fr h_u_to h_u_bd h_u_nc h_u_co h_u_pd i_7 i_8 i_9 i_10 i_11 i_12 i_13 h_u_ic h_u_id h_p_2 ⟨by omega, by omega⟩ h_p_4 (r_ro) (i_14)) (cwV 4 hts gV_X12_401 rfl rfl rfl hv_X12_go ⟨Nat.le_of_ble_eq_true rfl, Nat.le_of_ble_eq_true rfl⟩) (g5_preV hPc hK hDc hN hT hS hFc (ci := 12) (q0 := 0) rfl rfl) rfl rfl hl.1 rfl (lv_room (Nat.le_of_ble_eq_true rfl)) dX12_findMeets_234 ⟨Nat.le_of_ble_eq_true rfl, Nat.le_of_ble_eq_true rfl⟩) hS (fun q _ h => hFc q h) hFc (fun u t H locs ht hvm hw hB hz1 hk1 hS => ?_)
        obtain ⟨hP1, hD1⟩ := hB
        have hP1 := g5_ht ht hP1
        obtain ⟨z29, z30, z31, z32, z33, z34, z35, z36, z37, z38, z39, z40, z41, z42, (i_21 : 0 ≤ z29.toInt ∧ z29.toInt ≤ 4840), (i_22 : 0 ≤ z30.toInt ∧ z30.toInt ≤ 1), (i_23 : 0 ≤ z33.toInt ∧ z33.toInt ≤ 63), (i_24 : 0 ≤ z34.toInt ∧ z34.toInt ≤ 23), (i_25 : 0 ≤ z35.toInt ∧ z35.toInt ≤ 3), (i_26 : 0 ≤ z36.toInt ∧ z36.toInt ≤ 1000000), (i_27 : 0 ≤ z37.toInt ∧ z37.toInt ≤ 200), (i_28 : PTI z42), rfl⟩ := hw
        have hJ9 := va_join (wr := [(b_me, (arI G 1536 k53_me))]) hP hD [0, 1, 2, 3, 4] [5] rfl rfl (by decide +kernel) (by decide +kernel) hk1 hFc hP1 hD1
        clear hP hD hPc hDc hFc ht hvm hz1 hk1 hP1 hD1
        obtain ⟨hP, hD⟩ := hJ9
        refine g5_rs [(b_me, (arI G 1536 k53_me)), (b_o, (oc12 u_th u_sa b_rf b_ro b_im b_ke u_fd b_tp u_td u_fr u_to u_so u_wo u_fa u_bd u_nc b_nl u_co b_op b_ar u_le b_pi b_pa u_pd u_od b_ws b_hw z29 b_se b_re z30 z31 z32 z33 z34 z35 z36 z37 b_pt z38 z39 b_ip u_ic b_ah b_be b_me k53_wd b_tr b_ld u_st b_wn u_id)), (b_ro, (arI G 5740 v_ro)), (b_se, (arJ G 13 z40)), (b_re, (arJ G 400 z41)), (b_pt, (arI G 200 z42))] hP hD ?_
        clear hP hD
        intro hP hD
        refine lv_iconst (v := 0) hx hb dX12_findMeets_237 (by decide +kernel) ?_
        refine lv_istore (lv' := [(6, .int 0), (5, .int k53_5), (0, .ref b_o), (1, .int p_1), (2, .int p_2), (3, .int p_3), (4, .int p_4)]) hx hb dX12_findMeets_238 hl (by decide +kernel) rfl ?_
        clear hl
        intro ls hl
        refine g5_loop (α := (Int32) × (Nat → Int32)) (fun (q : (Int32) × (Nat → Int32)) (ls : Array Slot) (H : Heap) (locs : List Loc) => match q with | (k240_6, k240_me) => lv_has ls 10 [(6, .int k240_6), (5, .int k53_5), (0, .ref b_o), (1, .int p_1), (2, .int p_2), (3, .int p_3), (4, .int p_4)] ∧ va_P G.1 vwCl [(b_me, (arI G 1536 k240_me)), (b_o, (oc12 u_th u_sa b_rf b_ro b_im b_ke u_fd b_tp u_td u_fr u_to u_so u_wo u_fa u_bd u_nc b_nl u_co b_op b_ar u_le b_pi b_pa u_pd u_od b_ws b_hw z29 b_se b_re z30 z31 z32 z33 z34 z35 z36 z37 b_pt z38 z39 b_ip u_ic b_ah b_be b_me k53_wd b_tr b_ld u_st b_wn u_id)), (b_ro, (arI G 5740 v_ro)), (b_se, (arJ G 13 z40)), (b_re, (arJ G 400 z41)), (b_pt, (arI G 200 z42))] H ∧ va_D A [(b_me, (arI G 1536 k240_me)), (b_o, (oc12 u_th u_sa b_rf b_ro b_im b_ke u_fd b_tp u_td u_fr u_to u_so u_wo u_fa u_bd u_nc b_nl u_co b_op b_ar u_le b_pi b_pa u_pd u_od b_ws b_hw z29 b_se b_re z30 z31 z32 z33 z34 z35 z36 z37 b_pt z38 z39 b_ip u_ic b_ah b_be b_me k53_wd b_tr b_ld u_st b_wn u_id)), (b_ro, (arI G 5740 v_ro)), (b_se, (arJ G 13 z40)), (b_re, (arJ G 400 z41)), (b_pt, (arI G 200 z42))] ∧ va_S A s.heap H locs ∧ (0 ≤ k240_6.toInt ∧ k240_6.toInt ≤ 200) ∧ (MEI k240_me)) (fun (q : (Int32) × (Nat → Int32)) => match q with | (k240_6, k240_me) => Int.toNat (200 - k240_6.toInt)) (0, k53_me) ⟨lv_sub hl [0, 1, 2, 3, 4, 5, 6] rfl, hP, hD, hS, ⟨by decide, by decide⟩, i_15⟩ ?_
        rintro ⟨k240_6, k240_me⟩ ls H locs ⟨hl, hP, hD, hS, (i_43 : 0 ≤ k240_6.toInt ∧ k240_6.toInt ≤ 200), (i_44 : MEI k240_me)⟩ ih_240_45
        replace hl : lv_has ls 10 [(6, .int k240_6), (5, .int k53_5), (0, .ref b_o), (1, .int p_1), (2, .int p_2), (3, .int p_3), (4, .int p_4)] := hl
        refine g5_rs [(b_me, (arI G 1536 k240_me)), (b_o, (oc12 u_th u_sa b_rf b_ro b_im b_ke u_fd b_tp u_td u_fr u_to u_so u_wo u_fa u_bd u_nc b_nl u_co b_op b_ar u_le b_pi b_pa u_pd u_od b_ws b_hw z29 b_se b_re z30 z31 z32 z33 z34 z35 z36 z37 b_pt z38 z39 b_ip u_ic b_ah b_be b_me k53_wd b_tr b_ld u_st b_wn u_id)), (b_ro, (arI G 5740 v_ro)), (b_se, (arJ G 13 z40)), (b_re, (arJ G 400 z41)), (b_pt, (arI G 200 z42))] hP hD ?_
        clear hP hD
        intro hP hD
        refine lv_iload hx hb dX12_findMeets_240 (lv_at hl 0 rfl) ?_
        refine lv_aload_n hx hb dX12_findMeets_242 rfl (lv_at hl 2 rfl) ?_
        refine va_get (D := G.1) (ci := 12) (v := .int z37) (C := RX12) (T := TX12) (N := 52) hx hb hts inG_X12 hown hK hP 1 rfl rfl 37 (by decide +kernel) (hts _ fl_X12_358) (fun _ h9 => h9) rfl dX12_findMeets_243 ?_
        refine lv_icmp_ge (tgt := 272) hx hb dX12_findMeets_246 (by decide +kernel) (fun c_46 => ?_) (fun c_46 => ?_)
        ·
          have i_46 : k240_6.toInt ≥ z37.toInt := g5_ge (a := k240_6.toInt) (b := z37.toInt) rfl rfl c_46
          exact W.vret hx hb hr (fun t ht hW => ⟨⟨[(b_o, (oc12 u_th u_sa b_rf b_ro b_im b_ke u_fd b_tp u_td u_fr u_to u_so u_wo u_fa u_bd u_nc b_nl u_co b_op b_ar u_le b_pi b_pa u_pd u_od b_ws b_hw z29 b_se b_re z30 z31 z32 z33 z34 z35 z36 z37 b_pt z38 z39 b_ip u_ic b_ah b_be b_me k53_wd b_tr b_ld u_st b_wn u_id)), (b_ro, (arI G 5740 v_ro)), (b_se, (arJ G 13 z40)), (b_re, (arJ G 400 z41)), (b_pt, (arI G 200 z42)), (b_me, (arI G 1536 k240_me))], rfl, ⟨z29, z30, z31, z32, z33, z34, z35, z36, z37, z38, z39, k53_wd, z40, z41, z42, k240_me, i_21, i_22, i_23, i_24, i_25, i_26, i_27, i_28, i_44, rfl⟩, by rw [ht]; exact hP.sub [1, 2, 3, 4, 5, 0] rfl, hD.sub [1, 2, 3, 4, 5, 0] (by decide +kernel) rfl⟩, hS.F ht⟩) hS.2.2 dX12_findMeets_272
        ·
          have i_46 : k240_6.toInt < z37.toInt := g5_geN (a := k240_6.toInt) (b := z37.toInt) rfl rfl c_46
          refine lv_aload_n hx hb dX12_findMeets_249 rfl (lv_at hl 2 rfl) ?_
          refine va_get (D := G.1) (ci := 12) (v := .ref b_me) (C := RX12) (T := TX12) (N := 52) hx hb hts inG_X12 hown hK hP 1 rfl rfl 45 (by decide +kernel) (hts _ fl_X12_95) (fun _ h9 => h9) rfl dX12_findMeets_250 ?_
          refine lv_aload_n hx hb dX12_findMeets_253 rfl (lv_at hl 2 rfl) ?_
          refine va_get (D := G.1) (ci := 12) (v := .ref b_pt) (C := RX12) (T := TX12) (N := 52) hx hb hts inG_X12 hown hK hP 1 rfl rfl 38 (by decide +kernel) (hts _ fl_X12_82) (fun _ h9 => h9) rfl dX12_findMeets_254 ?_
          refine W.eq (g2 := F0 m 257 ls [.ref b_pt, .ref b_me]) rfl ?_
          refine lv_iload hx hb dX12_findMeets_257 (lv_at hl 0 rfl) ?_
          refine va_iald hx hb hK hP 5 0 rfl rfl (i := k240_6) (vp_in_iff.mpr ⟨by omega, by omega⟩) dX12_findMeets_259 ?_
          have hr_47 : 0 ≤ (z42 k240_6.toNatClampNeg).toInt ∧ (z42 k240_6.toNatClampNeg).toInt ≤ 1535 := i_28 (k240_6.toNatClampNeg)
          refine lv_dup2_11 hx hb dX12_findMeets_260 rfl rfl ?_
          refine va_iald hx hb hK hP 0 0 rfl rfl (i := (z42 k240_6.toNatClampNeg)) (vp_in_iff.mpr ⟨by omega, by omega⟩) dX12_findMeets_261 ?_
          have hr_48 : 0 ≤ (k240_me (z42 k240_6.toNatClampNeg).toNatClampNeg).toInt ∧ ((k240_me (z42 k240_6.toNatClampNeg).toNatClampNeg).toInt < 32 ∨ 64 ≤ (k240_me (z42 k240_6.toNatClampNeg).toNatClampNeg).toInt) ∧ (k240_me (z42 k240_6.toNatClampNeg).toNatClampNeg).toInt ≤ 127 := i_44 ((z42 k240_6.toNatClampNeg).toNatClampNeg)
          refine lv_bipush (v := 64) hx hb dX12_findMeets_262 (by decide +kernel) ?_
          refine W.eq (g2 := F0 m 264 ls [.int 64, .int (k240_me (z42 k240_6.toNatClampNeg).toNatClampNeg), .int (z42 k240_6.toNatClampNeg), .ref b_me]) rfl ?_
          refine lv_ior hx hb dX12_findMeets_264 ?_
          refine va_iast hx hb hK hP hD hS 0 0 rfl rfl (i := (z42 k240_6.toNatClampNeg)) (x := ((k240_me (z42 k240_6.toNatClampNeg).toNatClampNeg) ||| 64)) (vp_in_iff.mpr ⟨by omega, by omega⟩) dX12_findMeets_265 ?_
          clear hP hD hS
          intro H locs hP hD hS
          refine g5_rs [(b_me, (arI G 1536 (upd k240_me (z42 k240_6.toNatClampNeg).toNatClampNeg ((k240_me (z42 k240_6.toNatClampNeg).toNatClampNeg) ||| 64)))), (b_o, (oc12 u_th u_sa b_rf b_ro b_im b_ke u_fd b_tp u_td u_fr u_to u_so u_wo u_fa u_bd u_nc b_nl u_co b_op b_ar u_le b_pi b_pa u_pd u_od b_ws b_hw z29 b_se b_re z30 z31 z32 z33 z34 z35 z36 z37 b_pt z38 z39 b_ip u_ic b_ah b_be b_me k53_wd b_tr b_ld u_st b_wn u_id)), (b_ro, (arI G 5740 v_ro)), (b_se, (arJ G 13 z40)), (b_re, (arJ G 400 z41)), (b_pt, (arI G 200 z42))] hP hD ?_
          clear hP hD
          intro hP hD
          refine lv_iinc (v := (k240_6 + 1)) (lv' := [(6, .int (k240_6 + 1)), (5, .int k53_5), (0, .ref b_o), (1, .int p_1), (2, .int p_2), (3, .int p_3), (4, .int p_4)]) hx hb dX12_findMeets_266 hl (k := 0) rfl rfl (by decide +kernel) rfl ?_
          clear hl
          intro ls hl
          have t_49 : (k240_6 + 1).toInt = k240_6.toInt + 1 := g5_iadd (a := k240_6.toInt) (b := 1) rfl (by decide +kernel) (by omega) (by omega)
          refine lv_goto (tgt := 240) hx hb dX12_findMeets_269 (by decide +kernel) ?_
          exact ih_240_45 ((k240_6 + 1), (upd k240_me (z42 k240_6.toNatClampNeg).toNatClampNeg ((k240_me (z42 k240_6.toNatClampNeg).toNatClampNeg) ||| 64))) ls H locs (show Int.toNat (200 - (k240_6 + 1).toInt) < Int.toNat (200 - k240_6.toInt) from g_up (show k240_6.toInt < (k240_6 + 1).toInt by omega) (show k240_6.toInt < 200 by omega)) ⟨lv_sub hl [0, 1, 2, 3, 4, 5, 6] rfl, hP, hD, hS, ⟨by omega, by omega⟩, me_upd i_44 (me_or64 (i_44 _))⟩
    ·
      have i_19 : k53_6.toInt < (v_ro 5).toInt := g5_geN (a := k53_6.toInt) (b := (v_ro 5).toInt) rfl rfl c_19
      refine lv_sipush (v := 230) hx hb dX12_findMeets_64 (by decide +kernel) ?_
      refine lv_iconst (v := 4) hx hb dX12_findMeets_67 (by decide +kernel) ?_
      refine lv_iload hx hb dX12_findMeets_68 (lv_at hl 1 rfl) ?_
      refine lv_imul hx hb dX12_findMeets_70 ?_
      have t_50 : (4 * k53_6).toInt = 4 * k53_6.toInt := g5_imul (a := 4) (b := k53_6.toInt) (by decide +kernel) (by rfl) (by omega) (by omega)
      refine W.eq (g2 := F0 m 71 ls [.int (4 * k53_6), .int 230]) rfl ?_
      refine lv_iadd hx hb dX12_findMeets_71 ?_
      have t_51 : (230 + (4 * k53_6)).toInt = 230 + (4 * k53_6).toInt := g5_iadd (a := 230) (b := (4 * k53_6).toInt) (by decide +kernel) (by rfl) (by omega) (by omega)
      refine lv_istore (lv' := [(7, .int (230 + (4 * k53_6))), (5, .int k53_5), (6, .int k53_6), (0, .ref b_o), (1, .int p_1), (2, .int p_2), (3, .int p_3), (4, .int p_4)]) hx hb dX12_findMeets_72 hl (by decide +kernel) rfl ?_
      clear hl
      intro ls hl
      refine lv_iload_n hx hb dX12_findMeets_74 rfl (lv_at hl 4 rfl) ?_
      refine lv_iload hx hb dX12_findMeets_75 (lv_at hl 2 rfl) ?_
      obtain ⟨hPc, hDc, hFc⟩ := g5_sub3 (wc := []) hP hD hS hA [] (by decide +kernel) rfl
      refine va_calli (va_runS (As := [.int p_1, .int k53_6]) (rest := []) ⟨hx, hb, hml, hown, hts⟩ (n_is l G H.size p_1 k53_6) (va_cwS 2 hts gS_X12_387 rfl rfl rfl hs_X12_is ⟨Nat.le_of_ble_eq_true rfl, Nat.le_of_ble_eq_true rfl⟩) (g5_preS hPc hK hDc hN hT hS hFc) rfl rfl hl.1 rfl (lv_room (Nat.le_of_ble_eq_true rfl)) dX12_findMeets_77 ⟨Nat.le_of_ble_eq_true rfl, Nat.le_of_ble_eq_true rfl⟩) hS (fun q _ h => hFc q h) hFc (fun r u t H locs ht hvm hw hB hz1 hk1 hS => ?_)
      obtain ⟨hP1, hD1⟩ := hB
      have hP1 := g5_ht ht hP1
      obtain ⟨z53, (i_52 : 0 ≤ z53.toInt ∧ z53.toInt ≤ 1), y54, rfl⟩ := hw
      have hJ9 := g5_same hP hk1
      clear hP hPc hDc hFc ht hvm hz1 hk1 hP1 hD1
      have hP := hJ9
      clear hJ9
      refine g5_ti (v := z53) y54 ?_
      refine W.eq (g2 := F0 m 80 ls [.int z53]) rfl ?_
      refine lv_if_eq (tgt := 217) hx hb dX12_findMeets_80 (by decide +kernel) (fun c_55 => ?_) (fun c_55 => ?_)
      ·
        have i_55 : z53.toInt = 0 := g5_eq (a := z53.toInt) (b := 0) rfl (by decide +kernel) c_55
        refine lv_iinc (v := (k53_6 + 1)) (lv' := [(6, .int (k53_6 + 1)), (7, .int (230 + (4 * k53_6))), (5, .int k53_5), (0, .ref b_o), (1, .int p_1), (2, .int p_2), (3, .int p_3), (4, .int p_4)]) hx hb dX12_findMeets_217 hl (k := 2) rfl rfl (by decide +kernel) rfl ?_
        clear hl
        intro ls hl
        have t_56 : (k53_6 + 1).toInt = k53_6.toInt + 1 := g5_iadd (a := k53_6.toInt) (b := 1) rfl (by decide +kernel) (by omega) (by omega)
        refine lv_goto (tgt := 53) hx hb dX12_findMeets_220 (by decide +kernel) ?_
        exact ih_53_17 ((k53_6 + 1), k53_5, k53_la, k53_bk, k53_va, k53_su, k53_ce, k53_ho, k53_wy, k53_bt, k53_ps, k53_tg, k53_sn, k53_wd, k53_se, k53_re, k53_pt, k53_me) ls H locs (show Int.toNat (10 - (k53_6 + 1).toInt) < Int.toNat (10 - k53_6.toInt) from g_up (show k53_6.toInt < (k53_6 + 1).toInt by omega) (show k53_6.toInt < 10 by omega)) ⟨lv_sub hl [2, 0, 3, 4, 5, 6, 7] rfl, hP, hD, hS, ⟨by omega, by omega⟩, i_6, i_7, i_8, i_9, i_10, i_11, i_12, i_13, i_14, i_15, mn_stay r_ro i_16 (by omega) (by omega) (by omega)⟩
      ·
        have n_55 : gNe (z53.toInt) (0) := g5_eqN (a := z53.toInt) (b := 0) rfl (by decide +kernel) c_55
        have i_55 : z53.toInt ≥ 1 := by have z := g5_eqN (a := z53.toInt) (b := 0) (by rfl) (by decide +kernel) c_55; omega
        refine lv_aload_n hx hb dX12_findMeets_83 rfl (lv_at hl 3 rfl) ?_
        refine va_get (D := G.1) (ci := 12) (v := .ref b_ro) (C := RX12) (T := TX12) (N := 52) hx hb hts inG_X12 hown hK hP 0 rfl rfl 3 (by decide +kernel) (hts _ fl_X12_13) (fun _ h9 => h9) rfl dX12_findMeets_84 ?_
        refine lv_iload hx hb dX12_findMeets_87 (lv_at hl 0 rfl) ?_
        refine lv_iconst (v := 3) hx hb dX12_findMeets_89 (by decide +kernel) ?_
        refine W.eq (g2 := F0 m 90 ls [.int 3, .int (230 + (4 * k53_6)), .ref b_ro]) rfl ?_
        refine lv_iadd hx hb dX12_findMeets_90 ?_
        have t_57 : ((230 + (4 * k53_6)) + 3).toInt = (230 + (4 * k53_6)).toInt + 3 := g5_iadd (a := (230 + (4 * k53_6)).toInt) (b := 3) (by rfl) (by decide +kernel) (by omega) (by omega)
        refine va_iald hx hb hK hP 1 0 rfl rfl (i := ((230 + (4 * k53_6)) + 3)) (vp_in_iff.mpr ⟨by omega, by omega⟩) dX12_findMeets_91 ?_
        refine lv_iconst (v := 1) hx hb dX12_findMeets_92 (by decide +kernel) ?_
        refine lv_icmp_ne (tgt := 100) hx hb dX12_findMeets_93 (by decide +kernel) (fun c_58 => ?_) (fun c_58 => ?_)
        ·
          have n_58 : gNe ((v_ro ((230 + (4 * k53_6)) + 3).toNatClampNeg).toInt) (1) := g5_ne (a := (v_ro ((230 + (4 * k53_6)) + 3).toNatClampNeg).toInt) (b := 1) rfl (by decide +kernel) c_58
          refine lv_iconst (v := 0) hx hb dX12_findMeets_100 (by decide +kernel) ?_
          refine lv_istore (lv' := [(8, .int 0), (7, .int (230 + (4 * k53_6))), (5, .int k53_5), (6, .int k53_6), (0, .ref b_o), (1, .int p_1), (2, .int p_2), (3, .int p_3), (4, .int p_4)]) hx hb dX12_findMeets_101 hl (by decide +kernel) rfl ?_
          clear hl
          intro ls hl
          refine lv_aload_n hx hb dX12_findMeets_103 rfl (lv_at hl 4 rfl) ?_
          refine lv_aload_n hx hb dX12_findMeets_104 rfl (lv_at hl 4 rfl) ?_
          refine W.eq (g2 := F0 m 105 ls [.ref b_o, .ref b_o]) rfl ?_
          refine va_get (D := G.1) (ci := 12) (v := .ref b_ro) (C := RX12) (T := TX12) (N := 52) hx hb hts inG_X12 hown hK hP 0 rfl rfl 3 (by decide +kernel) (hts _ fl_X12_13) (fun _ h9 => h9) rfl dX12_findMeets_105 ?_
          refine lv_iload hx hb dX12_findMeets_108 (lv_at hl 1 rfl) ?_
          refine va_iald hx hb hK hP 1 0 rfl rfl (i := (230 + (4 * k53_6))) (vp_in_iff.mpr ⟨by omega, by omega⟩) dX12_findMeets_110 ?_
          have hv_59 : 0 ≤ (v_ro (230 + (4 * k53_6)).toNatClampNeg).toInt ∧ (v_ro (230 + (4 * k53_6)).toNatClampNeg).toInt ≤ 63 := mi_230_0 r_ro (by have zz := g5_clamp (230 + (4 * k53_6)); omega) (by have zz := g5_clamp (230 + (4 * k53_6)); omega) (by have zz := g5_clamp (230 + (4 * k53_6)); omega)
          refine lv_aload_n hx hb dX12_findMeets_111 rfl (lv_at hl 4 rfl) ?_
          refine va_get (D := G.1) (ci := 12) (v := .ref b_ro) (C := RX12) (T := TX12) (N := 52) hx hb hts inG_X12 hown hK hP 0 rfl rfl 3 (by decide +kernel) (hts _ fl_X12_13) (fun _ h9 => h9) rfl dX12_findMeets_112 ?_
          refine W.eq (g2 := F0 m 115 ls [.ref b_ro, .int (v_ro (230 + (4 * k53_6)).toNatClampNeg), .ref b_o]) rfl ?_
          refine lv_iload hx hb dX12_findMeets_115 (lv_at hl 1 rfl) ?_
          refine lv_iconst (v := 1) hx hb dX12_findMeets_117 (by decide +kernel) ?_
          refine lv_iadd hx hb dX12_findMeets_118 ?_
          have t_60 : ((230 + (4 * k53_6)) + 1).toInt = (230 + (4 * k53_6)).toInt + 1 := g5_iadd (a := (230 + (4 * k53_6)).toInt) (b := 1) (by rfl) (by decide +kernel) (by omega) (by omega)
          refine va_iald hx hb hK hP 1 0 rfl rfl (i := ((230 + (4 * k53_6)) + 1)) (vp_in_iff.mpr ⟨by omega, by omega⟩) dX12_findMeets_119 ?_
          have hv_61 : 0 ≤ (v_ro ((230 + (4 * k53_6)) + 1).toNatClampNeg).toInt ∧ (v_ro ((230 + (4 * k53_6)) + 1).toNatClampNeg).toInt ≤ 3 := mi_230_1 r_ro (by have zz := g5_clamp ((230 + (4 * k53_6)) + 1); omega) (by have zz := g5_clamp ((230 + (4 * k53_6)) + 1); omega) (by have zz := g5_clamp ((230 + (4 * k53_6)) + 1); omega)
          refine lv_aload_n hx hb dX12_findMeets_120 rfl (lv_at hl 4 rfl) ?_
          refine W.eq (g2 := F0 m 121 ls [.ref b_o, .int (v_ro ((230 + (4 * k53_6)) + 1).toNatClampNeg), .int (v_ro (230 + (4 * k53_6)).toNatClampNeg), .ref b_o]) rfl ?_
          refine va_get (D := G.1) (ci := 12) (v := .ref b_ro) (C := RX12) (T := TX12) (N := 52) hx hb hts inG_X12 hown hK hP 0 rfl rfl 3 (by decide +kernel) (hts _ fl_X12_13) (fun _ h9 => h9) rfl dX12_findMeets_121 ?_
          refine lv_iload hx hb dX12_findMeets_124 (lv_at hl 1 rfl) ?_
          refine lv_iconst (v := 2) hx hb dX12_findMeets_126 (by decide +kernel) ?_
          refine lv_iadd hx hb dX12_findMeets_127 ?_
          have t_62 : ((230 + (4 * k53_6)) + 2).toInt = (230 + (4 * k53_6)).toInt + 2 := g5_iadd (a := (230 + (4 * k53_6)).toInt) (b := 2) (by rfl) (by decide +kernel) (by omega) (by omega)
          refine va_iald hx hb hK hP 1 0 rfl rfl (i := ((230 + (4 * k53_6)) + 2)) (vp_in_iff.mpr ⟨by omega, by omega⟩) dX12_findMeets_128 ?_
          have hv_63 : 0 ≤ (v_ro ((230 + (4 * k53_6)) + 2).toNatClampNeg).toInt ∧ (v_ro ((230 + (4 * k53_6)) + 2).toNatClampNeg).toInt ≤ 23 := mi_230_2 r_ro (by have zz := g5_clamp ((230 + (4 * k53_6)) + 2); omega) (by have zz := g5_clamp ((230 + (4 * k53_6)) + 2); omega) (by have zz := g5_clamp ((230 + (4 * k53_6)) + 2); omega)
          refine W.eq (g2 := F0 m 129 ls [.int (v_ro ((230 + (4 * k53_6)) + 2).toNatClampNeg), .int (v_ro ((230 + (4 * k53_6)) + 1).toNatClampNeg), .int (v_ro (230 + (4 * k53_6)).toNatClampNeg), .ref b_o]) rfl ?_
          refine lv_iconst (v := 0) hx hb dX12_findMeets_129 (by decide +kernel) ?_
          obtain ⟨hPc, hDc, hFc⟩ := g5_sub3 (wc := [(b_o, (oc12 u_th u_sa b_rf b_ro b_im b_ke u_fd b_tp u_td u_fr u_to u_so u_wo u_fa u_bd u_nc b_nl u_co b_op b_ar u_le b_pi b_pa u_pd u_od b_ws b_hw k53_la b_se b_re k53_bk k53_va k53_su k53_ce k53_ho k53_wy k53_bt k53_ps b_pt k53_tg k53_sn b_ip u_ic b_ah b_be b_me k53_wd b_tr b_ld u_st b_wn u_id)), (b_ro, (arI G 5740 v_ro)), (b_se, (arJ G 13 k53_se)), (b_re, (arJ G 400 k53_re)), (b_pt, (arI G 200 k53_pt))]) hP hD hS hA [0, 1, 2, 3, 4] (by decide +kernel) rfl
          refine va_callv (va_runV (As := [.int (v_ro (230 + (4 * k53_6)).toNatClampNeg), .int (v_ro ((230 + (4 * k53_6)) + 1).toNatClampNeg), .int (v_ro ((230 + (4 * k53_6)) + 2).toNatClampNeg), .int 0]) (rest := []) ⟨hx, hb, hml, hown, hts⟩ (n_go l G b_o b_ro b_se b_re b_pt b_rf b_im b_ke b_tp b_nl b_op b_ar b_pi b_pa b_ws b_hw b_ip b_ah b_be b_me b_tr b_ld b_wn H.size u_th u_sa u_fd u_td u_fr u_to u_so u_fa u_bd u_nc u_co u_le u_pd u_od k53_la k53_bk k53_ce k53_ho k53_wy k53_bt k53_ps k53_tg k53_sn u_ic k53_wd u_id (v_ro (230 + (4 * k53_6)).toNatClampNeg) (v_ro ((230 + (4 * k53_6)) + 1).toNatClampNeg) (v_ro ((230 + (4 * k53_6)) + 2).toNatClampNeg) 0 u_wo k53_va k53_su u_st v_ro k53_se k53_re k53_pt h_u_td h_u_fr h_u_to h_u_bd h_u_nc h_u_co h_u_pd i_7 i_8 i_9 i_10 i_11 i_12 i_13 h_u_ic h_u_id ⟨by omega, by omega⟩ ⟨by omega, by omega⟩ ⟨by omega, by omega⟩ (r_ro) (i_14)) (cwV 4 hts gV_X12_401 rfl rfl rfl hv_X12_go ⟨Nat.le_of_ble_eq_true rfl, Nat.le_of_ble_eq_true rfl⟩) (g5_preV hPc hK hDc hN hT hS hFc (ci := 12) (q0 := 0) rfl rfl) rfl rfl hl.1 rfl (lv_room (Nat.le_of_ble_eq_true rfl)) dX12_findMeets_130 ⟨Nat.le_of_ble_eq_true rfl, Nat.le_of_ble_eq_true rfl⟩) hS (fun q _ h => hFc q h) hFc (fun u t H locs ht hvm hw hB hz1 hk1 hS => ?_)
          obtain ⟨hP1, hD1⟩ := hB
          have hP1 := g5_ht ht hP1
          obtain ⟨z72, z73, z74, z75, z76, z77, z78, z79, z80, z81, z82, z83, z84, z85, (i_64 : 0 ≤ z72.toInt ∧ z72.toInt ≤ 4840), (i_65 : 0 ≤ z73.toInt ∧ z73.toInt ≤ 1), (i_66 : 0 ≤ z76.toInt ∧ z76.toInt ≤ 63), (i_67 : 0 ≤ z77.toInt ∧ z77.toInt ≤ 23), (i_68 : 0 ≤ z78.toInt ∧ z78.toInt ≤ 3), (i_69 : 0 ≤ z79.toInt ∧ z79.toInt ≤ 1000000), (i_70 : 0 ≤ z80.toInt ∧ z80.toInt ≤ 200), (i_71 : PTI z85), rfl⟩ := hw
          have hJ9 := va_join (wr := [(b_me, (arI G 1536 k53_me))]) hP hD [0, 1, 2, 3, 4] [5] rfl rfl (by decide +kernel) (by decide +kernel) hk1 hFc hP1 hD1
          clear hP hD hPc hDc hFc ht hvm hz1 hk1 hP1 hD1
          obtain ⟨hP, hD⟩ := hJ9
          refine g5_rs [(b_me, (arI G 1536 k53_me)), (b_o, (oc12 u_th u_sa b_rf b_ro b_im b_ke u_fd b_tp u_td u_fr u_to u_so u_wo u_fa u_bd u_nc b_nl u_co b_op b_ar u_le b_pi b_pa u_pd u_od b_ws b_hw z72 b_se b_re z73 z74 z75 z76 z77 z78 z79 z80 b_pt z81 z82 b_ip u_ic b_ah b_be b_me k53_wd b_tr b_ld u_st b_wn u_id)), (b_ro, (arI G 5740 v_ro)), (b_se, (arJ G 13 z83)), (b_re, (arJ G 400 z84)), (b_pt, (arI G 200 z85))] hP hD ?_
          clear hP hD
          intro hP hD
          refine lv_iconst (v := 0) hx hb dX12_findMeets_133 (by decide +kernel) ?_
          refine lv_istore (lv' := [(9, .int 0), (8, .int 0), (7, .int (230 + (4 * k53_6))), (5, .int k53_5), (6, .int k53_6), (0, .ref b_o), (1, .int p_1), (2, .int p_2), (3, .int p_3), (4, .int p_4)]) hx hb dX12_findMeets_134 hl (by decide +kernel) rfl ?_
          clear hl
          intro ls hl
          refine g5_loop (α := (Int32) × (Nat → Int32)) (fun (q : (Int32) × (Nat → Int32)) (ls : Array Slot) (H : Heap) (locs : List Loc) => match q with | (k136_9, k136_me) => lv_has ls 10 [(9, .int k136_9), (8, .int 0), (7, .int (230 + (4 * k53_6))), (5, .int k53_5), (6, .int k53_6), (0, .ref b_o), (1, .int p_1), (2, .int p_2), (3, .int p_3), (4, .int p_4)] ∧ va_P G.1 vwCl [(b_me, (arI G 1536 k136_me)), (b_o, (oc12 u_th u_sa b_rf b_ro b_im b_ke u_fd b_tp u_td u_fr u_to u_so u_wo u_fa u_bd u_nc b_nl u_co b_op b_ar u_le b_pi b_pa u_pd u_od b_ws b_hw z72 b_se b_re z73 z74 z75 z76 z77 z78 z79 z80 b_pt z81 z82 b_ip u_ic b_ah b_be b_me k53_wd b_tr b_ld u_st b_wn u_id)), (b_ro, (arI G 5740 v_ro)), (b_se, (arJ G 13 z83)), (b_re, (arJ G 400 z84)), (b_pt, (arI G 200 z85))] H ∧ va_D A [(b_me, (arI G 1536 k136_me)), (b_o, (oc12 u_th u_sa b_rf b_ro b_im b_ke u_fd b_tp u_td u_fr u_to u_so u_wo u_fa u_bd u_nc b_nl u_co b_op b_ar u_le b_pi b_pa u_pd u_od b_ws b_hw z72 b_se b_re z73 z74 z75 z76 z77 z78 z79 z80 b_pt z81 z82 b_ip u_ic b_ah b_be b_me k53_wd b_tr b_ld u_st b_wn u_id)), (b_ro, (arI G 5740 v_ro)), (b_se, (arJ G 13 z83)), (b_re, (arJ G 400 z84)), (b_pt, (arI G 200 z85))] ∧ va_S A s.heap H locs ∧ (0 ≤ k136_9.toInt ∧ k136_9.toInt ≤ 200) ∧ (MEI k136_me)) (fun (q : (Int32) × (Nat → Int32)) => match q with | (k136_9, k136_me) => Int.toNat (200 - k136_9.toInt)) (0, k53_me) ⟨lv_sub hl [0, 1, 2, 3, 4, 5, 6, 7, 8, 9] rfl, hP, hD, hS, ⟨by decide, by decide⟩, i_15⟩ ?_
          rintro ⟨k136_9, k136_me⟩ ls H locs ⟨hl, hP, hD, hS, (i_86 : 0 ≤ k136_9.toInt ∧ k136_9.toInt ≤ 200), (i_87 : MEI k136_me)⟩ ih_136_88
          replace hl : lv_has ls 10 [(9, .int k136_9), (8, .int 0), (7, .int (230 + (4 * k53_6))), (5, .int k53_5), (6, .int k53_6), (0, .ref b_o), (1, .int p_1), (2, .int p_2), (3, .int p_3), (4, .int p_4)] := hl
          refine g5_rs [(b_me, (arI G 1536 k136_me)), (b_o, (oc12 u_th u_sa b_rf b_ro b_im b_ke u_fd b_tp u_td u_fr u_to u_so u_wo u_fa u_bd u_nc b_nl u_co b_op b_ar u_le b_pi b_pa u_pd u_od b_ws b_hw z72 b_se b_re z73 z74 z75 z76 z77 z78 z79 z80 b_pt z81 z82 b_ip u_ic b_ah b_be b_me k53_wd b_tr b_ld u_st b_wn u_id)), (b_ro, (arI G 5740 v_ro)), (b_se, (arJ G 13 z83)), (b_re, (arJ G 400 z84)), (b_pt, (arI G 200 z85))] hP hD ?_
          clear hP hD
          intro hP hD
          refine lv_iload hx hb dX12_findMeets_136 (lv_at hl 0 rfl) ?_
          refine lv_aload_n hx hb dX12_findMeets_138 rfl (lv_at hl 5 rfl) ?_
          refine va_get (D := G.1) (ci := 12) (v := .int z80) (C := RX12) (T := TX12) (N := 52) hx hb hts inG_X12 hown hK hP 1 rfl rfl 37 (by decide +kernel) (hts _ fl_X12_358) (fun _ h9 => h9) rfl dX12_findMeets_139 ?_
          refine lv_icmp_ge (tgt := 180) hx hb dX12_findMeets_142 (by decide +kernel) (fun c_89 => ?_) (fun c_89 => ?_)
          ·
            have i_89 : k136_9.toInt ≥ z80.toInt := g5_ge (a := k136_9.toInt) (b := z80.toInt) rfl rfl c_89
            refine lv_aload_n hx hb dX12_findMeets_180 rfl (lv_at hl 5 rfl) ?_
            refine lv_dup hx hb dX12_findMeets_181 rfl ?_
            refine va_get (D := G.1) (ci := 12) (v := .int k53_wd) (C := RX12) (T := TX12) (N := 52) hx hb hts inG_X12 hown hK hP 1 rfl rfl 46 (by decide +kernel) (hts _ fl_X12_422) (fun _ h9 => h9) rfl dX12_findMeets_182 ?_
            refine lv_iload hx hb dX12_findMeets_185 (lv_at hl 1 rfl) ?_
            refine W.eq (g2 := F0 m 187 ls [.int 0, .int k53_wd, .ref b_o]) rfl ?_
            refine lv_if_eq (tgt := 197) hx hb dX12_findMeets_187 (by decide +kernel) (fun c_90 => ?_) (fun c_90 => ?_)
            ·
              refine lv_iconst (v := 0) hx hb dX12_findMeets_197 (by decide +kernel) ?_
              refine lv_ior hx hb dX12_findMeets_198 ?_
              refine g5_ti (v := k53_wd) (by simp) ?_
              refine va_put (D := G.1) (ci := 12) (v := .int k53_wd) (ty := .int) (C := RX12) (T := TX12) (N := 52) hx hb hts inG_X12 tyX12 tyX12_ok nmX12 hown hK hP hD hS 1 rfl rfl 46 (by decide +kernel) (hts _ fl_X12_422) (fun _ h9 => h9) rfl (by decide +kernel) rfl rfl (Nat.le_of_ble_eq_true rfl) dX12_findMeets_199 ?_
              clear hP hD hS
              intro H locs hP hD hS
              refine g5_rs [(b_me, (arI G 1536 k136_me)), (b_o, (oc12 u_th u_sa b_rf b_ro b_im b_ke u_fd b_tp u_td u_fr u_to u_so u_wo u_fa u_bd u_nc b_nl u_co b_op b_ar u_le b_pi b_pa u_pd u_od b_ws b_hw z72 b_se b_re z73 z74 z75 z76 z77 z78 z79 z80 b_pt z81 z82 b_ip u_ic b_ah b_be b_me k53_wd b_tr b_ld u_st b_wn u_id)), (b_ro, (arI G 5740 v_ro)), (b_se, (arJ G 13 z83)), (b_re, (arJ G 400 z84)), (b_pt, (arI G 200 z85))] hP hD ?_
              clear hP hD
              intro hP hD
              refine lv_iload hx hb dX12_findMeets_202 (lv_at hl 3 rfl) ?_
              refine W.eq (g2 := F0 m 204 ls [.int k53_5]) rfl ?_
              refine lv_iload hx hb dX12_findMeets_204 (lv_at hl 1 rfl) ?_
              refine lv_if_eq (tgt := 213) hx hb dX12_findMeets_206 (by decide +kernel) (fun c_91 => ?_) (fun c_91 => ?_)
              ·
                refine lv_iconst (v := 0) hx hb dX12_findMeets_213 (by decide +kernel) ?_
                refine lv_iadd hx hb dX12_findMeets_214 ?_
                refine g5_ti (v := k53_5) (by simp) ?_
                refine lv_istore (lv' := [(5, .int k53_5), (9, .int k136_9), (8, .int 0), (7, .int (230 + (4 * k53_6))), (6, .int k53_6), (0, .ref b_o), (1, .int p_1), (2, .int p_2), (3, .int p_3), (4, .int p_4)]) hx hb dX12_findMeets_215 hl (by decide +kernel) rfl ?_
                clear hl
                intro ls hl
                refine lv_iinc (v := (k53_6 + 1)) (lv' := [(6, .int (k53_6 + 1)), (5, .int k53_5), (9, .int k136_9), (8, .int 0), (7, .int (230 + (4 * k53_6))), (0, .ref b_o), (1, .int p_1), (2, .int p_2), (3, .int p_3), (4, .int p_4)]) hx hb dX12_findMeets_217 hl (k := 4) rfl rfl (by decide +kernel) rfl ?_
                clear hl
                intro ls hl
                have t_92 : (k53_6 + 1).toInt = k53_6.toInt + 1 := g5_iadd (a := k53_6.toInt) (b := 1) rfl (by decide +kernel) (by omega) (by omega)
                refine W.eq (g2 := F0 m 220 ls []) rfl ?_
                refine lv_goto (tgt := 53) hx hb dX12_findMeets_220 (by decide +kernel) ?_
                exact ih_53_17 ((k53_6 + 1), k53_5, z72, z73, z74, z75, z76, z77, z78, z79, z80, z81, z82, k53_wd, z83, z84, z85, k136_me) ls H locs (show Int.toNat (10 - (k53_6 + 1).toInt) < Int.toNat (10 - k53_6.toInt) from g_up (show k53_6.toInt < (k53_6 + 1).toInt by omega) (show k53_6.toInt < 10 by omega)) ⟨lv_sub hl [1, 0, 5, 6, 7, 8, 9] rfl, hP.sub [1, 2, 3, 4, 5, 0] rfl, hD.sub [1, 2, 3, 4, 5, 0] (by decide +kernel) rfl, hS, ⟨by omega, by omega⟩, i_6, i_64, i_65, i_66, i_67, i_68, i_69, i_70, i_71, i_87, mn_stay r_ro i_16 (by omega) (by omega) (by omega)⟩
              ·
                exact absurd c_91 (by decide +kernel)
            ·
              exact absurd c_90 (by decide +kernel)
          ·
            have i_89 : k136_9.toInt < z80.toInt := g5_geN (a := k136_9.toInt) (b := z80.toInt) rfl rfl c_89
            refine lv_aload_n hx hb dX12_findMeets_145 rfl (lv_at hl 5 rfl) ?_
            refine va_get (D := G.1) (ci := 12) (v := .ref b_me) (C := RX12) (T := TX12) (N := 52) hx hb hts inG_X12 hown hK hP 1 rfl rfl 45 (by decide +kernel) (hts _ fl_X12_95) (fun _ h9 => h9) rfl dX12_findMeets_146 ?_
            refine lv_aload_n hx hb dX12_findMeets_149 rfl (lv_at hl 5 rfl) ?_
            refine va_get (D := G.1) (ci := 12) (v := .ref b_pt) (C := RX12) (T := TX12) (N := 52) hx hb hts inG_X12 hown hK hP 1 rfl rfl 38 (by decide +kernel) (hts _ fl_X12_82) (fun _ h9 => h9) rfl dX12_findMeets_150 ?_
            refine W.eq (g2 := F0 m 153 ls [.ref b_pt, .ref b_me]) rfl ?_
            refine lv_iload hx hb dX12_findMeets_153 (lv_at hl 0 rfl) ?_
            refine va_iald hx hb hK hP 5 0 rfl rfl (i := k136_9) (vp_in_iff.mpr ⟨by omega, by omega⟩) dX12_findMeets_155 ?_
            have hr_93 : 0 ≤ (z85 k136_9.toNatClampNeg).toInt ∧ (z85 k136_9.toNatClampNeg).toInt ≤ 1535 := i_71 (k136_9.toNatClampNeg)
            refine lv_dup2_11 hx hb dX12_findMeets_156 rfl rfl ?_
            refine va_iald hx hb hK hP 0 0 rfl rfl (i := (z85 k136_9.toNatClampNeg)) (vp_in_iff.mpr ⟨by omega, by omega⟩) dX12_findMeets_157 ?_
            have hr_94 : 0 ≤ (k136_me (z85 k136_9.toNatClampNeg).toNatClampNeg).toInt ∧ ((k136_me (z85 k136_9.toNatClampNeg).toNatClampNeg).toInt < 32 ∨ 64 ≤ (k136_me (z85 k136_9.toNatClampNeg).toNatClampNeg).toInt) ∧ (k136_me (z85 k136_9.toNatClampNeg).toNatClampNeg).toInt ≤ 127 := i_87 ((z85 k136_9.toNatClampNeg).toNatClampNeg)
            refine lv_iload hx hb dX12_findMeets_158 (lv_at hl 1 rfl) ?_
            refine W.eq (g2 := F0 m 160 ls [.int 0, .int (k136_me (z85 k136_9.toNatClampNeg).toNatClampNeg), .int (z85 k136_9.toNatClampNeg), .ref b_me]) rfl ?_
            refine lv_if_eq (tgt := 170) hx hb dX12_findMeets_160 (by decide +kernel) (fun c_95 => ?_) (fun c_95 => ?_)
            ·
              refine lv_bipush (v := 64) hx hb dX12_findMeets_170 (by decide +kernel) ?_
              refine lv_ior hx hb dX12_findMeets_172 ?_
              refine va_iast hx hb hK hP hD hS 0 0 rfl rfl (i := (z85 k136_9.toNatClampNeg)) (x := ((k136_me (z85 k136_9.toNatClampNeg).toNatClampNeg) ||| 64)) (vp_in_iff.mpr ⟨by omega, by omega⟩) dX12_findMeets_173 ?_
              clear hP hD hS
              intro H locs hP hD hS
              refine g5_rs [(b_me, (arI G 1536 (upd k136_me (z85 k136_9.toNatClampNeg).toNatClampNeg ((k136_me (z85 k136_9.toNatClampNeg).toNatClampNeg) ||| 64)))), (b_o, (oc12 u_th u_sa b_rf b_ro b_im b_ke u_fd b_tp u_td u_fr u_to u_so u_wo u_fa u_bd u_nc b_nl u_co b_op b_ar u_le b_pi b_pa u_pd u_od b_ws b_hw z72 b_se b_re z73 z74 z75 z76 z77 z78 z79 z80 b_pt z81 z82 b_ip u_ic b_ah b_be b_me k53_wd b_tr b_ld u_st b_wn u_id)), (b_ro, (arI G 5740 v_ro)), (b_se, (arJ G 13 z83)), (b_re, (arJ G 400 z84)), (b_pt, (arI G 200 z85))] hP hD ?_
              clear hP hD
              intro hP hD
              refine lv_iinc (v := (k136_9 + 1)) (lv' := [(9, .int (k136_9 + 1)), (8, .int 0), (7, .int (230 + (4 * k53_6))), (5, .int k53_5), (6, .int k53_6), (0, .ref b_o), (1, .int p_1), (2, .int p_2), (3, .int p_3), (4, .int p_4)]) hx hb dX12_findMeets_174 hl (k := 0) rfl rfl (by decide +kernel) rfl ?_
              clear hl
              intro ls hl
              have t_96 : (k136_9 + 1).toInt = k136_9.toInt + 1 := g5_iadd (a := k136_9.toInt) (b := 1) rfl (by decide +kernel) (by omega) (by omega)
              refine W.eq (g2 := F0 m 177 ls []) rfl ?_
              refine lv_goto (tgt := 136) hx hb dX12_findMeets_177 (by decide +kernel) ?_
              exact ih_136_88 ((k136_9 + 1), (upd k136_me (z85 k136_9.toNatClampNeg).toNatClampNeg ((k136_me (z85 k136_9.toNatClampNeg).toNatClampNeg) ||| 64))) ls H locs (show Int.toNat (200 - (k136_9 + 1).toInt) < Int.toNat (200 - k136_9.toInt) from g_up (show k136_9.toInt < (k136_9 + 1).toInt by omega) (show k136_9.toInt < 200 by omega)) ⟨lv_sub hl [0, 1, 2, 3, 4, 5, 6, 7, 8, 9] rfl, hP, hD, hS, ⟨by omega, by omega⟩, me_upd i_87 (me_or64 (i_87 _))⟩
            ·
              exact absurd c_95 (by decide +kernel)
        ·
          have i_58 : (v_ro ((230 + (4 * k53_6)) + 3).toNatClampNeg).toInt = 1 := g5_neN (a := (v_ro ((230 + (4 * k53_6)) + 3).toNatClampNeg).toInt) (b := 1) rfl (by decide +kernel) c_58
          refine lv_iconst (v := 1) hx hb dX12_findMeets_96 (by decide +kernel) ?_
          refine lv_goto (tgt := 101) hx hb dX12_findMeets_97 (by decide +kernel) ?_
          refine lv_istore (lv' := [(8, .int 1), (7, .int (230 + (4 * k53_6))), (5, .int k53_5), (6, .int k53_6), (0, .ref b_o), (1, .int p_1), (2, .int p_2), (3, .int p_3), (4, .int p_4)]) hx hb dX12_findMeets_101 hl (by decide +kernel) rfl ?_
          clear hl
          intro ls hl
          refine lv_aload_n hx hb dX12_findMeets_103 rfl (lv_at hl 4 rfl) ?_
          refine W.eq (g2 := F0 m 104 ls [.ref b_o]) rfl ?_
          refine lv_aload_n hx hb dX12_findMeets_104 rfl (lv_at hl 4 rfl) ?_
          refine va_get (D := G.1) (ci := 12) (v := .ref b_ro) (C := RX12) (T := TX12) (N := 52) hx hb hts inG_X12 hown hK hP 0 rfl rfl 3 (by decide +kernel) (hts _ fl_X12_13) (fun _ h9 => h9) rfl dX12_findMeets_105 ?_
          refine lv_iload hx hb dX12_findMeets_108 (lv_at hl 1 rfl) ?_
          refine va_iald hx hb hK hP 1 0 rfl rfl (i := (230 + (4 * k53_6))) (vp_in_iff.mpr ⟨by omega, by omega⟩) dX12_findMeets_110 ?_
          have hv_97 : 0 ≤ (v_ro (230 + (4 * k53_6)).toNatClampNeg).toInt ∧ (v_ro (230 + (4 * k53_6)).toNatClampNeg).toInt ≤ 63 := mi_230_0 r_ro (by have zz := g5_clamp (230 + (4 * k53_6)); omega) (by have zz := g5_clamp (230 + (4 * k53_6)); omega) (by have zz := g5_clamp (230 + (4 * k53_6)); omega)
          refine lv_aload_n hx hb dX12_findMeets_111 rfl (lv_at hl 4 rfl) ?_
          refine W.eq (g2 := F0 m 112 ls [.ref b_o, .int (v_ro (230 + (4 * k53_6)).toNatClampNeg), .ref b_o]) rfl ?_
          refine va_get (D := G.1) (ci := 12) (v := .ref b_ro) (C := RX12) (T := TX12) (N := 52) hx hb hts inG_X12 hown hK hP 0 rfl rfl 3 (by decide +kernel) (hts _ fl_X12_13) (fun _ h9 => h9) rfl dX12_findMeets_112 ?_
          refine lv_iload hx hb dX12_findMeets_115 (lv_at hl 1 rfl) ?_
          refine lv_iconst (v := 1) hx hb dX12_findMeets_117 (by decide +kernel) ?_
          refine lv_iadd hx hb dX12_findMeets_118 ?_
          have t_98 : ((230 + (4 * k53_6)) + 1).toInt = (230 + (4 * k53_6)).toInt + 1 := g5_iadd (a := (230 + (4 * k53_6)).toInt) (b := 1) (by rfl) (by decide +kernel) (by omega) (by omega)
          refine va_iald hx hb hK hP 1 0 rfl rfl (i := ((230 + (4 * k53_6)) + 1)) (vp_in_iff.mpr ⟨by omega, by omega⟩) dX12_findMeets_119 ?_
          have hv_99 : 0 ≤ (v_ro ((230 + (4 * k53_6)) + 1).toNatClampNeg).toInt ∧ (v_ro ((230 + (4 * k53_6)) + 1).toNatClampNeg).toInt ≤ 3 := mi_230_1 r_ro (by have zz := g5_clamp ((230 + (4 * k53_6)) + 1); omega) (by have zz := g5_clamp ((230 + (4 * k53_6)) + 1); omega) (by have zz := g5_clamp ((230 + (4 * k53_6)) + 1); omega)
          refine W.eq (g2 := F0 m 120 ls [.int (v_ro ((230 + (4 * k53_6)) + 1).toNatClampNeg), .int (v_ro (230 + (4 * k53_6)).toNatClampNeg), .ref b_o]) rfl ?_
          refine lv_aload_n hx hb dX12_findMeets_120 rfl (lv_at hl 4 rfl) ?_
          refine va_get (D := G.1) (ci := 12) (v := .ref b_ro) (C := RX12) (T := TX12) (N := 52) hx hb hts inG_X12 hown hK hP 0 rfl rfl 3 (by decide +kernel) (hts _ fl_X12_13) (fun _ h9 => h9) rfl dX12_findMeets_121 ?_
          refine lv_iload hx hb dX12_findMeets_124 (lv_at hl 1 rfl) ?_
          refine lv_iconst (v := 2) hx hb dX12_findMeets_126 (by decide +kernel) ?_
          refine lv_iadd hx hb dX12_findMeets_127 ?_
          have t_100 : ((230 + (4 * k53_6)) + 2).toInt = (230 + (4 * k53_6)).toInt + 2 := g5_iadd (a := (230 + (4 * k53_6)).toInt) (b := 2) (by rfl) (by decide +kernel) (by omega) (by omega)
          refine W.eq (g2 := F0 m 128 ls [.int ((230 + (4 * k53_6)) + 2), .ref b_ro, .int (v_ro ((230 + (4 * k53_6)) + 1).toNatClampNeg), .int (v_ro (230 + (4 * k53_6)).toNatClampNeg), .ref b_o]) rfl ?_
          refine va_iald hx hb hK hP 1 0 rfl rfl (i := ((230 + (4 * k53_6)) + 2)) (vp_in_iff.mpr ⟨by omega, by omega⟩) dX12_findMeets_128 ?_
          have hv_101 : 0 ≤ (v_ro ((230 + (4 * k53_6)) + 2).toNatClampNeg).toInt ∧ (v_ro ((230 + (4 * k53_6)) + 2).toNatClampNeg).toInt ≤ 23 := mi_230_2 r_ro (by have zz := g5_clamp ((230 + (4 * k53_6)) + 2); omega) (by have zz := g5_clamp ((230 + (4 * k53_6)) + 2); omega) (by have zz := g5_clamp ((230 + (4 * k53_6)) + 2); omega)
          refine lv_iconst (v := 0) hx hb dX12_findMeets_129 (by decide +kernel) ?_
          obtain ⟨hPc, hDc, hFc⟩ := g5_sub3 (wc := [(b_o, (oc12 u_th u_sa b_rf b_ro b_im b_ke u_fd b_tp u_td u_fr u_to u_so u_wo u_fa u_bd u_nc b_nl u_co b_op b_ar u_le b_pi b_pa u_pd u_od b_ws b_hw k53_la b_se b_re k53_bk k53_va k53_su k53_ce k53_ho k53_wy k53_bt k53_ps b_pt k53_tg k53_sn b_ip u_ic b_ah b_be b_me k53_wd b_tr b_ld u_st b_wn u_id)), (b_ro, (arI G 5740 v_ro)), (b_se, (arJ G 13 k53_se)), (b_re, (arJ G 400 k53_re)), (b_pt, (arI G 200 k53_pt))]) hP hD hS hA [0, 1, 2, 3, 4] (by decide +kernel) rfl
          refine va_callv (va_runV (As := [.int (v_ro (230 + (4 * k53_6)).toNatClampNeg), .int (v_ro ((230 + (4 * k53_6)) + 1).toNatClampNeg), .int (v_ro ((230 + (4 * k53_6)) + 2).toNatClampNeg), .int 0]) (rest := []) ⟨hx, hb, hml, hown, hts⟩ (n_go l G b_o b_ro b_se b_re b_pt b_rf b_im b_ke b_tp b_nl b_op b_ar b_pi b_pa b_ws b_hw b_ip b_ah b_be b_me b_tr b_ld b_wn H.size u_th u_sa u_fd u_td u_fr u_to u_so u_fa u_bd u_nc u_co u_le u_pd u_od k53_la k53_bk k53_ce k53_ho k53_wy k53_bt k53_ps k53_tg k53_sn u_ic k53_wd u_id (v_ro (230 + (4 * k53_6)).toNatClampNeg) (v_ro ((230 + (4 * k53_6)) + 1).toNatClampNeg) (v_ro ((230 + (4 * k53_6)) + 2).toNatClampNeg) 0 u_wo k53_va k53_su u_st v_ro k53_se k53_re k53_pt h_u_td h_u_fr h_u_to h_u_bd h_u_nc h_u_co h_u_pd i_7 i_8 i_9 i_10 i_11 i_12 i_13 h_u_ic h_u_id ⟨by omega, by omega⟩ ⟨by omega, by omega⟩ ⟨by omega, by omega⟩ (r_ro) (i_14)) (cwV 4 hts gV_X12_401 rfl rfl rfl hv_X12_go ⟨Nat.le_of_ble_eq_true rfl, Nat.le_of_ble_eq_true rfl⟩) (g5_preV hPc hK hDc hN hT hS hFc (ci := 12) (q0 := 0) rfl rfl) rfl rfl hl.1 rfl (lv_room (Nat.le_of_ble_eq_true rfl)) dX12_findMeets_130 ⟨Nat.le_of_ble_eq_true rfl, Nat.le_of_ble_eq_true rfl⟩) hS (fun q _ h => hFc q h) hFc (fun u t H locs ht hvm hw hB hz1 hk1 hS => ?_)
          obtain ⟨hP1, hD1⟩ := hB
          have hP1 := g5_ht ht hP1
          obtain ⟨z110, z111, z112, z113, z114, z115, z116, z117, z118, z119, z120, z121, z122, z123, (i_102 : 0 ≤ z110.toInt ∧ z110.toInt ≤ 4840), (i_103 : 0 ≤ z111.toInt ∧ z111.toInt ≤ 1), (i_104 : 0 ≤ z114.toInt ∧ z114.toInt ≤ 63), (i_105 : 0 ≤ z115.toInt ∧ z115.toInt ≤ 23), (i_106 : 0 ≤ z116.toInt ∧ z116.toInt ≤ 3), (i_107 : 0 ≤ z117.toInt ∧ z117.toInt ≤ 1000000), (i_108 : 0 ≤ z118.toInt ∧ z118.toInt ≤ 200), (i_109 : PTI z123), rfl⟩ := hw
          have hJ9 := va_join (wr := [(b_me, (arI G 1536 k53_me))]) hP hD [0, 1, 2, 3, 4] [5] rfl rfl (by decide +kernel) (by decide +kernel) hk1 hFc hP1 hD1
          clear hP hD hPc hDc hFc ht hvm hz1 hk1 hP1 hD1
          obtain ⟨hP, hD⟩ := hJ9
          refine g5_rs [(b_me, (arI G 1536 k53_me)), (b_o, (oc12 u_th u_sa b_rf b_ro b_im b_ke u_fd b_tp u_td u_fr u_to u_so u_wo u_fa u_bd u_nc b_nl u_co b_op b_ar u_le b_pi b_pa u_pd u_od b_ws b_hw z110 b_se b_re z111 z112 z113 z114 z115 z116 z117 z118 b_pt z119 z120 b_ip u_ic b_ah b_be b_me k53_wd b_tr b_ld u_st b_wn u_id)), (b_ro, (arI G 5740 v_ro)), (b_se, (arJ G 13 z121)), (b_re, (arJ G 400 z122)), (b_pt, (arI G 200 z123))] hP hD ?_
          clear hP hD
          intro hP hD
          have hlt9 : k53_5.toInt < 5 := mn_lt (x := ((230 + (4 * k53_6)) + 3)) r_ro i_16 (by omega) (by omega) (by omega) (by omega)
          refine lv_iconst (v := 0) hx hb dX12_findMeets_133 (by decide +kernel) ?_
          refine lv_istore (lv' := [(9, .int 0), (8, .int 1), (7, .int (230 + (4 * k53_6))), (5, .int k53_5), (6, .int k53_6), (0, .ref b_o), (1, .int p_1), (2, .int p_2), (3, .int p_3), (4, .int p_4)]) hx hb dX12_findMeets_134 hl (by decide +kernel) rfl ?_
          clear hl
          intro ls hl
          refine g5_loop (α := (Int32) × (Nat → Int32)) (fun (q : (Int32) × (Nat → Int32)) (ls : Array Slot) (H : Heap) (locs : List Loc) => match q with | (k136_9, k136_me) => lv_has ls 10 [(9, .int k136_9), (8, .int 1), (7, .int (230 + (4 * k53_6))), (5, .int k53_5), (6, .int k53_6), (0, .ref b_o), (1, .int p_1), (2, .int p_2), (3, .int p_3), (4, .int p_4)] ∧ va_P G.1 vwCl [(b_me, (arI G 1536 k136_me)), (b_o, (oc12 u_th u_sa b_rf b_ro b_im b_ke u_fd b_tp u_td u_fr u_to u_so u_wo u_fa u_bd u_nc b_nl u_co b_op b_ar u_le b_pi b_pa u_pd u_od b_ws b_hw z110 b_se b_re z111 z112 z113 z114 z115 z116 z117 z118 b_pt z119 z120 b_ip u_ic b_ah b_be b_me k53_wd b_tr b_ld u_st b_wn u_id)), (b_ro, (arI G 5740 v_ro)), (b_se, (arJ G 13 z121)), (b_re, (arJ G 400 z122)), (b_pt, (arI G 200 z123))] H ∧ va_D A [(b_me, (arI G 1536 k136_me)), (b_o, (oc12 u_th u_sa b_rf b_ro b_im b_ke u_fd b_tp u_td u_fr u_to u_so u_wo u_fa u_bd u_nc b_nl u_co b_op b_ar u_le b_pi b_pa u_pd u_od b_ws b_hw z110 b_se b_re z111 z112 z113 z114 z115 z116 z117 z118 b_pt z119 z120 b_ip u_ic b_ah b_be b_me k53_wd b_tr b_ld u_st b_wn u_id)), (b_ro, (arI G 5740 v_ro)), (b_se, (arJ G 13 z121)), (b_re, (arJ G 400 z122)), (b_pt, (arI G 200 z123))] ∧ va_S A s.heap H locs ∧ (0 ≤ k136_9.toInt ∧ k136_9.toInt ≤ 200) ∧ (MEI k136_me)) (fun (q : (Int32) × (Nat → Int32)) => match q with | (k136_9, k136_me) => Int.toNat (200 - k136_9.toInt)) (0, k53_me) ⟨lv_sub hl [0, 1, 2, 3, 4, 5, 6, 7, 8, 9] rfl, hP, hD, hS, ⟨by decide, by decide⟩, i_15⟩ ?_
          rintro ⟨k136_9, k136_me⟩ ls H locs ⟨hl, hP, hD, hS, (i_124 : 0 ≤ k136_9.toInt ∧ k136_9.toInt ≤ 200), (i_125 : MEI k136_me)⟩ ih_136_126
          replace hl : lv_has ls 10 [(9, .int k136_9), (8, .int 1), (7, .int (230 + (4 * k53_6))), (5, .int k53_5), (6, .int k53_6), (0, .ref b_o), (1, .int p_1), (2, .int p_2), (3, .int p_3), (4, .int p_4)] := hl
          refine g5_rs [(b_me, (arI G 1536 k136_me)), (b_o, (oc12 u_th u_sa b_rf b_ro b_im b_ke u_fd b_tp u_td u_fr u_to u_so u_wo u_fa u_bd u_nc b_nl u_co b_op b_ar u_le b_pi b_pa u_pd u_od b_ws b_hw z110 b_se b_re z111 z112 z113 z114 z115 z116 z117 z118 b_pt z119 z120 b_ip u_ic b_ah b_be b_me k53_wd b_tr b_ld u_st b_wn u_id)), (b_ro, (arI G 5740 v_ro)), (b_se, (arJ G 13 z121)), (b_re, (arJ G 400 z122)), (b_pt, (arI G 200 z123))] hP hD ?_
          clear hP hD
          intro hP hD
          refine lv_iload hx hb dX12_findMeets_136 (lv_at hl 0 rfl) ?_
          refine lv_aload_n hx hb dX12_findMeets_138 rfl (lv_at hl 5 rfl) ?_
          refine va_get (D := G.1) (ci := 12) (v := .int z118) (C := RX12) (T := TX12) (N := 52) hx hb hts inG_X12 hown hK hP 1 rfl rfl 37 (by decide +kernel) (hts _ fl_X12_358) (fun _ h9 => h9) rfl dX12_findMeets_139 ?_
          refine lv_icmp_ge (tgt := 180) hx hb dX12_findMeets_142 (by decide +kernel) (fun c_127 => ?_) (fun c_127 => ?_)
          ·
            have i_127 : k136_9.toInt ≥ z118.toInt := g5_ge (a := k136_9.toInt) (b := z118.toInt) rfl rfl c_127
            refine lv_aload_n hx hb dX12_findMeets_180 rfl (lv_at hl 5 rfl) ?_
            refine lv_dup hx hb dX12_findMeets_181 rfl ?_
            refine va_get (D := G.1) (ci := 12) (v := .int k53_wd) (C := RX12) (T := TX12) (N := 52) hx hb hts inG_X12 hown hK hP 1 rfl rfl 46 (by decide +kernel) (hts _ fl_X12_422) (fun _ h9 => h9) rfl dX12_findMeets_182 ?_
            refine lv_iload hx hb dX12_findMeets_185 (lv_at hl 1 rfl) ?_
            refine W.eq (g2 := F0 m 187 ls [.int 1, .int k53_wd, .ref b_o]) rfl ?_
            refine lv_if_eq (tgt := 197) hx hb dX12_findMeets_187 (by decide +kernel) (fun c_128 => ?_) (fun c_128 => ?_)
            ·
              exact absurd c_128 (by decide +kernel)
            ·
              refine lv_iconst (v := 1) hx hb dX12_findMeets_190 (by decide +kernel) ?_
              refine lv_iload hx hb dX12_findMeets_191 (lv_at hl 3 rfl) ?_
              refine lv_ishl hx hb dX12_findMeets_193 ?_
              refine lv_goto (tgt := 198) hx hb dX12_findMeets_194 (by decide +kernel) ?_
              refine W.eq (g2 := F0 m 198 ls [.int (1 <<< (k53_5 &&& 31)), .int k53_wd, .ref b_o]) rfl ?_
              refine lv_ior hx hb dX12_findMeets_198 ?_
              refine va_put (D := G.1) (ci := 12) (v := .int (k53_wd ||| (1 <<< (k53_5 &&& 31)))) (ty := .int) (C := RX12) (T := TX12) (N := 52) hx hb hts inG_X12 tyX12 tyX12_ok nmX12 hown hK hP hD hS 1 rfl rfl 46 (by decide +kernel) (hts _ fl_X12_422) (fun _ h9 => h9) rfl (by decide +kernel) rfl rfl (Nat.le_of_ble_eq_true rfl) dX12_findMeets_199 ?_
              clear hP hD hS
              intro H locs hP hD hS
              refine g5_rs [(b_me, (arI G 1536 k136_me)), (b_o, (oc12 u_th u_sa b_rf b_ro b_im b_ke u_fd b_tp u_td u_fr u_to u_so u_wo u_fa u_bd u_nc b_nl u_co b_op b_ar u_le b_pi b_pa u_pd u_od b_ws b_hw z110 b_se b_re z111 z112 z113 z114 z115 z116 z117 z118 b_pt z119 z120 b_ip u_ic b_ah b_be b_me (k53_wd ||| (1 <<< (k53_5 &&& 31))) b_tr b_ld u_st b_wn u_id)), (b_ro, (arI G 5740 v_ro)), (b_se, (arJ G 13 z121)), (b_re, (arJ G 400 z122)), (b_pt, (arI G 200 z123))] hP hD ?_
              clear hP hD
              intro hP hD
              refine lv_iload hx hb dX12_findMeets_202 (lv_at hl 3 rfl) ?_
              refine lv_iload hx hb dX12_findMeets_204 (lv_at hl 1 rfl) ?_
              refine lv_if_eq (tgt := 213) hx hb dX12_findMeets_206 (by decide +kernel) (fun c_129 => ?_) (fun c_129 => ?_)
              ·
                exact absurd c_129 (by decide +kernel)
              ·
                refine lv_iconst (v := 1) hx hb dX12_findMeets_209 (by decide +kernel) ?_
                refine lv_goto (tgt := 214) hx hb dX12_findMeets_210 (by decide +kernel) ?_
                refine lv_iadd hx hb dX12_findMeets_214 ?_
                have t_130 : (k53_5 + 1).toInt = k53_5.toInt + 1 := g5_iadd (a := k53_5.toInt) (b := 1) (by rfl) (by decide +kernel) (by omega) (by omega)
                refine lv_istore (lv' := [(5, .int (k53_5 + 1)), (9, .int k136_9), (8, .int 1), (7, .int (230 + (4 * k53_6))), (6, .int k53_6), (0, .ref b_o), (1, .int p_1), (2, .int p_2), (3, .int p_3), (4, .int p_4)]) hx hb dX12_findMeets_215 hl (by decide +kernel) rfl ?_
                clear hl
                intro ls hl
                refine W.eq (g2 := F0 m 217 ls []) rfl ?_
                refine lv_iinc (v := (k53_6 + 1)) (lv' := [(6, .int (k53_6 + 1)), (5, .int (k53_5 + 1)), (9, .int k136_9), (8, .int 1), (7, .int (230 + (4 * k53_6))), (0, .ref b_o), (1, .int p_1), (2, .int p_2), (3, .int p_3), (4, .int p_4)]) hx hb dX12_findMeets_217 hl (k := 4) rfl rfl (by decide +kernel) rfl ?_
                clear hl
                intro ls hl
                have t_131 : (k53_6 + 1).toInt = k53_6.toInt + 1 := g5_iadd (a := k53_6.toInt) (b := 1) rfl (by decide +kernel) (by omega) (by omega)
                refine lv_goto (tgt := 53) hx hb dX12_findMeets_220 (by decide +kernel) ?_
                exact ih_53_17 ((k53_6 + 1), (k53_5 + 1), z110, z111, z112, z113, z114, z115, z116, z117, z118, z119, z120, (k53_wd ||| (1 <<< (k53_5 &&& 31))), z121, z122, z123, k136_me) ls H locs (show Int.toNat (10 - (k53_6 + 1).toInt) < Int.toNat (10 - k53_6.toInt) from g_up (show k53_6.toInt < (k53_6 + 1).toInt by omega) (show k53_6.toInt < 10 by omega)) ⟨lv_sub hl [1, 0, 5, 6, 7, 8, 9] rfl, hP.sub [1, 2, 3, 4, 5, 0] rfl, hD.sub [1, 2, 3, 4, 5, 0] (by decide +kernel) rfl, hS, ⟨by omega, by omega⟩, ⟨by omega, by omega⟩, i_102, i_103, i_104, i_105, i_106, i_107, i_108, i_109, i_125, mn_go (x := ((230 + (4 * k53_6)) + 3)) i_16 (by omega) (by omega) (by omega) (by omega) (by omega) (by omega)⟩
          ·
            have i_127 : k136_9.toInt < z118.toInt := g5_geN (a := k136_9.toInt) (b := z118.toInt) rfl rfl c_127
            refine lv_aload_n hx hb dX12_findMeets_145 rfl (lv_at hl 5 rfl) ?_
            refine va_get (D := G.1) (ci := 12) (v := .ref b_me) (C := RX12) (T := TX12) (N := 52) hx hb hts inG_X12 hown hK hP 1 rfl rfl 45 (by decide +kernel) (hts _ fl_X12_95) (fun _ h9 => h9) rfl dX12_findMeets_146 ?_
            refine lv_aload_n hx hb dX12_findMeets_149 rfl (lv_at hl 5 rfl) ?_
            refine va_get (D := G.1) (ci := 12) (v := .ref b_pt) (C := RX12) (T := TX12) (N := 52) hx hb hts inG_X12 hown hK hP 1 rfl rfl 38 (by decide +kernel) (hts _ fl_X12_82) (fun _ h9 => h9) rfl dX12_findMeets_150 ?_
            refine W.eq (g2 := F0 m 153 ls [.ref b_pt, .ref b_me]) rfl ?_
            refine lv_iload hx hb dX12_findMeets_153 (lv_at hl 0 rfl) ?_
            refine va_iald hx hb hK hP 5 0 rfl rfl (i := k136_9) (vp_in_iff.mpr ⟨by omega, by omega⟩) dX12_findMeets_155 ?_
            have hr_132 : 0 ≤ (z123 k136_9.toNatClampNeg).toInt ∧ (z123 k136_9.toNatClampNeg).toInt ≤ 1535 := i_109 (k136_9.toNatClampNeg)
            refine lv_dup2_11 hx hb dX12_findMeets_156 rfl rfl ?_
            refine va_iald hx hb hK hP 0 0 rfl rfl (i := (z123 k136_9.toNatClampNeg)) (vp_in_iff.mpr ⟨by omega, by omega⟩) dX12_findMeets_157 ?_
            have hr_133 : 0 ≤ (k136_me (z123 k136_9.toNatClampNeg).toNatClampNeg).toInt ∧ ((k136_me (z123 k136_9.toNatClampNeg).toNatClampNeg).toInt < 32 ∨ 64 ≤ (k136_me (z123 k136_9.toNatClampNeg).toNatClampNeg).toInt) ∧ (k136_me (z123 k136_9.toNatClampNeg).toNatClampNeg).toInt ≤ 127 := i_125 ((z123 k136_9.toNatClampNeg).toNatClampNeg)
            refine lv_iload hx hb dX12_findMeets_158 (lv_at hl 1 rfl) ?_
            refine W.eq (g2 := F0 m 160 ls [.int 1, .int (k136_me (z123 k136_9.toNatClampNeg).toNatClampNeg), .int (z123 k136_9.toNatClampNeg), .ref b_me]) rfl ?_
            refine lv_if_eq (tgt := 170) hx hb dX12_findMeets_160 (by decide +kernel) (fun c_134 => ?_) (fun c_134 => ?_)
            ·
              exact absurd c_134 (by decide +kernel)
            ·
              refine lv_iconst (v := 1) hx hb dX12_findMeets_163 (by decide +kernel) ?_
              refine lv_iload hx hb dX12_findMeets_164 (lv_at hl 3 rfl) ?_
              refine lv_ishl hx hb dX12_findMeets_166 ?_
              refine lv_goto (tgt := 172) hx hb dX12_findMeets_167 (by decide +kernel) ?_
              refine W.eq (g2 := F0 m 172 ls [.int (1 <<< (k53_5 &&& 31)), .int (k136_me (z123 k136_9.toNatClampNeg).toNatClampNeg), .int (z123 k136_9.toNatClampNeg), .ref b_me]) rfl ?_
              refine lv_ior hx hb dX12_findMeets_172 ?_
              refine va_iast hx hb hK hP hD hS 0 0 rfl rfl (i := (z123 k136_9.toNatClampNeg)) (x := ((k136_me (z123 k136_9.toNatClampNeg).toNatClampNeg) ||| (1 <<< (k53_5 &&& 31)))) (vp_in_iff.mpr ⟨by omega, by omega⟩) dX12_findMeets_173 ?_
              clear hP hD hS
              intro H locs hP hD hS
              refine g5_rs [(b_me, (arI G 1536 (upd k136_me (z123 k136_9.toNatClampNeg).toNatClampNeg ((k136_me (z123 k136_9.toNatClampNeg).toNatClampNeg) ||| (1 <<< (k53_5 &&& 31)))))), (b_o, (oc12 u_th u_sa b_rf b_ro b_im b_ke u_fd b_tp u_td u_fr u_to u_so u_wo u_fa u_bd u_nc b_nl u_co b_op b_ar u_le b_pi b_pa u_pd u_od b_ws b_hw z110 b_se b_re z111 z112 z113 z114 z115 z116 z117 z118 b_pt z119 z120 b_ip u_ic b_ah b_be b_me k53_wd b_tr b_ld u_st b_wn u_id)), (b_ro, (arI G 5740 v_ro)), (b_se, (arJ G 13 z121)), (b_re, (arJ G 400 z122)), (b_pt, (arI G 200 z123))] hP hD ?_
              clear hP hD
              intro hP hD
              refine lv_iinc (v := (k136_9 + 1)) (lv' := [(9, .int (k136_9 + 1)), (8, .int 1), (7, .int (230 + (4 * k53_6))), (5, .int k53_5), (6, .int k53_6), (0, .ref b_o), (1, .int p_1), (2, .int p_2), (3, .int p_3), (4, .int p_4)]) hx hb dX12_findMeets_174 hl (k := 0) rfl rfl (by decide +kernel) rfl ?_
              clear hl
              intro ls hl
              have t_135 : (k136_9 + 1).toInt = k136_9.toInt + 1 := g5_iadd (a := k136_9.toInt) (b := 1) rfl (by decide +kernel) (by omega) (by omega)
              refine lv_goto (tgt := 136) hx hb dX12_findMeets_177 (by decide +kernel) ?_
              exact ih_136_126 ((k136_9 + 1), (upd k136_me (z123 k136_9.toNatClampNeg).toNatClampNeg ((k136_me (z123 k136_9.toNatClampNeg).toNatClampNeg) ||| (1 <<< (k53_5 &&& 31))))) ls H locs (show Int.toNat (200 - (k136_9 + 1).toInt) < Int.toNat (200 - k136_9.toInt) from g_up (show k136_9.toInt < (k136_9 + 1).toInt by omega) (show k136_9.toInt < 200 by omega)) ⟨lv_sub hl [0, 1, 2, 3, 4, 5, 6, 7, 8, 9] rfl, hP, hD, hS, ⟨by omega, by omega⟩, me_upd i_125 (me_or1 (i_125 _) (by omega))⟩
  ·
    have i_4 : k11_6.toInt < 1536 := g5_geN (a := k11_6.toInt) (b := 1536) rfl (by decide +kernel) c_4
    refine lv_aload_n hx hb dX12_findMeets_19 rfl (lv_at hl 2 rfl) ?_
    refine va_get (D := G.1) (ci := 12) (v := .ref b_me) (C := RX12) (T := TX12) (N := 52) hx hb hts inG_X12 hown hK hP 0 rfl rfl 45 (by decide +kernel) (hts _ fl_X12_95) (fun _ h9 => h9) rfl dX12_findMeets_20 ?_
    refine lv_iload hx hb dX12_findMeets_23 (lv_at hl 0 rfl) ?_
    refine lv_aload_n hx hb dX12_findMeets_25 rfl (lv_at hl 2 rfl) ?_
    refine W.eq (g2 := F0 m 26 ls [.ref b_o, .int k11_6, .ref b_me]) rfl ?_
    refine lv_iload hx hb dX12_findMeets_26 (lv_at hl 0 rfl) ?_
    refine lv_bipush (v := 64) hx hb dX12_findMeets_28 (by decide +kernel) ?_
    refine lv_irem hx hb dX12_findMeets_30 (by decide +kernel) ?_
    have t_136 : (k11_6 - k11_6 / 64 * 64).toInt = k11_6.toInt % 64 := g5_irem (a := k11_6.toInt) (b := 64) rfl (by decide +kernel) (by omega) (by decide +kernel)
    obtain ⟨hPc, hDc, hFc⟩ := g5_sub3 (wc := [(b_o, (oc12 u_th u_sa b_rf b_ro b_im b_ke u_fd b_tp u_td u_fr u_to u_so u_wo u_fa u_bd u_nc b_nl u_co b_op b_ar u_le b_pi b_pa u_pd u_od b_ws b_hw u_la b_se b_re u_bk u_va u_su u_ce u_ho u_wy u_bt u_ps b_pt u_tg u_sn b_ip u_ic b_ah b_be b_me 0 b_tr b_ld u_st b_wn u_id)), (b_ro, (arI G 5740 v_ro))]) hP hD hS hA [0, 1] (by decide +kernel) rfl
    refine va_calli (va_runV (As := [.int (k11_6 - k11_6 / 64 * 64)]) (rest := [.int k11_6, .ref b_me]) ⟨hx, hb, hml, hown, hts⟩ (n_isWall l G b_o b_ro b_rf b_im b_ke b_tp b_nl b_op b_ar b_pi b_pa b_ws b_hw b_se b_re b_pt b_ip b_ah b_be b_me b_tr b_ld b_wn H.size u_th u_sa u_fd u_td u_fr u_to u_so u_fa u_bd u_nc u_co u_le u_pd u_od u_la u_bk u_ce u_ho u_wy u_bt u_ps u_tg u_sn u_ic 0 u_id (k11_6 - k11_6 / 64 * 64) u_wo u_va u_su u_st v_ro h_u_td h_u_fr h_u_to h_u_bd h_u_nc h_u_co h_u_pd h_u_la h_u_bk h_u_ce h_u_ho h_u_wy h_u_bt h_u_ps h_u_ic h_u_id ⟨by omega, by omega⟩ (r_ro)) (cwV 1 hts gV_X12_160 rfl rfl rfl hv_X12_isWall ⟨Nat.le_of_ble_eq_true rfl, Nat.le_of_ble_eq_true rfl⟩) (g5_preV hPc hK hDc hN hT hS hFc (ci := 12) (q0 := 0) rfl rfl) rfl rfl hl.1 rfl (lv_room (Nat.le_of_ble_eq_true rfl)) dX12_findMeets_31 ⟨Nat.le_of_ble_eq_true rfl, Nat.le_of_ble_eq_true rfl⟩) hS (fun q _ h => hFc q h) hFc (fun r u t H locs ht hvm hw hB hz1 hk1 hS => ?_)
    obtain ⟨hP1, hD1⟩ := hB
    have hP1 := g5_ht ht hP1
    obtain ⟨z138, (i_137 : 0 ≤ z138.toInt ∧ z138.toInt ≤ 1), y139, rfl⟩ := hw
    have hJ9 := va_join (wr := [(b_se, (arJ G 13 v_se)), (b_re, (arJ G 400 v_re)), (b_pt, (arI G 200 v_pt)), (b_me, (arI G 1536 k11_me))]) hP hD [0, 1] [2, 3, 4, 5] rfl rfl (by decide +kernel) (by decide +kernel) hk1 hFc hP1 hD1
    clear hP hD hPc hDc hFc ht hvm hz1 hk1 hP1 hD1
    obtain ⟨hP, hD⟩ := hJ9
    refine g5_rs [(b_se, (arJ G 13 v_se)), (b_re, (arJ G 400 v_re)), (b_pt, (arI G 200 v_pt)), (b_me, (arI G 1536 k11_me)), (b_o, (oc12 u_th u_sa b_rf b_ro b_im b_ke u_fd b_tp u_td u_fr u_to u_so u_wo u_fa u_bd u_nc b_nl u_co b_op b_ar u_le b_pi b_pa u_pd u_od b_ws b_hw u_la b_se b_re u_bk u_va u_su u_ce u_ho u_wy u_bt u_ps b_pt u_tg u_sn b_ip u_ic b_ah b_be b_me 0 b_tr b_ld u_st b_wn u_id)), (b_ro, (arI G 5740 v_ro))] hP hD ?_
    clear hP hD
    intro hP hD
    refine g5_ti (v := z138) y139 ?_
    refine lv_if_eq (tgt := 42) hx hb dX12_findMeets_34 (by decide +kernel) (fun c_140 => ?_) (fun c_140 => ?_)
    ·
      have i_140 : z138.toInt = 0 := g5_eq (a := z138.toInt) (b := 0) rfl (by decide +kernel) c_140
      refine lv_iconst (v := 0) hx hb dX12_findMeets_42 (by decide +kernel) ?_
      refine va_iast hx hb hK hP hD hS 3 0 rfl rfl (i := k11_6) (x := 0) (vp_in_iff.mpr ⟨by omega, by omega⟩) dX12_findMeets_43 ?_
      clear hP hD hS
      intro H locs hP hD hS
      refine g5_rs [(b_se, (arJ G 13 v_se)), (b_re, (arJ G 400 v_re)), (b_pt, (arI G 200 v_pt)), (b_me, (arI G 1536 (upd k11_me k11_6.toNatClampNeg 0))), (b_o, (oc12 u_th u_sa b_rf b_ro b_im b_ke u_fd b_tp u_td u_fr u_to u_so u_wo u_fa u_bd u_nc b_nl u_co b_op b_ar u_le b_pi b_pa u_pd u_od b_ws b_hw u_la b_se b_re u_bk u_va u_su u_ce u_ho u_wy u_bt u_ps b_pt u_tg u_sn b_ip u_ic b_ah b_be b_me 0 b_tr b_ld u_st b_wn u_id)), (b_ro, (arI G 5740 v_ro))] hP hD ?_
      clear hP hD
      intro hP hD
      refine lv_iinc (v := (k11_6 + 1)) (lv' := [(6, .int (k11_6 + 1)), (5, .int 0), (0, .ref b_o), (1, .int p_1), (2, .int p_2), (3, .int p_3), (4, .int p_4)]) hx hb dX12_findMeets_44 hl (k := 0) rfl rfl (by decide +kernel) rfl ?_
      clear hl
      intro ls hl
      have t_141 : (k11_6 + 1).toInt = k11_6.toInt + 1 := g5_iadd (a := k11_6.toInt) (b := 1) rfl (by decide +kernel) (by omega) (by omega)
      refine lv_goto (tgt := 11) hx hb dX12_findMeets_47 (by decide +kernel) ?_
      exact ih_11_3 ((k11_6 + 1), (upd k11_me k11_6.toNatClampNeg 0)) ls H locs (show Int.toNat (1536 - (k11_6 + 1).toInt) < Int.toNat (1536 - k11_6.toInt) from g_up (show k11_6.toInt < (k11_6 + 1).toInt by omega) (show k11_6.toInt < 1536 by omega)) ⟨lv_sub hl [0, 1, 2, 3, 4, 5, 6] rfl, hP.sub [4, 5, 0, 1, 2, 3] rfl, hD.sub [4, 5, 0, 1, 2, 3] (by decide +kernel) rfl, hS, ⟨by omega, by omega⟩, me_upd i_2 (by decide +kernel)⟩
    ·
      have n_140 : gNe (z138.toInt) (0) := g5_eqN (a := z138.toInt) (b := 0) rfl (by decide +kernel) c_140
      have i_140 : z138.toInt ≥ 1 := by have z := g5_eqN (a := z138.toInt) (b := 0) (by rfl) (by decide +kernel) c_140; omega
      refine lv_bipush (v := 64) hx hb dX12_findMeets_37 (by decide +kernel) ?_
      refine lv_goto (tgt := 43) hx hb dX12_findMeets_39 (by decide +kernel) ?_
      refine va_iast hx hb hK hP hD hS 3 0 rfl rfl (i := k11_6) (x := 64) (vp_in_iff.mpr ⟨by omega, by omega⟩) dX12_findMeets_43 ?_
      clear hP hD hS
      intro H locs hP hD hS
      refine g5_rs [(b_se, (arJ G 13 v_se)), (b_re, (arJ G 400 v_re)), (b_pt, (arI G 200 v_pt)), (b_me, (arI G 1536 (upd k11_me k11_6.toNatClampNeg 64))), (b_o, (oc12 u_th u_sa b_rf b_ro b_im b_ke u_fd b_tp u_td u_fr u_to u_so u_wo u_fa u_bd u_nc b_nl u_co b_op b_ar u_le b_pi b_pa u_pd u_od b_ws b_hw u_la b_se b_re u_bk u_va u_su u_ce u_ho u_wy u_bt u_ps b_pt u_tg u_sn b_ip u_ic b_ah b_be b_me 0 b_tr b_ld u_st b_wn u_id)), (b_ro, (arI G 5740 v_ro))] hP hD ?_
      clear hP hD
      intro hP hD
      refine lv_iinc (v := (k11_6 + 1)) (lv' := [(6, .int (k11_6 + 1)), (5, .int 0), (0, .ref b_o), (1, .int p_1), (2, .int p_2), (3, .int p_3), (4, .int p_4)]) hx hb dX12_findMeets_44 hl (k := 0) rfl rfl (by decide +kernel) rfl ?_
      clear hl
      intro ls hl
      have t_142 : (k11_6 + 1).toInt = k11_6.toInt + 1 := g5_iadd (a := k11_6.toInt) (b := 1) rfl (by decide +kernel) (by omega) (by omega)
      refine W.eq (g2 := F0 m 47 ls []) rfl ?_
      refine lv_goto (tgt := 11) hx hb dX12_findMeets_47 (by decide +kernel) ?_
      exact ih_11_3 ((k11_6 + 1), (upd k11_me k11_6.toNatClampNeg 64)) ls H locs (show Int.toNat (1536 - (k11_6 + 1).toInt) < Int.toNat (1536 - k11_6.toInt) from g_up (show k11_6.toInt < (k11_6 + 1).toInt by omega) (show k11_6.toInt < 1536 by omega)) ⟨lv_sub hl [0, 1, 2, 3, 4, 5, 6] rfl, hP.sub [4, 5, 0, 1, 2, 3] rfl, hD.sub [4, 5, 0, 1, 2, 3] (by decide +kernel) rfl, hS, ⟨by omega, by omega⟩, me_upd i_2 (by decide +kernel)⟩
theorem dgX12_countFor_0 : ∀ r ∈ ([(0, (.aload_n 0, 1)), (1, (.iconst 0, 1)), (2, (.putfield 113, 3)), (5, (.aload_n 0, 1)), (6, (.iload_n 1, 1)), (7, (.iload_n 2, 1)), (8, (.iload_n 3, 1)), (9, (.iload 4, 2)), (11, (.invokevirtual 428, 3)), (14, (.iconst 0, 1)), (15, (.istore 5, 2)), (17, (.iload 5, 2)), (19, (.ldc 88, 2)), (21, (.if_icmp .ge 25, 3)), (24, (.aload_n 0, 1)), (25, (.getfield 89, 3)), (28, (.iload 5, 2)), (30, (.lconst 0, 1)), (31, (.lastore, 1)), (32, (.aload_n 0, 1)), (33, (.getfield 92, 3)), (36, (.iload 5, 2)), (38, (.lconst 0, 1)), (39, (.lastore, 1)), (40, (.iinc 5 1, 3)), (43, (.goto (-26), 3)), (46, (.iconst 0, 1)), (47, (.istore 5, 2)), (49, (.iload 5, 2)), (51, (.bipush 64, 2)), (53, (.if_icmp .ge 110, 3)), (56, (.aload_n 0, 1)), (57, (.getfield 95, 3)), (60, (.iload 5, 2)), (62, (.iaload, 1)), (63, (.bipush 64, 2)), (65, (.if_icmp .ge 45, 3)), (68, (.aload_n 0, 1)), (69, (.getfield 13, 3)), (72, (.bipush 6, 2))] : List (Nat × (Instr × Nat))), decode cX12_countFor r.1 = .ok r.2 := by decide +kernel
theorem dX12_countFor_0 : decode cX12_countFor 0 = .ok (.aload_n 0, 1) := dgX12_countFor_0 (0, (.aload_n 0, 1)) (List.mem_of_getElem? (i := 0) rfl)
theorem dX12_countFor_1 : decode cX12_countFor 1 = .ok (.iconst 0, 1) := dgX12_countFor_0 (1, (.iconst 0, 1)) (List.mem_of_getElem? (i := 1) rfl)
theorem dX12_countFor_2 : decode cX12_countFor 2 = .ok (.putfield 113, 3) := dgX12_countFor_0 (2, (.putfield 113, 3)) (List.mem_of_getElem? (i := 2) rfl)
theorem dX12_countFor_5 : decode cX12_countFor 5 = .ok (.aload_n 0, 1) := dgX12_countFor_0 (5, (.aload_n 0, 1)) (List.mem_of_getElem? (i := 3) rfl)
theorem dX12_countFor_6 : decode cX12_countFor 6 = .ok (.iload_n 1, 1) := dgX12_countFor_0 (6, (.iload_n 1, 1)) (List.mem_of_getElem? (i := 4) rfl)
theorem dX12_countFor_7 : decode cX12_countFor 7 = .ok (.iload_n 2, 1) := dgX12_countFor_0 (7, (.iload_n 2, 1)) (List.mem_of_getElem? (i := 5) rfl)
theorem dX12_countFor_8 : decode cX12_countFor 8 = .ok (.iload_n 3, 1) := dgX12_countFor_0 (8, (.iload_n 3, 1)) (List.mem_of_getElem? (i := 6) rfl)
theorem dX12_countFor_9 : decode cX12_countFor 9 = .ok (.iload 4, 2) := dgX12_countFor_0 (9, (.iload 4, 2)) (List.mem_of_getElem? (i := 7) rfl)
theorem dX12_countFor_11 : decode cX12_countFor 11 = .ok (.invokevirtual 428, 3) := dgX12_countFor_0 (11, (.invokevirtual 428, 3)) (List.mem_of_getElem? (i := 8) rfl)
theorem dX12_countFor_14 : decode cX12_countFor 14 = .ok (.iconst 0, 1) := dgX12_countFor_0 (14, (.iconst 0, 1)) (List.mem_of_getElem? (i := 9) rfl)
theorem dX12_countFor_15 : decode cX12_countFor 15 = .ok (.istore 5, 2) := dgX12_countFor_0 (15, (.istore 5, 2)) (List.mem_of_getElem? (i := 10) rfl)
theorem dX12_countFor_17 : decode cX12_countFor 17 = .ok (.iload 5, 2) := dgX12_countFor_0 (17, (.iload 5, 2)) (List.mem_of_getElem? (i := 11) rfl)
theorem dX12_countFor_19 : decode cX12_countFor 19 = .ok (.ldc 88, 2) := dgX12_countFor_0 (19, (.ldc 88, 2)) (List.mem_of_getElem? (i := 12) rfl)
theorem dX12_countFor_21 : decode cX12_countFor 21 = .ok (.if_icmp .ge 25, 3) := dgX12_countFor_0 (21, (.if_icmp .ge 25, 3)) (List.mem_of_getElem? (i := 13) rfl)
theorem dX12_countFor_24 : decode cX12_countFor 24 = .ok (.aload_n 0, 1) := dgX12_countFor_0 (24, (.aload_n 0, 1)) (List.mem_of_getElem? (i := 14) rfl)
theorem dX12_countFor_25 : decode cX12_countFor 25 = .ok (.getfield 89, 3) := dgX12_countFor_0 (25, (.getfield 89, 3)) (List.mem_of_getElem? (i := 15) rfl)
theorem dX12_countFor_28 : decode cX12_countFor 28 = .ok (.iload 5, 2) := dgX12_countFor_0 (28, (.iload 5, 2)) (List.mem_of_getElem? (i := 16) rfl)
theorem dX12_countFor_30 : decode cX12_countFor 30 = .ok (.lconst 0, 1) := dgX12_countFor_0 (30, (.lconst 0, 1)) (List.mem_of_getElem? (i := 17) rfl)
theorem dX12_countFor_31 : decode cX12_countFor 31 = .ok (.lastore, 1) := dgX12_countFor_0 (31, (.lastore, 1)) (List.mem_of_getElem? (i := 18) rfl)
theorem dX12_countFor_32 : decode cX12_countFor 32 = .ok (.aload_n 0, 1) := dgX12_countFor_0 (32, (.aload_n 0, 1)) (List.mem_of_getElem? (i := 19) rfl)
theorem dX12_countFor_33 : decode cX12_countFor 33 = .ok (.getfield 92, 3) := dgX12_countFor_0 (33, (.getfield 92, 3)) (List.mem_of_getElem? (i := 20) rfl)
theorem dX12_countFor_36 : decode cX12_countFor 36 = .ok (.iload 5, 2) := dgX12_countFor_0 (36, (.iload 5, 2)) (List.mem_of_getElem? (i := 21) rfl)
theorem dX12_countFor_38 : decode cX12_countFor 38 = .ok (.lconst 0, 1) := dgX12_countFor_0 (38, (.lconst 0, 1)) (List.mem_of_getElem? (i := 22) rfl)
theorem dX12_countFor_39 : decode cX12_countFor 39 = .ok (.lastore, 1) := dgX12_countFor_0 (39, (.lastore, 1)) (List.mem_of_getElem? (i := 23) rfl)
theorem dX12_countFor_40 : decode cX12_countFor 40 = .ok (.iinc 5 1, 3) := dgX12_countFor_0 (40, (.iinc 5 1, 3)) (List.mem_of_getElem? (i := 24) rfl)
theorem dX12_countFor_43 : decode cX12_countFor 43 = .ok (.goto (-26), 3) := dgX12_countFor_0 (43, (.goto (-26), 3)) (List.mem_of_getElem? (i := 25) rfl)
theorem dX12_countFor_46 : decode cX12_countFor 46 = .ok (.iconst 0, 1) := dgX12_countFor_0 (46, (.iconst 0, 1)) (List.mem_of_getElem? (i := 26) rfl)
theorem dX12_countFor_47 : decode cX12_countFor 47 = .ok (.istore 5, 2) := dgX12_countFor_0 (47, (.istore 5, 2)) (List.mem_of_getElem? (i := 27) rfl)
theorem dX12_countFor_49 : decode cX12_countFor 49 = .ok (.iload 5, 2) := dgX12_countFor_0 (49, (.iload 5, 2)) (List.mem_of_getElem? (i := 28) rfl)
theorem dX12_countFor_51 : decode cX12_countFor 51 = .ok (.bipush 64, 2) := dgX12_countFor_0 (51, (.bipush 64, 2)) (List.mem_of_getElem? (i := 29) rfl)
theorem dX12_countFor_53 : decode cX12_countFor 53 = .ok (.if_icmp .ge 110, 3) := dgX12_countFor_0 (53, (.if_icmp .ge 110, 3)) (List.mem_of_getElem? (i := 30) rfl)
theorem dX12_countFor_56 : decode cX12_countFor 56 = .ok (.aload_n 0, 1) := dgX12_countFor_0 (56, (.aload_n 0, 1)) (List.mem_of_getElem? (i := 31) rfl)
theorem dX12_countFor_57 : decode cX12_countFor 57 = .ok (.getfield 95, 3) := dgX12_countFor_0 (57, (.getfield 95, 3)) (List.mem_of_getElem? (i := 32) rfl)
theorem dX12_countFor_60 : decode cX12_countFor 60 = .ok (.iload 5, 2) := dgX12_countFor_0 (60, (.iload 5, 2)) (List.mem_of_getElem? (i := 33) rfl)
theorem dX12_countFor_62 : decode cX12_countFor 62 = .ok (.iaload, 1) := dgX12_countFor_0 (62, (.iaload, 1)) (List.mem_of_getElem? (i := 34) rfl)
theorem dX12_countFor_63 : decode cX12_countFor 63 = .ok (.bipush 64, 2) := dgX12_countFor_0 (63, (.bipush 64, 2)) (List.mem_of_getElem? (i := 35) rfl)
theorem dX12_countFor_65 : decode cX12_countFor 65 = .ok (.if_icmp .ge 45, 3) := dgX12_countFor_0 (65, (.if_icmp .ge 45, 3)) (List.mem_of_getElem? (i := 36) rfl)
theorem dX12_countFor_68 : decode cX12_countFor 68 = .ok (.aload_n 0, 1) := dgX12_countFor_0 (68, (.aload_n 0, 1)) (List.mem_of_getElem? (i := 37) rfl)
theorem dX12_countFor_69 : decode cX12_countFor 69 = .ok (.getfield 13, 3) := dgX12_countFor_0 (69, (.getfield 13, 3)) (List.mem_of_getElem? (i := 38) rfl)
theorem dX12_countFor_72 : decode cX12_countFor 72 = .ok (.bipush 6, 2) := dgX12_countFor_0 (72, (.bipush 6, 2)) (List.mem_of_getElem? (i := 39) rfl)
theorem dgX12_countFor_1 : ∀ r ∈ ([(74, (.iaload, 1)), (75, (.iconst (-1), 1)), (76, (.if_icmp .eq 15, 3)), (79, (.aload_n 0, 1)), (80, (.getfield 13, 3)), (83, (.bipush 6, 2)), (85, (.iaload, 1)), (86, (.iload 5, 2)), (88, (.if_icmp .ne 22, 3)), (91, (.aload_n 0, 1)), (92, (.getfield 89, 3)), (95, (.bipush 32, 2)), (97, (.iload 5, 2)), (99, (.imul, 1)), (100, (.aload_n 0, 1)), (101, (.getfield 95, 3)), (104, (.iload 5, 2)), (106, (.iaload, 1)), (107, (.iadd, 1)), (108, (.lconst 1, 1)), (109, (.lastore, 1)), (110, (.iconst 0, 1)), (111, (.istore 6, 2)), (113, (.iload 6, 2)), (115, (.bipush 32, 2)), (117, (.if_icmp .ge 40, 3)), (120, (.aload_n 0, 1)), (121, (.getfield 92, 3)), (124, (.bipush 32, 2)), (126, (.sipush 1472, 3)), (129, (.iload 5, 2)), (131, (.iadd, 1)), (132, (.imul, 1)), (133, (.iload 6, 2)), (135, (.iadd, 1)), (136, (.iload 6, 2)), (138, (.aload_n 0, 1)), (139, (.getfield 422, 3)), (142, (.if_icmp .ne 7, 3)), (145, (.lconst 1, 1))] : List (Nat × (Instr × Nat))), decode cX12_countFor r.1 = .ok r.2 := by decide +kernel
theorem dX12_countFor_74 : decode cX12_countFor 74 = .ok (.iaload, 1) := dgX12_countFor_1 (74, (.iaload, 1)) (List.mem_of_getElem? (i := 0) rfl)
theorem dX12_countFor_75 : decode cX12_countFor 75 = .ok (.iconst (-1), 1) := dgX12_countFor_1 (75, (.iconst (-1), 1)) (List.mem_of_getElem? (i := 1) rfl)
theorem dX12_countFor_76 : decode cX12_countFor 76 = .ok (.if_icmp .eq 15, 3) := dgX12_countFor_1 (76, (.if_icmp .eq 15, 3)) (List.mem_of_getElem? (i := 2) rfl)
theorem dX12_countFor_79 : decode cX12_countFor 79 = .ok (.aload_n 0, 1) := dgX12_countFor_1 (79, (.aload_n 0, 1)) (List.mem_of_getElem? (i := 3) rfl)
theorem dX12_countFor_80 : decode cX12_countFor 80 = .ok (.getfield 13, 3) := dgX12_countFor_1 (80, (.getfield 13, 3)) (List.mem_of_getElem? (i := 4) rfl)
theorem dX12_countFor_83 : decode cX12_countFor 83 = .ok (.bipush 6, 2) := dgX12_countFor_1 (83, (.bipush 6, 2)) (List.mem_of_getElem? (i := 5) rfl)
theorem dX12_countFor_85 : decode cX12_countFor 85 = .ok (.iaload, 1) := dgX12_countFor_1 (85, (.iaload, 1)) (List.mem_of_getElem? (i := 6) rfl)
theorem dX12_countFor_86 : decode cX12_countFor 86 = .ok (.iload 5, 2) := dgX12_countFor_1 (86, (.iload 5, 2)) (List.mem_of_getElem? (i := 7) rfl)
theorem dX12_countFor_88 : decode cX12_countFor 88 = .ok (.if_icmp .ne 22, 3) := dgX12_countFor_1 (88, (.if_icmp .ne 22, 3)) (List.mem_of_getElem? (i := 8) rfl)
theorem dX12_countFor_91 : decode cX12_countFor 91 = .ok (.aload_n 0, 1) := dgX12_countFor_1 (91, (.aload_n 0, 1)) (List.mem_of_getElem? (i := 9) rfl)
theorem dX12_countFor_92 : decode cX12_countFor 92 = .ok (.getfield 89, 3) := dgX12_countFor_1 (92, (.getfield 89, 3)) (List.mem_of_getElem? (i := 10) rfl)
theorem dX12_countFor_95 : decode cX12_countFor 95 = .ok (.bipush 32, 2) := dgX12_countFor_1 (95, (.bipush 32, 2)) (List.mem_of_getElem? (i := 11) rfl)
theorem dX12_countFor_97 : decode cX12_countFor 97 = .ok (.iload 5, 2) := dgX12_countFor_1 (97, (.iload 5, 2)) (List.mem_of_getElem? (i := 12) rfl)
theorem dX12_countFor_99 : decode cX12_countFor 99 = .ok (.imul, 1) := dgX12_countFor_1 (99, (.imul, 1)) (List.mem_of_getElem? (i := 13) rfl)
theorem dX12_countFor_100 : decode cX12_countFor 100 = .ok (.aload_n 0, 1) := dgX12_countFor_1 (100, (.aload_n 0, 1)) (List.mem_of_getElem? (i := 14) rfl)
theorem dX12_countFor_101 : decode cX12_countFor 101 = .ok (.getfield 95, 3) := dgX12_countFor_1 (101, (.getfield 95, 3)) (List.mem_of_getElem? (i := 15) rfl)
theorem dX12_countFor_104 : decode cX12_countFor 104 = .ok (.iload 5, 2) := dgX12_countFor_1 (104, (.iload 5, 2)) (List.mem_of_getElem? (i := 16) rfl)
theorem dX12_countFor_106 : decode cX12_countFor 106 = .ok (.iaload, 1) := dgX12_countFor_1 (106, (.iaload, 1)) (List.mem_of_getElem? (i := 17) rfl)
theorem dX12_countFor_107 : decode cX12_countFor 107 = .ok (.iadd, 1) := dgX12_countFor_1 (107, (.iadd, 1)) (List.mem_of_getElem? (i := 18) rfl)
theorem dX12_countFor_108 : decode cX12_countFor 108 = .ok (.lconst 1, 1) := dgX12_countFor_1 (108, (.lconst 1, 1)) (List.mem_of_getElem? (i := 19) rfl)
theorem dX12_countFor_109 : decode cX12_countFor 109 = .ok (.lastore, 1) := dgX12_countFor_1 (109, (.lastore, 1)) (List.mem_of_getElem? (i := 20) rfl)
theorem dX12_countFor_110 : decode cX12_countFor 110 = .ok (.iconst 0, 1) := dgX12_countFor_1 (110, (.iconst 0, 1)) (List.mem_of_getElem? (i := 21) rfl)
theorem dX12_countFor_111 : decode cX12_countFor 111 = .ok (.istore 6, 2) := dgX12_countFor_1 (111, (.istore 6, 2)) (List.mem_of_getElem? (i := 22) rfl)
theorem dX12_countFor_113 : decode cX12_countFor 113 = .ok (.iload 6, 2) := dgX12_countFor_1 (113, (.iload 6, 2)) (List.mem_of_getElem? (i := 23) rfl)
theorem dX12_countFor_115 : decode cX12_countFor 115 = .ok (.bipush 32, 2) := dgX12_countFor_1 (115, (.bipush 32, 2)) (List.mem_of_getElem? (i := 24) rfl)
theorem dX12_countFor_117 : decode cX12_countFor 117 = .ok (.if_icmp .ge 40, 3) := dgX12_countFor_1 (117, (.if_icmp .ge 40, 3)) (List.mem_of_getElem? (i := 25) rfl)
theorem dX12_countFor_120 : decode cX12_countFor 120 = .ok (.aload_n 0, 1) := dgX12_countFor_1 (120, (.aload_n 0, 1)) (List.mem_of_getElem? (i := 26) rfl)
theorem dX12_countFor_121 : decode cX12_countFor 121 = .ok (.getfield 92, 3) := dgX12_countFor_1 (121, (.getfield 92, 3)) (List.mem_of_getElem? (i := 27) rfl)
theorem dX12_countFor_124 : decode cX12_countFor 124 = .ok (.bipush 32, 2) := dgX12_countFor_1 (124, (.bipush 32, 2)) (List.mem_of_getElem? (i := 28) rfl)
theorem dX12_countFor_126 : decode cX12_countFor 126 = .ok (.sipush 1472, 3) := dgX12_countFor_1 (126, (.sipush 1472, 3)) (List.mem_of_getElem? (i := 29) rfl)
theorem dX12_countFor_129 : decode cX12_countFor 129 = .ok (.iload 5, 2) := dgX12_countFor_1 (129, (.iload 5, 2)) (List.mem_of_getElem? (i := 30) rfl)
theorem dX12_countFor_131 : decode cX12_countFor 131 = .ok (.iadd, 1) := dgX12_countFor_1 (131, (.iadd, 1)) (List.mem_of_getElem? (i := 31) rfl)
theorem dX12_countFor_132 : decode cX12_countFor 132 = .ok (.imul, 1) := dgX12_countFor_1 (132, (.imul, 1)) (List.mem_of_getElem? (i := 32) rfl)
theorem dX12_countFor_133 : decode cX12_countFor 133 = .ok (.iload 6, 2) := dgX12_countFor_1 (133, (.iload 6, 2)) (List.mem_of_getElem? (i := 33) rfl)
theorem dX12_countFor_135 : decode cX12_countFor 135 = .ok (.iadd, 1) := dgX12_countFor_1 (135, (.iadd, 1)) (List.mem_of_getElem? (i := 34) rfl)
theorem dX12_countFor_136 : decode cX12_countFor 136 = .ok (.iload 6, 2) := dgX12_countFor_1 (136, (.iload 6, 2)) (List.mem_of_getElem? (i := 35) rfl)
theorem dX12_countFor_138 : decode cX12_countFor 138 = .ok (.aload_n 0, 1) := dgX12_countFor_1 (138, (.aload_n 0, 1)) (List.mem_of_getElem? (i := 36) rfl)
theorem dX12_countFor_139 : decode cX12_countFor 139 = .ok (.getfield 422, 3) := dgX12_countFor_1 (139, (.getfield 422, 3)) (List.mem_of_getElem? (i := 37) rfl)
theorem dX12_countFor_142 : decode cX12_countFor 142 = .ok (.if_icmp .ne 7, 3) := dgX12_countFor_1 (142, (.if_icmp .ne 7, 3)) (List.mem_of_getElem? (i := 38) rfl)
theorem dX12_countFor_145 : decode cX12_countFor 145 = .ok (.lconst 1, 1) := dgX12_countFor_1 (145, (.lconst 1, 1)) (List.mem_of_getElem? (i := 39) rfl)
theorem dgX12_countFor_2 : ∀ r ∈ ([(146, (.goto 4, 3)), (149, (.lconst 0, 1)), (150, (.lastore, 1)), (151, (.iinc 6 1, 3)), (154, (.goto (-41), 3)), (157, (.iinc 5 1, 3)), (160, (.goto (-111), 3)), (163, (.iconst 0, 1)), (164, (.istore 5, 2)), (166, (.iload 5, 2)), (168, (.bipush 23, 2)), (170, (.if_icmp .ge 33, 3)), (173, (.iconst 0, 1)), (174, (.istore 6, 2)), (176, (.iload 6, 2)), (178, (.bipush 64, 2)), (180, (.if_icmp .ge 17, 3)), (183, (.aload_n 0, 1)), (184, (.iload 5, 2)), (186, (.iload 6, 2)), (188, (.invokevirtual 431, 3)), (191, (.iinc 6 1, 3)), (194, (.goto (-18), 3)), (197, (.iinc 5 1, 3)), (200, (.goto (-34), 3)), (203, (.bipush 22, 2)), (205, (.istore 5, 2)), (207, (.iload 5, 2)), (209, (.ifCond .lt 33, 3)), (212, (.iconst 0, 1)), (213, (.istore 6, 2)), (215, (.iload 6, 2)), (217, (.bipush 64, 2)), (219, (.if_icmp .ge 17, 3)), (222, (.aload_n 0, 1)), (223, (.iload 5, 2)), (225, (.iload 6, 2)), (227, (.invokevirtual 434, 3)), (230, (.iinc 6 1, 3)), (233, (.goto (-18), 3))] : List (Nat × (Instr × Nat))), decode cX12_countFor r.1 = .ok r.2 := by decide +kernel
theorem dX12_countFor_146 : decode cX12_countFor 146 = .ok (.goto 4, 3) := dgX12_countFor_2 (146, (.goto 4, 3)) (List.mem_of_getElem? (i := 0) rfl)
theorem dX12_countFor_149 : decode cX12_countFor 149 = .ok (.lconst 0, 1) := dgX12_countFor_2 (149, (.lconst 0, 1)) (List.mem_of_getElem? (i := 1) rfl)
theorem dX12_countFor_150 : decode cX12_countFor 150 = .ok (.lastore, 1) := dgX12_countFor_2 (150, (.lastore, 1)) (List.mem_of_getElem? (i := 2) rfl)
theorem dX12_countFor_151 : decode cX12_countFor 151 = .ok (.iinc 6 1, 3) := dgX12_countFor_2 (151, (.iinc 6 1, 3)) (List.mem_of_getElem? (i := 3) rfl)
theorem dX12_countFor_154 : decode cX12_countFor 154 = .ok (.goto (-41), 3) := dgX12_countFor_2 (154, (.goto (-41), 3)) (List.mem_of_getElem? (i := 4) rfl)
theorem dX12_countFor_157 : decode cX12_countFor 157 = .ok (.iinc 5 1, 3) := dgX12_countFor_2 (157, (.iinc 5 1, 3)) (List.mem_of_getElem? (i := 5) rfl)
theorem dX12_countFor_160 : decode cX12_countFor 160 = .ok (.goto (-111), 3) := dgX12_countFor_2 (160, (.goto (-111), 3)) (List.mem_of_getElem? (i := 6) rfl)
theorem dX12_countFor_163 : decode cX12_countFor 163 = .ok (.iconst 0, 1) := dgX12_countFor_2 (163, (.iconst 0, 1)) (List.mem_of_getElem? (i := 7) rfl)
theorem dX12_countFor_164 : decode cX12_countFor 164 = .ok (.istore 5, 2) := dgX12_countFor_2 (164, (.istore 5, 2)) (List.mem_of_getElem? (i := 8) rfl)
theorem dX12_countFor_166 : decode cX12_countFor 166 = .ok (.iload 5, 2) := dgX12_countFor_2 (166, (.iload 5, 2)) (List.mem_of_getElem? (i := 9) rfl)
theorem dX12_countFor_168 : decode cX12_countFor 168 = .ok (.bipush 23, 2) := dgX12_countFor_2 (168, (.bipush 23, 2)) (List.mem_of_getElem? (i := 10) rfl)
theorem dX12_countFor_170 : decode cX12_countFor 170 = .ok (.if_icmp .ge 33, 3) := dgX12_countFor_2 (170, (.if_icmp .ge 33, 3)) (List.mem_of_getElem? (i := 11) rfl)
theorem dX12_countFor_173 : decode cX12_countFor 173 = .ok (.iconst 0, 1) := dgX12_countFor_2 (173, (.iconst 0, 1)) (List.mem_of_getElem? (i := 12) rfl)
theorem dX12_countFor_174 : decode cX12_countFor 174 = .ok (.istore 6, 2) := dgX12_countFor_2 (174, (.istore 6, 2)) (List.mem_of_getElem? (i := 13) rfl)
theorem dX12_countFor_176 : decode cX12_countFor 176 = .ok (.iload 6, 2) := dgX12_countFor_2 (176, (.iload 6, 2)) (List.mem_of_getElem? (i := 14) rfl)
theorem dX12_countFor_178 : decode cX12_countFor 178 = .ok (.bipush 64, 2) := dgX12_countFor_2 (178, (.bipush 64, 2)) (List.mem_of_getElem? (i := 15) rfl)
theorem dX12_countFor_180 : decode cX12_countFor 180 = .ok (.if_icmp .ge 17, 3) := dgX12_countFor_2 (180, (.if_icmp .ge 17, 3)) (List.mem_of_getElem? (i := 16) rfl)
theorem dX12_countFor_183 : decode cX12_countFor 183 = .ok (.aload_n 0, 1) := dgX12_countFor_2 (183, (.aload_n 0, 1)) (List.mem_of_getElem? (i := 17) rfl)
theorem dX12_countFor_184 : decode cX12_countFor 184 = .ok (.iload 5, 2) := dgX12_countFor_2 (184, (.iload 5, 2)) (List.mem_of_getElem? (i := 18) rfl)
theorem dX12_countFor_186 : decode cX12_countFor 186 = .ok (.iload 6, 2) := dgX12_countFor_2 (186, (.iload 6, 2)) (List.mem_of_getElem? (i := 19) rfl)
theorem dX12_countFor_188 : decode cX12_countFor 188 = .ok (.invokevirtual 431, 3) := dgX12_countFor_2 (188, (.invokevirtual 431, 3)) (List.mem_of_getElem? (i := 20) rfl)
theorem dX12_countFor_191 : decode cX12_countFor 191 = .ok (.iinc 6 1, 3) := dgX12_countFor_2 (191, (.iinc 6 1, 3)) (List.mem_of_getElem? (i := 21) rfl)
theorem dX12_countFor_194 : decode cX12_countFor 194 = .ok (.goto (-18), 3) := dgX12_countFor_2 (194, (.goto (-18), 3)) (List.mem_of_getElem? (i := 22) rfl)
theorem dX12_countFor_197 : decode cX12_countFor 197 = .ok (.iinc 5 1, 3) := dgX12_countFor_2 (197, (.iinc 5 1, 3)) (List.mem_of_getElem? (i := 23) rfl)
theorem dX12_countFor_200 : decode cX12_countFor 200 = .ok (.goto (-34), 3) := dgX12_countFor_2 (200, (.goto (-34), 3)) (List.mem_of_getElem? (i := 24) rfl)
theorem dX12_countFor_203 : decode cX12_countFor 203 = .ok (.bipush 22, 2) := dgX12_countFor_2 (203, (.bipush 22, 2)) (List.mem_of_getElem? (i := 25) rfl)
theorem dX12_countFor_205 : decode cX12_countFor 205 = .ok (.istore 5, 2) := dgX12_countFor_2 (205, (.istore 5, 2)) (List.mem_of_getElem? (i := 26) rfl)
theorem dX12_countFor_207 : decode cX12_countFor 207 = .ok (.iload 5, 2) := dgX12_countFor_2 (207, (.iload 5, 2)) (List.mem_of_getElem? (i := 27) rfl)
theorem dX12_countFor_209 : decode cX12_countFor 209 = .ok (.ifCond .lt 33, 3) := dgX12_countFor_2 (209, (.ifCond .lt 33, 3)) (List.mem_of_getElem? (i := 28) rfl)
theorem dX12_countFor_212 : decode cX12_countFor 212 = .ok (.iconst 0, 1) := dgX12_countFor_2 (212, (.iconst 0, 1)) (List.mem_of_getElem? (i := 29) rfl)
theorem dX12_countFor_213 : decode cX12_countFor 213 = .ok (.istore 6, 2) := dgX12_countFor_2 (213, (.istore 6, 2)) (List.mem_of_getElem? (i := 30) rfl)
theorem dX12_countFor_215 : decode cX12_countFor 215 = .ok (.iload 6, 2) := dgX12_countFor_2 (215, (.iload 6, 2)) (List.mem_of_getElem? (i := 31) rfl)
theorem dX12_countFor_217 : decode cX12_countFor 217 = .ok (.bipush 64, 2) := dgX12_countFor_2 (217, (.bipush 64, 2)) (List.mem_of_getElem? (i := 32) rfl)
theorem dX12_countFor_219 : decode cX12_countFor 219 = .ok (.if_icmp .ge 17, 3) := dgX12_countFor_2 (219, (.if_icmp .ge 17, 3)) (List.mem_of_getElem? (i := 33) rfl)
theorem dX12_countFor_222 : decode cX12_countFor 222 = .ok (.aload_n 0, 1) := dgX12_countFor_2 (222, (.aload_n 0, 1)) (List.mem_of_getElem? (i := 34) rfl)
theorem dX12_countFor_223 : decode cX12_countFor 223 = .ok (.iload 5, 2) := dgX12_countFor_2 (223, (.iload 5, 2)) (List.mem_of_getElem? (i := 35) rfl)
theorem dX12_countFor_225 : decode cX12_countFor 225 = .ok (.iload 6, 2) := dgX12_countFor_2 (225, (.iload 6, 2)) (List.mem_of_getElem? (i := 36) rfl)
theorem dX12_countFor_227 : decode cX12_countFor 227 = .ok (.invokevirtual 434, 3) := dgX12_countFor_2 (227, (.invokevirtual 434, 3)) (List.mem_of_getElem? (i := 37) rfl)
theorem dX12_countFor_230 : decode cX12_countFor 230 = .ok (.iinc 6 1, 3) := dgX12_countFor_2 (230, (.iinc 6 1, 3)) (List.mem_of_getElem? (i := 38) rfl)
theorem dX12_countFor_233 : decode cX12_countFor 233 = .ok (.goto (-18), 3) := dgX12_countFor_2 (233, (.goto (-18), 3)) (List.mem_of_getElem? (i := 39) rfl)
theorem dgX12_countFor_3 : ∀ r ∈ ([(236, (.iinc 5 (-1), 3)), (239, (.goto (-32), 3)), (242, (.return_, 1))] : List (Nat × (Instr × Nat))), decode cX12_countFor r.1 = .ok r.2 := by decide +kernel
theorem dX12_countFor_236 : decode cX12_countFor 236 = .ok (.iinc 5 (-1), 3) := dgX12_countFor_3 (236, (.iinc 5 (-1), 3)) (List.mem_of_getElem? (i := 0) rfl)
theorem dX12_countFor_239 : decode cX12_countFor 239 = .ok (.goto (-32), 3) := dgX12_countFor_3 (239, (.goto (-32), 3)) (List.mem_of_getElem? (i := 1) rfl)
theorem dX12_countFor_242 : decode cX12_countFor 242 = .ok (.return_, 1) := dgX12_countFor_3 (242, (.return_, 1)) (List.mem_of_getElem? (i := 2) rfl)
theorem ml_X12_428 : Cond.methodLink RX12 428 yX12_findMeets ∈ tblG := tg 1720 (by decide +kernel) (by decide +kernel)
theorem im_X12_findMeets : Cond.instanceMethod yX12_findMeets ∈ tblG := tg 1722 (by decide +kernel) (by decide +kernel)
theorem se_X12_findMeets : Cond.selects RX12 yX12_findMeets yX12_findMeets ∈ tblG := tg 77 (by decide +kernel) (by decide +kernel)
theorem cd_X12_findMeets : Cond.code yX12_findMeets cX12_findMeets 10 none ∈ tblG := tg 1723 (by decide +kernel) (by decide +kernel)
theorem gW_X12_findMeets : GoodIn tblG (wsG yX12_findMeets cX12_findMeets 10 none) := tgi cd_X12_findMeets
theorem gV_X12_428 : GoodIn tblG (wsV RX12 428 RX12 yX12_findMeets (wsG yX12_findMeets cX12_findMeets 10 none)) := tgV ml_X12_428 im_X12_findMeets se_X12_findMeets ini_X12 gW_X12_findMeets
theorem hv_X12_findMeets : yX12_findMeets.cls = RX12 ∧ yX12_findMeets.cls ≠ "java/lang/invoke/MethodHandle" ∧ yX12_findMeets.cls ≠ "java/lang/invoke/VarHandle" ∧ (parseMethodDescriptor yX12_findMeets.desc).map (fun d => d.parameters.length) = some 4 := by decide +kernel
theorem ki_X12_88 : Cond.constant RX12 88 49152 ∈ tblG := tg 1202 (by decide +kernel) (by decide +kernel)
theorem ml_X12_434 : Cond.methodLink RX12 434 yX12_comesFrom ∈ tblG := tg 1732 (by decide +kernel) (by decide +kernel)
theorem im_X12_comesFrom : Cond.instanceMethod yX12_comesFrom ∈ tblG := tg 1734 (by decide +kernel) (by decide +kernel)
theorem se_X12_comesFrom : Cond.selects RX12 yX12_comesFrom yX12_comesFrom ∈ tblG := tg 80 (by decide +kernel) (by decide +kernel)
theorem cd_X12_comesFrom : Cond.code yX12_comesFrom cX12_comesFrom 6 none ∈ tblG := tg 1735 (by decide +kernel) (by decide +kernel)
theorem gW_X12_comesFrom : GoodIn tblG (wsG yX12_comesFrom cX12_comesFrom 6 none) := tgi cd_X12_comesFrom
theorem gV_X12_434 : GoodIn tblG (wsV RX12 434 RX12 yX12_comesFrom (wsG yX12_comesFrom cX12_comesFrom 6 none)) := tgV ml_X12_434 im_X12_comesFrom se_X12_comesFrom ini_X12 gW_X12_comesFrom
theorem hv_X12_comesFrom : yX12_comesFrom.cls = RX12 ∧ yX12_comesFrom.cls ≠ "java/lang/invoke/MethodHandle" ∧ yX12_comesFrom.cls ≠ "java/lang/invoke/VarHandle" ∧ (parseMethodDescriptor yX12_comesFrom.desc).map (fun d => d.parameters.length) = some 2 := by decide +kernel
theorem ml_X12_431 : Cond.methodLink RX12 431 yX12_goesOn ∈ tblG := tg 1724 (by decide +kernel) (by decide +kernel)
theorem im_X12_goesOn : Cond.instanceMethod yX12_goesOn ∈ tblG := tg 1726 (by decide +kernel) (by decide +kernel)
theorem se_X12_goesOn : Cond.selects RX12 yX12_goesOn yX12_goesOn ∈ tblG := tg 78 (by decide +kernel) (by decide +kernel)
theorem cd_X12_goesOn : Cond.code yX12_goesOn cX12_goesOn 6 none ∈ tblG := tg 1727 (by decide +kernel) (by decide +kernel)
theorem gW_X12_goesOn : GoodIn tblG (wsG yX12_goesOn cX12_goesOn 6 none) := tgi cd_X12_goesOn
theorem gV_X12_431 : GoodIn tblG (wsV RX12 431 RX12 yX12_goesOn (wsG yX12_goesOn cX12_goesOn 6 none)) := tgV ml_X12_431 im_X12_goesOn se_X12_goesOn ini_X12 gW_X12_goesOn
theorem hv_X12_goesOn : yX12_goesOn.cls = RX12 ∧ yX12_goesOn.cls ≠ "java/lang/invoke/MethodHandle" ∧ yX12_goesOn.cls ≠ "java/lang/invoke/VarHandle" ∧ (parseMethodDescriptor yX12_goesOn.desc).map (fun d => d.parameters.length) = some 2 := by decide +kernel
theorem dgX12_countRows_0 : ∀ r ∈ ([(0, (.aload_n 0, 1)), (1, (.getfield 113, 3)), (4, (.ifCond .eq 4, 3)), (7, (.return_, 1)), (8, (.aload_n 0, 1)), (9, (.sipush 1023, 3)), (12, (.iconst 0, 1)), (13, (.iconst (-1), 1)), (14, (.iconst 0, 1)), (15, (.invokevirtual 425, 3)), (18, (.aload_n 0, 1)), (19, (.iconst 1, 1)), (20, (.putfield 113, 3)), (23, (.return_, 1))] : List (Nat × (Instr × Nat))), decode cX12_countRows r.1 = .ok r.2 := by decide +kernel
theorem dX12_countRows_0 : decode cX12_countRows 0 = .ok (.aload_n 0, 1) := dgX12_countRows_0 (0, (.aload_n 0, 1)) (List.mem_of_getElem? (i := 0) rfl)
theorem dX12_countRows_1 : decode cX12_countRows 1 = .ok (.getfield 113, 3) := dgX12_countRows_0 (1, (.getfield 113, 3)) (List.mem_of_getElem? (i := 1) rfl)
theorem dX12_countRows_4 : decode cX12_countRows 4 = .ok (.ifCond .eq 4, 3) := dgX12_countRows_0 (4, (.ifCond .eq 4, 3)) (List.mem_of_getElem? (i := 2) rfl)
theorem dX12_countRows_7 : decode cX12_countRows 7 = .ok (.return_, 1) := dgX12_countRows_0 (7, (.return_, 1)) (List.mem_of_getElem? (i := 3) rfl)
theorem dX12_countRows_8 : decode cX12_countRows 8 = .ok (.aload_n 0, 1) := dgX12_countRows_0 (8, (.aload_n 0, 1)) (List.mem_of_getElem? (i := 4) rfl)
theorem dX12_countRows_9 : decode cX12_countRows 9 = .ok (.sipush 1023, 3) := dgX12_countRows_0 (9, (.sipush 1023, 3)) (List.mem_of_getElem? (i := 5) rfl)
theorem dX12_countRows_12 : decode cX12_countRows 12 = .ok (.iconst 0, 1) := dgX12_countRows_0 (12, (.iconst 0, 1)) (List.mem_of_getElem? (i := 6) rfl)
theorem dX12_countRows_13 : decode cX12_countRows 13 = .ok (.iconst (-1), 1) := dgX12_countRows_0 (13, (.iconst (-1), 1)) (List.mem_of_getElem? (i := 7) rfl)
theorem dX12_countRows_14 : decode cX12_countRows 14 = .ok (.iconst 0, 1) := dgX12_countRows_0 (14, (.iconst 0, 1)) (List.mem_of_getElem? (i := 8) rfl)
theorem dX12_countRows_15 : decode cX12_countRows 15 = .ok (.invokevirtual 425, 3) := dgX12_countRows_0 (15, (.invokevirtual 425, 3)) (List.mem_of_getElem? (i := 9) rfl)
theorem dX12_countRows_18 : decode cX12_countRows 18 = .ok (.aload_n 0, 1) := dgX12_countRows_0 (18, (.aload_n 0, 1)) (List.mem_of_getElem? (i := 10) rfl)
theorem dX12_countRows_19 : decode cX12_countRows 19 = .ok (.iconst 1, 1) := dgX12_countRows_0 (19, (.iconst 1, 1)) (List.mem_of_getElem? (i := 11) rfl)
theorem dX12_countRows_20 : decode cX12_countRows 20 = .ok (.putfield 113, 3) := dgX12_countRows_0 (20, (.putfield 113, 3)) (List.mem_of_getElem? (i := 12) rfl)
theorem dX12_countRows_23 : decode cX12_countRows 23 = .ok (.return_, 1) := dgX12_countRows_0 (23, (.return_, 1)) (List.mem_of_getElem? (i := 13) rfl)
theorem ml_X12_425 : Cond.methodLink RX12 425 yX12_countFor ∈ tblG := tg 1716 (by decide +kernel) (by decide +kernel)
theorem im_X12_countFor : Cond.instanceMethod yX12_countFor ∈ tblG := tg 1718 (by decide +kernel) (by decide +kernel)
theorem se_X12_countFor : Cond.selects RX12 yX12_countFor yX12_countFor ∈ tblG := tg 76 (by decide +kernel) (by decide +kernel)
theorem cd_X12_countFor : Cond.code yX12_countFor cX12_countFor 7 none ∈ tblG := tg 1719 (by decide +kernel) (by decide +kernel)
theorem gW_X12_countFor : GoodIn tblG (wsG yX12_countFor cX12_countFor 7 none) := tgi cd_X12_countFor
theorem gV_X12_425 : GoodIn tblG (wsV RX12 425 RX12 yX12_countFor (wsG yX12_countFor cX12_countFor 7 none)) := tgV ml_X12_425 im_X12_countFor se_X12_countFor ini_X12 gW_X12_countFor
theorem hv_X12_countFor : yX12_countFor.cls = RX12 ∧ yX12_countFor.cls ≠ "java/lang/invoke/MethodHandle" ∧ yX12_countFor.cls ≠ "java/lang/invoke/VarHandle" ∧ (parseMethodDescriptor yX12_countFor.desc).map (fun d => d.parameters.length) = some 4 := by decide +kernel
theorem dgX12_fits__0 : ∀ r ∈ ([(0, (.aload_n 0, 1)), (1, (.iconst 0, 1)), (2, (.putfield 107, 3)), (5, (.aload_n 0, 1)), (6, (.invokevirtual 444, 3)), (9, (.aload_n 0, 1)), (10, (.invokevirtual 447, 3)), (13, (.lreturn, 1))] : List (Nat × (Instr × Nat))), decode cX12_fits_ r.1 = .ok r.2 := by decide +kernel
theorem dX12_fits__0 : decode cX12_fits_ 0 = .ok (.aload_n 0, 1) := dgX12_fits__0 (0, (.aload_n 0, 1)) (List.mem_of_getElem? (i := 0) rfl)
theorem dX12_fits__1 : decode cX12_fits_ 1 = .ok (.iconst 0, 1) := dgX12_fits__0 (1, (.iconst 0, 1)) (List.mem_of_getElem? (i := 1) rfl)
theorem dX12_fits__2 : decode cX12_fits_ 2 = .ok (.putfield 107, 3) := dgX12_fits__0 (2, (.putfield 107, 3)) (List.mem_of_getElem? (i := 2) rfl)
theorem dX12_fits__5 : decode cX12_fits_ 5 = .ok (.aload_n 0, 1) := dgX12_fits__0 (5, (.aload_n 0, 1)) (List.mem_of_getElem? (i := 3) rfl)
theorem dX12_fits__6 : decode cX12_fits_ 6 = .ok (.invokevirtual 444, 3) := dgX12_fits__0 (6, (.invokevirtual 444, 3)) (List.mem_of_getElem? (i := 4) rfl)
theorem dX12_fits__9 : decode cX12_fits_ 9 = .ok (.aload_n 0, 1) := dgX12_fits__0 (9, (.aload_n 0, 1)) (List.mem_of_getElem? (i := 5) rfl)
theorem dX12_fits__10 : decode cX12_fits_ 10 = .ok (.invokevirtual 447, 3) := dgX12_fits__0 (10, (.invokevirtual 447, 3)) (List.mem_of_getElem? (i := 6) rfl)
theorem dX12_fits__13 : decode cX12_fits_ 13 = .ok (.lreturn, 1) := dgX12_fits__0 (13, (.lreturn, 1)) (List.mem_of_getElem? (i := 7) rfl)
theorem ml_X12_444 : Cond.methodLink RX12 444 yX12_countRows ∈ tblG := tg 1712 (by decide +kernel) (by decide +kernel)
theorem im_X12_countRows : Cond.instanceMethod yX12_countRows ∈ tblG := tg 1714 (by decide +kernel) (by decide +kernel)
theorem se_X12_countRows : Cond.selects RX12 yX12_countRows yX12_countRows ∈ tblG := tg 75 (by decide +kernel) (by decide +kernel)
theorem cd_X12_countRows : Cond.code yX12_countRows cX12_countRows 1 none ∈ tblG := tg 1715 (by decide +kernel) (by decide +kernel)
theorem gW_X12_countRows : GoodIn tblG (wsG yX12_countRows cX12_countRows 1 none) := tgi cd_X12_countRows
theorem gV_X12_444 : GoodIn tblG (wsV RX12 444 RX12 yX12_countRows (wsG yX12_countRows cX12_countRows 1 none)) := tgV ml_X12_444 im_X12_countRows se_X12_countRows ini_X12 gW_X12_countRows
theorem hv_X12_countRows : yX12_countRows.cls = RX12 ∧ yX12_countRows.cls ≠ "java/lang/invoke/MethodHandle" ∧ yX12_countRows.cls ≠ "java/lang/invoke/VarHandle" ∧ (parseMethodDescriptor yX12_countRows.desc).map (fun d => d.parameters.length) = some 0 := by decide +kernel
theorem ml_X12_447 : Cond.methodLink RX12 447 yX12_allRows ∈ tblG := tg 1736 (by decide +kernel) (by decide +kernel)
theorem im_X12_allRows : Cond.instanceMethod yX12_allRows ∈ tblG := tg 1738 (by decide +kernel) (by decide +kernel)
theorem se_X12_allRows : Cond.selects RX12 yX12_allRows yX12_allRows ∈ tblG := tg 81 (by decide +kernel) (by decide +kernel)
theorem cd_X12_allRows : Cond.code yX12_allRows cX12_allRows 4 (some .long) ∈ tblG := tg 1739 (by decide +kernel) (by decide +kernel)
theorem gW_X12_allRows : GoodIn tblG (wsG yX12_allRows cX12_allRows 4 (some .long)) := tgi cd_X12_allRows
theorem gV_X12_447 : GoodIn tblG (wsV RX12 447 RX12 yX12_allRows (wsG yX12_allRows cX12_allRows 4 (some .long))) := tgV ml_X12_447 im_X12_allRows se_X12_allRows ini_X12 gW_X12_allRows
theorem hv_X12_allRows : yX12_allRows.cls = RX12 ∧ yX12_allRows.cls ≠ "java/lang/invoke/MethodHandle" ∧ yX12_allRows.cls ≠ "java/lang/invoke/VarHandle" ∧ (parseMethodDescriptor yX12_allRows.desc).map (fun d => d.parameters.length) = some 0 := by decide +kernel
theorem dgX12_canFit_0 : ∀ r ∈ ([(0, (.aload_n 0, 1)), (1, (.iload_n 1, 1)), (2, (.iconst 0, 1)), (3, (.iconst (-1), 1)), (4, (.iconst 0, 1)), (5, (.invokevirtual 425, 3)), (8, (.aload_n 0, 1)), (9, (.invokevirtual 447, 3)), (12, (.lconst 0, 1)), (13, (.lcmp, 1)), (14, (.ifCond .le 7, 3)), (17, (.iconst 1, 1)), (18, (.goto 4, 3)), (21, (.iconst 0, 1)), (22, (.ireturn, 1))] : List (Nat × (Instr × Nat))), decode cX12_canFit r.1 = .ok r.2 := by decide +kernel
theorem dX12_canFit_0 : decode cX12_canFit 0 = .ok (.aload_n 0, 1) := dgX12_canFit_0 (0, (.aload_n 0, 1)) (List.mem_of_getElem? (i := 0) rfl)
theorem dX12_canFit_1 : decode cX12_canFit 1 = .ok (.iload_n 1, 1) := dgX12_canFit_0 (1, (.iload_n 1, 1)) (List.mem_of_getElem? (i := 1) rfl)
theorem dX12_canFit_2 : decode cX12_canFit 2 = .ok (.iconst 0, 1) := dgX12_canFit_0 (2, (.iconst 0, 1)) (List.mem_of_getElem? (i := 2) rfl)
theorem dX12_canFit_3 : decode cX12_canFit 3 = .ok (.iconst (-1), 1) := dgX12_canFit_0 (3, (.iconst (-1), 1)) (List.mem_of_getElem? (i := 3) rfl)
theorem dX12_canFit_4 : decode cX12_canFit 4 = .ok (.iconst 0, 1) := dgX12_canFit_0 (4, (.iconst 0, 1)) (List.mem_of_getElem? (i := 4) rfl)
theorem dX12_canFit_5 : decode cX12_canFit 5 = .ok (.invokevirtual 425, 3) := dgX12_canFit_0 (5, (.invokevirtual 425, 3)) (List.mem_of_getElem? (i := 5) rfl)
theorem dX12_canFit_8 : decode cX12_canFit 8 = .ok (.aload_n 0, 1) := dgX12_canFit_0 (8, (.aload_n 0, 1)) (List.mem_of_getElem? (i := 6) rfl)
theorem dX12_canFit_9 : decode cX12_canFit 9 = .ok (.invokevirtual 447, 3) := dgX12_canFit_0 (9, (.invokevirtual 447, 3)) (List.mem_of_getElem? (i := 7) rfl)
theorem dX12_canFit_12 : decode cX12_canFit 12 = .ok (.lconst 0, 1) := dgX12_canFit_0 (12, (.lconst 0, 1)) (List.mem_of_getElem? (i := 8) rfl)
theorem dX12_canFit_13 : decode cX12_canFit 13 = .ok (.lcmp, 1) := dgX12_canFit_0 (13, (.lcmp, 1)) (List.mem_of_getElem? (i := 9) rfl)
theorem dX12_canFit_14 : decode cX12_canFit 14 = .ok (.ifCond .le 7, 3) := dgX12_canFit_0 (14, (.ifCond .le 7, 3)) (List.mem_of_getElem? (i := 10) rfl)
theorem dX12_canFit_17 : decode cX12_canFit 17 = .ok (.iconst 1, 1) := dgX12_canFit_0 (17, (.iconst 1, 1)) (List.mem_of_getElem? (i := 11) rfl)
theorem dX12_canFit_18 : decode cX12_canFit 18 = .ok (.goto 4, 3) := dgX12_canFit_0 (18, (.goto 4, 3)) (List.mem_of_getElem? (i := 12) rfl)
theorem dX12_canFit_21 : decode cX12_canFit 21 = .ok (.iconst 0, 1) := dgX12_canFit_0 (21, (.iconst 0, 1)) (List.mem_of_getElem? (i := 13) rfl)
theorem dX12_canFit_22 : decode cX12_canFit 22 = .ok (.ireturn, 1) := dgX12_canFit_0 (22, (.ireturn, 1)) (List.mem_of_getElem? (i := 14) rfl)
theorem dgX12_core_0 : ∀ r ∈ ([(0, (.aload_n 0, 1)), (1, (.iconst 0, 1)), (2, (.putfield 107, 3)), (5, (.iconst 1, 1)), (6, (.aload_n 0, 1)), (7, (.getfield 13, 3)), (10, (.iconst 5, 1)), (11, (.iaload, 1)), (12, (.ishl, 1)), (13, (.iconst 1, 1)), (14, (.isub, 1)), (15, (.istore_n 1, 1)), (16, (.aload_n 0, 1)), (17, (.iload_n 1, 1)), (18, (.invokevirtual 451, 3)), (21, (.ifCond .eq 5, 3)), (24, (.iconst 0, 1)), (25, (.ireturn, 1)), (26, (.aload_n 0, 1)), (27, (.iconst 0, 1)), (28, (.invokevirtual 451, 3)), (31, (.ifCond .ne 5, 3)), (34, (.iconst (-1), 1)), (35, (.ireturn, 1)), (36, (.iconst 0, 1)), (37, (.istore_n 2, 1)), (38, (.iload_n 2, 1)), (39, (.aload_n 0, 1)), (40, (.getfield 13, 3)), (43, (.iconst 5, 1)), (44, (.iaload, 1)), (45, (.if_icmp .ge 35, 3)), (48, (.aload_n 0, 1)), (49, (.iload_n 1, 1)), (50, (.iconst 1, 1)), (51, (.iload_n 2, 1)), (52, (.ishl, 1)), (53, (.iconst (-1), 1)), (54, (.ixor, 1)), (55, (.iand, 1))] : List (Nat × (Instr × Nat))), decode cX12_core r.1 = .ok r.2 := by decide +kernel
theorem dX12_core_0 : decode cX12_core 0 = .ok (.aload_n 0, 1) := dgX12_core_0 (0, (.aload_n 0, 1)) (List.mem_of_getElem? (i := 0) rfl)
theorem dX12_core_1 : decode cX12_core 1 = .ok (.iconst 0, 1) := dgX12_core_0 (1, (.iconst 0, 1)) (List.mem_of_getElem? (i := 1) rfl)
theorem dX12_core_2 : decode cX12_core 2 = .ok (.putfield 107, 3) := dgX12_core_0 (2, (.putfield 107, 3)) (List.mem_of_getElem? (i := 2) rfl)
theorem dX12_core_5 : decode cX12_core 5 = .ok (.iconst 1, 1) := dgX12_core_0 (5, (.iconst 1, 1)) (List.mem_of_getElem? (i := 3) rfl)
theorem dX12_core_6 : decode cX12_core 6 = .ok (.aload_n 0, 1) := dgX12_core_0 (6, (.aload_n 0, 1)) (List.mem_of_getElem? (i := 4) rfl)
theorem dX12_core_7 : decode cX12_core 7 = .ok (.getfield 13, 3) := dgX12_core_0 (7, (.getfield 13, 3)) (List.mem_of_getElem? (i := 5) rfl)
theorem dX12_core_10 : decode cX12_core 10 = .ok (.iconst 5, 1) := dgX12_core_0 (10, (.iconst 5, 1)) (List.mem_of_getElem? (i := 6) rfl)
theorem dX12_core_11 : decode cX12_core 11 = .ok (.iaload, 1) := dgX12_core_0 (11, (.iaload, 1)) (List.mem_of_getElem? (i := 7) rfl)
theorem dX12_core_12 : decode cX12_core 12 = .ok (.ishl, 1) := dgX12_core_0 (12, (.ishl, 1)) (List.mem_of_getElem? (i := 8) rfl)
theorem dX12_core_13 : decode cX12_core 13 = .ok (.iconst 1, 1) := dgX12_core_0 (13, (.iconst 1, 1)) (List.mem_of_getElem? (i := 9) rfl)
theorem dX12_core_14 : decode cX12_core 14 = .ok (.isub, 1) := dgX12_core_0 (14, (.isub, 1)) (List.mem_of_getElem? (i := 10) rfl)
theorem dX12_core_15 : decode cX12_core 15 = .ok (.istore_n 1, 1) := dgX12_core_0 (15, (.istore_n 1, 1)) (List.mem_of_getElem? (i := 11) rfl)
theorem dX12_core_16 : decode cX12_core 16 = .ok (.aload_n 0, 1) := dgX12_core_0 (16, (.aload_n 0, 1)) (List.mem_of_getElem? (i := 12) rfl)
theorem dX12_core_17 : decode cX12_core 17 = .ok (.iload_n 1, 1) := dgX12_core_0 (17, (.iload_n 1, 1)) (List.mem_of_getElem? (i := 13) rfl)
theorem dX12_core_18 : decode cX12_core 18 = .ok (.invokevirtual 451, 3) := dgX12_core_0 (18, (.invokevirtual 451, 3)) (List.mem_of_getElem? (i := 14) rfl)
theorem dX12_core_21 : decode cX12_core 21 = .ok (.ifCond .eq 5, 3) := dgX12_core_0 (21, (.ifCond .eq 5, 3)) (List.mem_of_getElem? (i := 15) rfl)
theorem dX12_core_24 : decode cX12_core 24 = .ok (.iconst 0, 1) := dgX12_core_0 (24, (.iconst 0, 1)) (List.mem_of_getElem? (i := 16) rfl)
theorem dX12_core_25 : decode cX12_core 25 = .ok (.ireturn, 1) := dgX12_core_0 (25, (.ireturn, 1)) (List.mem_of_getElem? (i := 17) rfl)
theorem dX12_core_26 : decode cX12_core 26 = .ok (.aload_n 0, 1) := dgX12_core_0 (26, (.aload_n 0, 1)) (List.mem_of_getElem? (i := 18) rfl)
theorem dX12_core_27 : decode cX12_core 27 = .ok (.iconst 0, 1) := dgX12_core_0 (27, (.iconst 0, 1)) (List.mem_of_getElem? (i := 19) rfl)
theorem dX12_core_28 : decode cX12_core 28 = .ok (.invokevirtual 451, 3) := dgX12_core_0 (28, (.invokevirtual 451, 3)) (List.mem_of_getElem? (i := 20) rfl)
theorem dX12_core_31 : decode cX12_core 31 = .ok (.ifCond .ne 5, 3) := dgX12_core_0 (31, (.ifCond .ne 5, 3)) (List.mem_of_getElem? (i := 21) rfl)
theorem dX12_core_34 : decode cX12_core 34 = .ok (.iconst (-1), 1) := dgX12_core_0 (34, (.iconst (-1), 1)) (List.mem_of_getElem? (i := 22) rfl)
theorem dX12_core_35 : decode cX12_core 35 = .ok (.ireturn, 1) := dgX12_core_0 (35, (.ireturn, 1)) (List.mem_of_getElem? (i := 23) rfl)
theorem dX12_core_36 : decode cX12_core 36 = .ok (.iconst 0, 1) := dgX12_core_0 (36, (.iconst 0, 1)) (List.mem_of_getElem? (i := 24) rfl)
theorem dX12_core_37 : decode cX12_core 37 = .ok (.istore_n 2, 1) := dgX12_core_0 (37, (.istore_n 2, 1)) (List.mem_of_getElem? (i := 25) rfl)
theorem dX12_core_38 : decode cX12_core 38 = .ok (.iload_n 2, 1) := dgX12_core_0 (38, (.iload_n 2, 1)) (List.mem_of_getElem? (i := 26) rfl)
theorem dX12_core_39 : decode cX12_core 39 = .ok (.aload_n 0, 1) := dgX12_core_0 (39, (.aload_n 0, 1)) (List.mem_of_getElem? (i := 27) rfl)
theorem dX12_core_40 : decode cX12_core 40 = .ok (.getfield 13, 3) := dgX12_core_0 (40, (.getfield 13, 3)) (List.mem_of_getElem? (i := 28) rfl)
theorem dX12_core_43 : decode cX12_core 43 = .ok (.iconst 5, 1) := dgX12_core_0 (43, (.iconst 5, 1)) (List.mem_of_getElem? (i := 29) rfl)
theorem dX12_core_44 : decode cX12_core 44 = .ok (.iaload, 1) := dgX12_core_0 (44, (.iaload, 1)) (List.mem_of_getElem? (i := 30) rfl)
theorem dX12_core_45 : decode cX12_core 45 = .ok (.if_icmp .ge 35, 3) := dgX12_core_0 (45, (.if_icmp .ge 35, 3)) (List.mem_of_getElem? (i := 31) rfl)
theorem dX12_core_48 : decode cX12_core 48 = .ok (.aload_n 0, 1) := dgX12_core_0 (48, (.aload_n 0, 1)) (List.mem_of_getElem? (i := 32) rfl)
theorem dX12_core_49 : decode cX12_core 49 = .ok (.iload_n 1, 1) := dgX12_core_0 (49, (.iload_n 1, 1)) (List.mem_of_getElem? (i := 33) rfl)
theorem dX12_core_50 : decode cX12_core 50 = .ok (.iconst 1, 1) := dgX12_core_0 (50, (.iconst 1, 1)) (List.mem_of_getElem? (i := 34) rfl)
theorem dX12_core_51 : decode cX12_core 51 = .ok (.iload_n 2, 1) := dgX12_core_0 (51, (.iload_n 2, 1)) (List.mem_of_getElem? (i := 35) rfl)
theorem dX12_core_52 : decode cX12_core 52 = .ok (.ishl, 1) := dgX12_core_0 (52, (.ishl, 1)) (List.mem_of_getElem? (i := 36) rfl)
theorem dX12_core_53 : decode cX12_core 53 = .ok (.iconst (-1), 1) := dgX12_core_0 (53, (.iconst (-1), 1)) (List.mem_of_getElem? (i := 37) rfl)
theorem dX12_core_54 : decode cX12_core 54 = .ok (.ixor, 1) := dgX12_core_0 (54, (.ixor, 1)) (List.mem_of_getElem? (i := 38) rfl)
theorem dX12_core_55 : decode cX12_core 55 = .ok (.iand, 1) := dgX12_core_0 (55, (.iand, 1)) (List.mem_of_getElem? (i := 39) rfl)
theorem dgX12_core_1 : ∀ r ∈ ([(56, (.invokevirtual 451, 3)), (59, (.ifCond .eq 7, 3)), (62, (.iload_n 1, 1)), (63, (.goto 10, 3)), (66, (.iload_n 1, 1)), (67, (.iconst 1, 1)), (68, (.iload_n 2, 1)), (69, (.ishl, 1)), (70, (.iconst (-1), 1)), (71, (.ixor, 1)), (72, (.iand, 1)), (73, (.istore_n 1, 1)), (74, (.iinc 2 1, 3)), (77, (.goto (-39), 3)), (80, (.iload_n 1, 1)), (81, (.ireturn, 1))] : List (Nat × (Instr × Nat))), decode cX12_core r.1 = .ok r.2 := by decide +kernel
theorem dX12_core_56 : decode cX12_core 56 = .ok (.invokevirtual 451, 3) := dgX12_core_1 (56, (.invokevirtual 451, 3)) (List.mem_of_getElem? (i := 0) rfl)
theorem dX12_core_59 : decode cX12_core 59 = .ok (.ifCond .eq 7, 3) := dgX12_core_1 (59, (.ifCond .eq 7, 3)) (List.mem_of_getElem? (i := 1) rfl)
theorem dX12_core_62 : decode cX12_core 62 = .ok (.iload_n 1, 1) := dgX12_core_1 (62, (.iload_n 1, 1)) (List.mem_of_getElem? (i := 2) rfl)
theorem dX12_core_63 : decode cX12_core 63 = .ok (.goto 10, 3) := dgX12_core_1 (63, (.goto 10, 3)) (List.mem_of_getElem? (i := 3) rfl)
theorem dX12_core_66 : decode cX12_core 66 = .ok (.iload_n 1, 1) := dgX12_core_1 (66, (.iload_n 1, 1)) (List.mem_of_getElem? (i := 4) rfl)
theorem dX12_core_67 : decode cX12_core 67 = .ok (.iconst 1, 1) := dgX12_core_1 (67, (.iconst 1, 1)) (List.mem_of_getElem? (i := 5) rfl)
theorem dX12_core_68 : decode cX12_core 68 = .ok (.iload_n 2, 1) := dgX12_core_1 (68, (.iload_n 2, 1)) (List.mem_of_getElem? (i := 6) rfl)
theorem dX12_core_69 : decode cX12_core 69 = .ok (.ishl, 1) := dgX12_core_1 (69, (.ishl, 1)) (List.mem_of_getElem? (i := 7) rfl)
theorem dX12_core_70 : decode cX12_core 70 = .ok (.iconst (-1), 1) := dgX12_core_1 (70, (.iconst (-1), 1)) (List.mem_of_getElem? (i := 8) rfl)
theorem dX12_core_71 : decode cX12_core 71 = .ok (.ixor, 1) := dgX12_core_1 (71, (.ixor, 1)) (List.mem_of_getElem? (i := 9) rfl)
theorem dX12_core_72 : decode cX12_core 72 = .ok (.iand, 1) := dgX12_core_1 (72, (.iand, 1)) (List.mem_of_getElem? (i := 10) rfl)
theorem dX12_core_73 : decode cX12_core 73 = .ok (.istore_n 1, 1) := dgX12_core_1 (73, (.istore_n 1, 1)) (List.mem_of_getElem? (i := 11) rfl)
theorem dX12_core_74 : decode cX12_core 74 = .ok (.iinc 2 1, 3) := dgX12_core_1 (74, (.iinc 2 1, 3)) (List.mem_of_getElem? (i := 12) rfl)
theorem dX12_core_77 : decode cX12_core 77 = .ok (.goto (-39), 3) := dgX12_core_1 (77, (.goto (-39), 3)) (List.mem_of_getElem? (i := 13) rfl)
theorem dX12_core_80 : decode cX12_core 80 = .ok (.iload_n 1, 1) := dgX12_core_1 (80, (.iload_n 1, 1)) (List.mem_of_getElem? (i := 14) rfl)
theorem dX12_core_81 : decode cX12_core 81 = .ok (.ireturn, 1) := dgX12_core_1 (81, (.ireturn, 1)) (List.mem_of_getElem? (i := 15) rfl)
theorem ml_X12_451 : Cond.methodLink RX12 451 yX12_canFit ∈ tblG := tg 1748 (by decide +kernel) (by decide +kernel)
theorem im_X12_canFit : Cond.instanceMethod yX12_canFit ∈ tblG := tg 1750 (by decide +kernel) (by decide +kernel)
theorem se_X12_canFit : Cond.selects RX12 yX12_canFit yX12_canFit ∈ tblG := tg 83 (by decide +kernel) (by decide +kernel)
theorem cd_X12_canFit : Cond.code yX12_canFit cX12_canFit 2 (some .boolean) ∈ tblG := tg 1751 (by decide +kernel) (by decide +kernel)
theorem gW_X12_canFit : GoodIn tblG (wsG yX12_canFit cX12_canFit 2 (some .boolean)) := tgi cd_X12_canFit
theorem gV_X12_451 : GoodIn tblG (wsV RX12 451 RX12 yX12_canFit (wsG yX12_canFit cX12_canFit 2 (some .boolean))) := tgV ml_X12_451 im_X12_canFit se_X12_canFit ini_X12 gW_X12_canFit
theorem hv_X12_canFit : yX12_canFit.cls = RX12 ∧ yX12_canFit.cls ≠ "java/lang/invoke/MethodHandle" ∧ yX12_canFit.cls ≠ "java/lang/invoke/VarHandle" ∧ (parseMethodDescriptor yX12_canFit.desc).map (fun d => d.parameters.length) = some 1 := by decide +kernel
theorem dgX12_tells_0 : ∀ r ∈ ([(0, (.aload_n 0, 1)), (1, (.iconst 0, 1)), (2, (.putfield 107, 3)), (5, (.iload_n 1, 1)), (6, (.iload_n 2, 1)), (7, (.iload_n 3, 1)), (8, (.invokestatic 397, 3)), (11, (.ifCond .ne 7, 3)), (14, (.ldc2_w 178, 3)), (17, (.lreturn, 1)), (18, (.aload_n 0, 1)), (19, (.sipush 1023, 3)), (22, (.iload_n 1, 1)), (23, (.iload_n 2, 1)), (24, (.iload_n 3, 1)), (25, (.invokevirtual 425, 3)), (28, (.aload_n 0, 1)), (29, (.invokevirtual 447, 3)), (32, (.lstore 4, 2)), (34, (.aload_n 0, 1)), (35, (.invokevirtual 444, 3)), (38, (.aload_n 0, 1)), (39, (.invokevirtual 447, 3)), (42, (.lload 4, 2)), (44, (.lsub, 1)), (45, (.lreturn, 1))] : List (Nat × (Instr × Nat))), decode cX12_tells r.1 = .ok r.2 := by decide +kernel
theorem dX12_tells_0 : decode cX12_tells 0 = .ok (.aload_n 0, 1) := dgX12_tells_0 (0, (.aload_n 0, 1)) (List.mem_of_getElem? (i := 0) rfl)
theorem dX12_tells_1 : decode cX12_tells 1 = .ok (.iconst 0, 1) := dgX12_tells_0 (1, (.iconst 0, 1)) (List.mem_of_getElem? (i := 1) rfl)
theorem dX12_tells_2 : decode cX12_tells 2 = .ok (.putfield 107, 3) := dgX12_tells_0 (2, (.putfield 107, 3)) (List.mem_of_getElem? (i := 2) rfl)
theorem dX12_tells_5 : decode cX12_tells 5 = .ok (.iload_n 1, 1) := dgX12_tells_0 (5, (.iload_n 1, 1)) (List.mem_of_getElem? (i := 3) rfl)
theorem dX12_tells_6 : decode cX12_tells 6 = .ok (.iload_n 2, 1) := dgX12_tells_0 (6, (.iload_n 2, 1)) (List.mem_of_getElem? (i := 4) rfl)
theorem dX12_tells_7 : decode cX12_tells 7 = .ok (.iload_n 3, 1) := dgX12_tells_0 (7, (.iload_n 3, 1)) (List.mem_of_getElem? (i := 5) rfl)
theorem dX12_tells_8 : decode cX12_tells 8 = .ok (.invokestatic 397, 3) := dgX12_tells_0 (8, (.invokestatic 397, 3)) (List.mem_of_getElem? (i := 6) rfl)
theorem dX12_tells_11 : decode cX12_tells 11 = .ok (.ifCond .ne 7, 3) := dgX12_tells_0 (11, (.ifCond .ne 7, 3)) (List.mem_of_getElem? (i := 7) rfl)
theorem dX12_tells_14 : decode cX12_tells 14 = .ok (.ldc2_w 178, 3) := dgX12_tells_0 (14, (.ldc2_w 178, 3)) (List.mem_of_getElem? (i := 8) rfl)
theorem dX12_tells_17 : decode cX12_tells 17 = .ok (.lreturn, 1) := dgX12_tells_0 (17, (.lreturn, 1)) (List.mem_of_getElem? (i := 9) rfl)
theorem dX12_tells_18 : decode cX12_tells 18 = .ok (.aload_n 0, 1) := dgX12_tells_0 (18, (.aload_n 0, 1)) (List.mem_of_getElem? (i := 10) rfl)
theorem dX12_tells_19 : decode cX12_tells 19 = .ok (.sipush 1023, 3) := dgX12_tells_0 (19, (.sipush 1023, 3)) (List.mem_of_getElem? (i := 11) rfl)
theorem dX12_tells_22 : decode cX12_tells 22 = .ok (.iload_n 1, 1) := dgX12_tells_0 (22, (.iload_n 1, 1)) (List.mem_of_getElem? (i := 12) rfl)
theorem dX12_tells_23 : decode cX12_tells 23 = .ok (.iload_n 2, 1) := dgX12_tells_0 (23, (.iload_n 2, 1)) (List.mem_of_getElem? (i := 13) rfl)
theorem dX12_tells_24 : decode cX12_tells 24 = .ok (.iload_n 3, 1) := dgX12_tells_0 (24, (.iload_n 3, 1)) (List.mem_of_getElem? (i := 14) rfl)
theorem dX12_tells_25 : decode cX12_tells 25 = .ok (.invokevirtual 425, 3) := dgX12_tells_0 (25, (.invokevirtual 425, 3)) (List.mem_of_getElem? (i := 15) rfl)
theorem dX12_tells_28 : decode cX12_tells 28 = .ok (.aload_n 0, 1) := dgX12_tells_0 (28, (.aload_n 0, 1)) (List.mem_of_getElem? (i := 16) rfl)
theorem dX12_tells_29 : decode cX12_tells 29 = .ok (.invokevirtual 447, 3) := dgX12_tells_0 (29, (.invokevirtual 447, 3)) (List.mem_of_getElem? (i := 17) rfl)
theorem dX12_tells_32 : decode cX12_tells 32 = .ok (.lstore 4, 2) := dgX12_tells_0 (32, (.lstore 4, 2)) (List.mem_of_getElem? (i := 18) rfl)
theorem dX12_tells_34 : decode cX12_tells 34 = .ok (.aload_n 0, 1) := dgX12_tells_0 (34, (.aload_n 0, 1)) (List.mem_of_getElem? (i := 19) rfl)
theorem dX12_tells_35 : decode cX12_tells 35 = .ok (.invokevirtual 444, 3) := dgX12_tells_0 (35, (.invokevirtual 444, 3)) (List.mem_of_getElem? (i := 20) rfl)
theorem dX12_tells_38 : decode cX12_tells 38 = .ok (.aload_n 0, 1) := dgX12_tells_0 (38, (.aload_n 0, 1)) (List.mem_of_getElem? (i := 21) rfl)
theorem dX12_tells_39 : decode cX12_tells 39 = .ok (.invokevirtual 447, 3) := dgX12_tells_0 (39, (.invokevirtual 447, 3)) (List.mem_of_getElem? (i := 22) rfl)
theorem dX12_tells_42 : decode cX12_tells 42 = .ok (.lload 4, 2) := dgX12_tells_0 (42, (.lload 4, 2)) (List.mem_of_getElem? (i := 23) rfl)
theorem dX12_tells_44 : decode cX12_tells 44 = .ok (.lsub, 1) := dgX12_tells_0 (44, (.lsub, 1)) (List.mem_of_getElem? (i := 24) rfl)
theorem dX12_tells_45 : decode cX12_tells 45 = .ok (.lreturn, 1) := dgX12_tells_0 (45, (.lreturn, 1)) (List.mem_of_getElem? (i := 25) rfl)
theorem dgX12_surely_0 : ∀ r ∈ ([(0, (.aload_n 0, 1)), (1, (.iconst 0, 1)), (2, (.putfield 107, 3)), (5, (.iload_n 1, 1)), (6, (.invokestatic 175, 3)), (9, (.ifCond .ne 5, 3)), (12, (.iconst (-1), 1)), (13, (.ireturn, 1)), (14, (.aload_n 0, 1)), (15, (.invokevirtual 444, 3)), (18, (.iconst (-1), 1)), (19, (.istore_n 2, 1)), (20, (.iconst 0, 1)), (21, (.istore_n 3, 1)), (22, (.iconst 0, 1)), (23, (.istore 4, 2)), (25, (.iload 4, 2)), (27, (.bipush 64, 2)), (29, (.if_icmp .ge 48, 3)), (32, (.aload_n 0, 1)), (33, (.iload_n 1, 1)), (34, (.iload 4, 2)), (36, (.invokevirtual 440, 3)), (39, (.lconst 0, 1)), (40, (.lcmp, 1)), (41, (.ifCond .le 8, 3)), (44, (.iload 4, 2)), (46, (.goto 4, 3)), (49, (.iload_n 2, 1)), (50, (.istore_n 2, 1)), (51, (.iload_n 3, 1)), (52, (.aload_n 0, 1)), (53, (.iload_n 1, 1)), (54, (.iload 4, 2)), (56, (.invokevirtual 440, 3)), (59, (.lconst 0, 1)), (60, (.lcmp, 1)), (61, (.ifCond .le 7, 3)), (64, (.iconst 1, 1)), (65, (.goto 4, 3))] : List (Nat × (Instr × Nat))), decode cX12_surely r.1 = .ok r.2 := by decide +kernel
theorem dX12_surely_0 : decode cX12_surely 0 = .ok (.aload_n 0, 1) := dgX12_surely_0 (0, (.aload_n 0, 1)) (List.mem_of_getElem? (i := 0) rfl)
theorem dX12_surely_1 : decode cX12_surely 1 = .ok (.iconst 0, 1) := dgX12_surely_0 (1, (.iconst 0, 1)) (List.mem_of_getElem? (i := 1) rfl)
theorem dX12_surely_2 : decode cX12_surely 2 = .ok (.putfield 107, 3) := dgX12_surely_0 (2, (.putfield 107, 3)) (List.mem_of_getElem? (i := 2) rfl)
theorem dX12_surely_5 : decode cX12_surely 5 = .ok (.iload_n 1, 1) := dgX12_surely_0 (5, (.iload_n 1, 1)) (List.mem_of_getElem? (i := 3) rfl)
theorem dX12_surely_6 : decode cX12_surely 6 = .ok (.invokestatic 175, 3) := dgX12_surely_0 (6, (.invokestatic 175, 3)) (List.mem_of_getElem? (i := 4) rfl)
theorem dX12_surely_9 : decode cX12_surely 9 = .ok (.ifCond .ne 5, 3) := dgX12_surely_0 (9, (.ifCond .ne 5, 3)) (List.mem_of_getElem? (i := 5) rfl)
theorem dX12_surely_12 : decode cX12_surely 12 = .ok (.iconst (-1), 1) := dgX12_surely_0 (12, (.iconst (-1), 1)) (List.mem_of_getElem? (i := 6) rfl)
theorem dX12_surely_13 : decode cX12_surely 13 = .ok (.ireturn, 1) := dgX12_surely_0 (13, (.ireturn, 1)) (List.mem_of_getElem? (i := 7) rfl)
theorem dX12_surely_14 : decode cX12_surely 14 = .ok (.aload_n 0, 1) := dgX12_surely_0 (14, (.aload_n 0, 1)) (List.mem_of_getElem? (i := 8) rfl)
theorem dX12_surely_15 : decode cX12_surely 15 = .ok (.invokevirtual 444, 3) := dgX12_surely_0 (15, (.invokevirtual 444, 3)) (List.mem_of_getElem? (i := 9) rfl)
theorem dX12_surely_18 : decode cX12_surely 18 = .ok (.iconst (-1), 1) := dgX12_surely_0 (18, (.iconst (-1), 1)) (List.mem_of_getElem? (i := 10) rfl)
theorem dX12_surely_19 : decode cX12_surely 19 = .ok (.istore_n 2, 1) := dgX12_surely_0 (19, (.istore_n 2, 1)) (List.mem_of_getElem? (i := 11) rfl)
theorem dX12_surely_20 : decode cX12_surely 20 = .ok (.iconst 0, 1) := dgX12_surely_0 (20, (.iconst 0, 1)) (List.mem_of_getElem? (i := 12) rfl)
theorem dX12_surely_21 : decode cX12_surely 21 = .ok (.istore_n 3, 1) := dgX12_surely_0 (21, (.istore_n 3, 1)) (List.mem_of_getElem? (i := 13) rfl)
theorem dX12_surely_22 : decode cX12_surely 22 = .ok (.iconst 0, 1) := dgX12_surely_0 (22, (.iconst 0, 1)) (List.mem_of_getElem? (i := 14) rfl)
theorem dX12_surely_23 : decode cX12_surely 23 = .ok (.istore 4, 2) := dgX12_surely_0 (23, (.istore 4, 2)) (List.mem_of_getElem? (i := 15) rfl)
theorem dX12_surely_25 : decode cX12_surely 25 = .ok (.iload 4, 2) := dgX12_surely_0 (25, (.iload 4, 2)) (List.mem_of_getElem? (i := 16) rfl)
theorem dX12_surely_27 : decode cX12_surely 27 = .ok (.bipush 64, 2) := dgX12_surely_0 (27, (.bipush 64, 2)) (List.mem_of_getElem? (i := 17) rfl)
theorem dX12_surely_29 : decode cX12_surely 29 = .ok (.if_icmp .ge 48, 3) := dgX12_surely_0 (29, (.if_icmp .ge 48, 3)) (List.mem_of_getElem? (i := 18) rfl)
theorem dX12_surely_32 : decode cX12_surely 32 = .ok (.aload_n 0, 1) := dgX12_surely_0 (32, (.aload_n 0, 1)) (List.mem_of_getElem? (i := 19) rfl)
theorem dX12_surely_33 : decode cX12_surely 33 = .ok (.iload_n 1, 1) := dgX12_surely_0 (33, (.iload_n 1, 1)) (List.mem_of_getElem? (i := 20) rfl)
theorem dX12_surely_34 : decode cX12_surely 34 = .ok (.iload 4, 2) := dgX12_surely_0 (34, (.iload 4, 2)) (List.mem_of_getElem? (i := 21) rfl)
theorem dX12_surely_36 : decode cX12_surely 36 = .ok (.invokevirtual 440, 3) := dgX12_surely_0 (36, (.invokevirtual 440, 3)) (List.mem_of_getElem? (i := 22) rfl)
theorem dX12_surely_39 : decode cX12_surely 39 = .ok (.lconst 0, 1) := dgX12_surely_0 (39, (.lconst 0, 1)) (List.mem_of_getElem? (i := 23) rfl)
theorem dX12_surely_40 : decode cX12_surely 40 = .ok (.lcmp, 1) := dgX12_surely_0 (40, (.lcmp, 1)) (List.mem_of_getElem? (i := 24) rfl)
theorem dX12_surely_41 : decode cX12_surely 41 = .ok (.ifCond .le 8, 3) := dgX12_surely_0 (41, (.ifCond .le 8, 3)) (List.mem_of_getElem? (i := 25) rfl)
theorem dX12_surely_44 : decode cX12_surely 44 = .ok (.iload 4, 2) := dgX12_surely_0 (44, (.iload 4, 2)) (List.mem_of_getElem? (i := 26) rfl)
theorem dX12_surely_46 : decode cX12_surely 46 = .ok (.goto 4, 3) := dgX12_surely_0 (46, (.goto 4, 3)) (List.mem_of_getElem? (i := 27) rfl)
theorem dX12_surely_49 : decode cX12_surely 49 = .ok (.iload_n 2, 1) := dgX12_surely_0 (49, (.iload_n 2, 1)) (List.mem_of_getElem? (i := 28) rfl)
theorem dX12_surely_50 : decode cX12_surely 50 = .ok (.istore_n 2, 1) := dgX12_surely_0 (50, (.istore_n 2, 1)) (List.mem_of_getElem? (i := 29) rfl)
theorem dX12_surely_51 : decode cX12_surely 51 = .ok (.iload_n 3, 1) := dgX12_surely_0 (51, (.iload_n 3, 1)) (List.mem_of_getElem? (i := 30) rfl)
theorem dX12_surely_52 : decode cX12_surely 52 = .ok (.aload_n 0, 1) := dgX12_surely_0 (52, (.aload_n 0, 1)) (List.mem_of_getElem? (i := 31) rfl)
theorem dX12_surely_53 : decode cX12_surely 53 = .ok (.iload_n 1, 1) := dgX12_surely_0 (53, (.iload_n 1, 1)) (List.mem_of_getElem? (i := 32) rfl)
theorem dX12_surely_54 : decode cX12_surely 54 = .ok (.iload 4, 2) := dgX12_surely_0 (54, (.iload 4, 2)) (List.mem_of_getElem? (i := 33) rfl)
theorem dX12_surely_56 : decode cX12_surely 56 = .ok (.invokevirtual 440, 3) := dgX12_surely_0 (56, (.invokevirtual 440, 3)) (List.mem_of_getElem? (i := 34) rfl)
theorem dX12_surely_59 : decode cX12_surely 59 = .ok (.lconst 0, 1) := dgX12_surely_0 (59, (.lconst 0, 1)) (List.mem_of_getElem? (i := 35) rfl)
theorem dX12_surely_60 : decode cX12_surely 60 = .ok (.lcmp, 1) := dgX12_surely_0 (60, (.lcmp, 1)) (List.mem_of_getElem? (i := 36) rfl)
theorem dX12_surely_61 : decode cX12_surely 61 = .ok (.ifCond .le 7, 3) := dgX12_surely_0 (61, (.ifCond .le 7, 3)) (List.mem_of_getElem? (i := 37) rfl)
theorem dX12_surely_64 : decode cX12_surely 64 = .ok (.iconst 1, 1) := dgX12_surely_0 (64, (.iconst 1, 1)) (List.mem_of_getElem? (i := 38) rfl)
theorem dX12_surely_65 : decode cX12_surely 65 = .ok (.goto 4, 3) := dgX12_surely_0 (65, (.goto 4, 3)) (List.mem_of_getElem? (i := 39) rfl)
theorem dgX12_surely_1 : ∀ r ∈ ([(68, (.iconst 0, 1)), (69, (.iadd, 1)), (70, (.istore_n 3, 1)), (71, (.iinc 4 1, 3)), (74, (.goto (-49), 3)), (77, (.iload_n 3, 1)), (78, (.iconst 1, 1)), (79, (.if_icmp .ne 7, 3)), (82, (.iload_n 2, 1)), (83, (.goto 4, 3)), (86, (.iconst (-1), 1)), (87, (.ireturn, 1))] : List (Nat × (Instr × Nat))), decode cX12_surely r.1 = .ok r.2 := by decide +kernel
theorem dX12_surely_68 : decode cX12_surely 68 = .ok (.iconst 0, 1) := dgX12_surely_1 (68, (.iconst 0, 1)) (List.mem_of_getElem? (i := 0) rfl)
theorem dX12_surely_69 : decode cX12_surely 69 = .ok (.iadd, 1) := dgX12_surely_1 (69, (.iadd, 1)) (List.mem_of_getElem? (i := 1) rfl)
theorem dX12_surely_70 : decode cX12_surely 70 = .ok (.istore_n 3, 1) := dgX12_surely_1 (70, (.istore_n 3, 1)) (List.mem_of_getElem? (i := 2) rfl)
theorem dX12_surely_71 : decode cX12_surely 71 = .ok (.iinc 4 1, 3) := dgX12_surely_1 (71, (.iinc 4 1, 3)) (List.mem_of_getElem? (i := 3) rfl)
theorem dX12_surely_74 : decode cX12_surely 74 = .ok (.goto (-49), 3) := dgX12_surely_1 (74, (.goto (-49), 3)) (List.mem_of_getElem? (i := 4) rfl)
theorem dX12_surely_77 : decode cX12_surely 77 = .ok (.iload_n 3, 1) := dgX12_surely_1 (77, (.iload_n 3, 1)) (List.mem_of_getElem? (i := 5) rfl)
theorem dX12_surely_78 : decode cX12_surely 78 = .ok (.iconst 1, 1) := dgX12_surely_1 (78, (.iconst 1, 1)) (List.mem_of_getElem? (i := 6) rfl)
theorem dX12_surely_79 : decode cX12_surely 79 = .ok (.if_icmp .ne 7, 3) := dgX12_surely_1 (79, (.if_icmp .ne 7, 3)) (List.mem_of_getElem? (i := 7) rfl)
theorem dX12_surely_82 : decode cX12_surely 82 = .ok (.iload_n 2, 1) := dgX12_surely_1 (82, (.iload_n 2, 1)) (List.mem_of_getElem? (i := 8) rfl)
theorem dX12_surely_83 : decode cX12_surely 83 = .ok (.goto 4, 3) := dgX12_surely_1 (83, (.goto 4, 3)) (List.mem_of_getElem? (i := 9) rfl)
theorem dX12_surely_86 : decode cX12_surely 86 = .ok (.iconst (-1), 1) := dgX12_surely_1 (86, (.iconst (-1), 1)) (List.mem_of_getElem? (i := 10) rfl)
theorem dX12_surely_87 : decode cX12_surely 87 = .ok (.ireturn, 1) := dgX12_surely_1 (87, (.ireturn, 1)) (List.mem_of_getElem? (i := 11) rfl)
