set_option maxHeartbeats 4000000 in
set_option maxRecDepth 100000 in
theorem n_first (l : Launch) (G : g5_G) (b_o b_ro b_se b_re b_pt b_rf b_im b_ke b_tp b_nl b_op b_ar b_pi b_pa b_ws b_hw b_ip b_ah b_be b_me b_tr b_ld b_wn : Nat) (sz : Nat) (u_th : Int32) (u_sa : Int32) (u_fd : Int32) (u_td : Int32) (u_fr : Int32) (u_to : Int32) (u_so : Int32) (u_fa : Int32) (u_bd : Int32) (u_nc : Int32) (u_co : Int32) (u_le : Int32) (u_pd : Int32) (u_od : Int32) (u_la : Int32) (u_bk : Int32) (u_ce : Int32) (u_ho : Int32) (u_wy : Int32) (u_bt : Int32) (u_ps : Int32) (u_tg : Int32) (u_sn : Int32) (u_ic : Int32) (u_wd : Int32) (u_id : Int32) (p_1 : Int32) (p_2 : Int32) (u_wo : Int64) (u_va : Int64) (u_su : Int64) (u_st : Int64) (v_ro : Nat → Int32) (v_se : Nat → Int64) (v_re : Nat → Int64) (v_pt : Nat → Int32) (h_u_td : 0 ≤ u_td.toInt ∧ u_td.toInt ≤ 400) (h_u_fr : 0 ≤ u_fr.toInt ∧ u_fr.toInt ≤ 400) (h_u_to : 0 ≤ u_to.toInt ∧ u_to.toInt ≤ 400) (h_u_bd : 0 ≤ u_bd.toInt ∧ u_bd.toInt ≤ 1) (h_u_nc : 0 ≤ u_nc.toInt ∧ u_nc.toInt ≤ 12) (h_u_co : 0 ≤ u_co.toInt ∧ u_co.toInt ≤ 400) (h_u_pd : 0 ≤ u_pd.toInt ∧ u_pd.toInt ≤ 400) (h_u_la : 0 ≤ u_la.toInt ∧ u_la.toInt ≤ 4840) (h_u_bk : 0 ≤ u_bk.toInt ∧ u_bk.toInt ≤ 1) (h_u_ce : 0 ≤ u_ce.toInt ∧ u_ce.toInt ≤ 63) (h_u_ho : 0 ≤ u_ho.toInt ∧ u_ho.toInt ≤ 23) (h_u_wy : 0 ≤ u_wy.toInt ∧ u_wy.toInt ≤ 3) (h_u_bt : 0 ≤ u_bt.toInt ∧ u_bt.toInt ≤ 1000000) (h_u_ps : 0 ≤ u_ps.toInt ∧ u_ps.toInt ≤ 200) (h_u_ic : 0 ≤ u_ic.toInt ∧ u_ic.toInt ≤ 1) (h_u_id : 0 ≤ u_id.toInt ∧ u_id.toInt ≤ 1) (r_ro : MI v_ro) (r_pt : PTI v_pt) : Met l yX12_first (wsG yX12_first cX12_first 6 (some .int)) ({ frames := 8, cells := 0, slots := 0, locals := 203 }) (va_Pc [.ref b_o, .int p_1, .int p_2] (g5_P G [(b_o, (oc12 u_th u_sa b_rf b_ro b_im b_ke u_fd b_tp u_td u_fr u_to u_so u_wo u_fa u_bd u_nc b_nl u_co b_op b_ar u_le b_pi b_pa u_pd u_od b_ws b_hw u_la b_se b_re u_bk u_va u_su u_ce u_ho u_wy u_bt u_ps b_pt u_tg u_sn b_ip u_ic b_ah b_be b_me u_wd b_tr b_ld u_st b_wn u_id)), (b_ro, (arI G 5740 v_ro)), (b_se, (arJ G 13 v_se)), (b_re, (arJ G 400 v_re)), (b_pt, (arI G 200 v_pt))] sz)) (va_Qi (fun (r : Int32) (u : va_W) => (∃ (o_r : Int32) (o_th : Int32) (o_la : Int32) (o_bk : Int32) (o_va : Int64) (o_su : Int64) (o_ce : Int32) (o_ho : Int32) (o_wy : Int32) (o_bt : Int32) (o_ps : Int32) (o_tg : Int32) (o_sn : Int32) (o_se : Nat → Int64) (o_re : Nat → Int64) (o_pt : Nat → Int32), (0 ≤ o_la.toInt ∧ o_la.toInt ≤ 4840) ∧ (0 ≤ o_bk.toInt ∧ o_bk.toInt ≤ 1) ∧ (0 ≤ o_ce.toInt ∧ o_ce.toInt ≤ 63) ∧ (0 ≤ o_ho.toInt ∧ o_ho.toInt ≤ 23) ∧ (0 ≤ o_wy.toInt ∧ o_wy.toInt ≤ 3) ∧ (0 ≤ o_bt.toInt ∧ o_bt.toInt ≤ 1000000) ∧ (0 ≤ o_ps.toInt ∧ o_ps.toInt ≤ 200) ∧ (PTI o_pt) ∧ (r = o_r) ∧ (u = [(b_o, (oc12 o_th u_sa b_rf b_ro b_im b_ke u_fd b_tp u_td u_fr u_to u_so u_wo u_fa u_bd u_nc b_nl u_co b_op b_ar u_le b_pi b_pa u_pd u_od b_ws b_hw o_la b_se b_re o_bk o_va o_su o_ce o_ho o_wy o_bt o_ps b_pt o_tg o_sn b_ip u_ic b_ah b_be b_me u_wd b_tr b_ld u_st b_wn u_id)), (b_ro, (arI G 5740 v_ro)), (b_se, (arJ G 13 o_se)), (b_re, (arJ G 400 o_re)), (b_pt, (arI G 200 o_pt))]))) (g5_B G (va_A [(b_o, (oc12 u_th u_sa b_rf b_ro b_im b_ke u_fd b_tp u_td u_fr u_to u_so u_wo u_fa u_bd u_nc b_nl u_co b_op b_ar u_le b_pi b_pa u_pd u_od b_ws b_hw u_la b_se b_re u_bk u_va u_su u_ce u_ho u_wy u_bt u_ps b_pt u_tg u_sn b_ip u_ic b_ah b_be b_me u_wd b_tr b_ld u_st b_wn u_id)), (b_ro, (arI G 5740 v_ro)), (b_se, (arJ G 13 v_se)), (b_re, (arJ G 400 v_re)), (b_pt, (arI G 200 v_pt))] sz)) (va_A [(b_o, (oc12 u_th u_sa b_rf b_ro b_im b_ke u_fd b_tp u_td u_fr u_to u_so u_wo u_fa u_bd u_nc b_nl u_co b_op b_ar u_le b_pi b_pa u_pd u_od b_ws b_hw u_la b_se b_re u_bk u_va u_su u_ce u_ho u_wy u_bt u_ps b_pt u_tg u_sn b_ip u_ic b_ah b_be b_me u_wd b_tr b_ld u_st b_wn u_id)), (b_ro, (arI G 5740 v_ro)), (b_se, (arJ G 13 v_se)), (b_re, (arJ G 400 v_re)), (b_pt, (arI G 200 v_pt))] sz)) 0 0 (va_A [(b_o, (oc12 u_th u_sa b_rf b_ro b_im b_ke u_fd b_tp u_td u_fr u_to u_so u_wo u_fa u_bd u_nc b_nl u_co b_op b_ar u_le b_pi b_pa u_pd u_od b_ws b_hw u_la b_se b_re u_bk u_va u_su u_ce u_ho u_wy u_bt u_ps b_pt u_tg u_sn b_ip u_ic b_ah b_be b_me u_wd b_tr b_ld u_st b_wn u_id)), (b_ro, (arI G 5740 v_ro)), (b_se, (arJ G 13 v_se)), (b_re, (arJ G 400 v_re)), (b_pt, (arI G 200 v_pt))] sz) := by
  refine Met.ofW (cc := cX12_first) (maxL := 6) (ret := (some .int)) (by decide) rfl ?_
  intro p e s m args below meth c s₁ B hml hv
  obtain ⟨rfl, hsz, hP, hK, hD0, hN, hT⟩ := hv
  have hx := B.exec
  have hb := B.bytes
  have hr := B.returns
  have hts : ∀ w ∈ tblG, w.before _ s = true := fun w h => atoms_spec (ws := (wsG yX12_first cX12_first 6 (some .int))) B.pre w (List.mem_cons_of_mem _ h)
  have hown : s.vm.findClass RX12 = some m.cls := findClass_of_methodNamed B.named
  have hlocks := B.notSynchronized
  subst hsz
  have hD := hD0.self (sz := s.heap.size)
  generalize hAe : va_A [(b_o, (oc12 u_th u_sa b_rf b_ro b_im b_ke u_fd b_tp u_td u_fr u_to u_so u_wo u_fa u_bd u_nc b_nl u_co b_op b_ar u_le b_pi b_pa u_pd u_od b_ws b_hw u_la b_se b_re u_bk u_va u_su u_ce u_ho u_wy u_bt u_ps b_pt u_tg u_sn b_ip u_ic b_ah b_be b_me u_wd b_tr b_ld u_st b_wn u_id)), (b_ro, (arI G 5740 v_ro)), (b_se, (arJ G 13 v_se)), (b_re, (arJ G 400 v_re)), (b_pt, (arI G 200 v_pt))] s.heap.size = A at hD hT ⊢
  have hA : ∀ q : Nat, s.heap.size ≤ q → A q := fun q h => by rw [← hAe]; exact Or.inr h
  have hS : va_S A s.heap s.heap [] := va_S.rf
  have hP : va_P G.1 vwCl [(b_o, (oc12 u_th u_sa b_rf b_ro b_im b_ke u_fd b_tp u_td u_fr u_to u_so u_wo u_fa u_bd u_nc b_nl u_co b_op b_ar u_le b_pi b_pa u_pd u_od b_ws b_hw u_la b_se b_re u_bk u_va u_su u_ce u_ho u_wy u_bt u_ps b_pt u_tg u_sn b_ip u_ic b_ah b_be b_me u_wd b_tr b_ld u_st b_wn u_id)), (b_ro, (arI G 5740 v_ro)), (b_se, (arJ G 13 v_se)), (b_re, (arJ G 400 v_re)), (b_pt, (arI G 200 v_pt))] s.heap := hP
  have hl := lv_entry ([.ref b_o, .int p_1, .int p_2]) (n := 6) (Nat.le_of_ble_eq_true rfl)
  rw [lg_entry_eq]
  generalize (lg_sl ([.ref b_o, .int p_1, .int p_2]) ++ List.replicate (6 - (lg_sl ([.ref b_o, .int p_1, .int p_2])).length) Slot.unset).toArray = ls at hl ⊢
  have hl : lv_has ls 6 [(0, .ref b_o), (1, .int p_1), (2, .int p_2)] := hl
  refine lv_aload_n hx hb dX12_first_0 rfl (lv_at hl 0 rfl) ?_
  refine lv_iconst (v := 0) hx hb dX12_first_1 (by decide) ?_
  refine va_put (D := G.1) (ci := 12) (v := .int 0) (ty := .int) (C := RX12) (T := TX12) (N := 52) hx hb hts inG_X12 tyX12 tyX12_ok nmX12 hown hK hP hD hS 0 rfl rfl 0 (by decide) (hts _ fl_X12_107) (fun _ h9 => h9) rfl (by decide +kernel) rfl rfl (Nat.le_of_ble_eq_true rfl) dX12_first_2 (fun H locs hP hD hS => ?_)
  refine g5_rs [(b_o, (oc12 0 u_sa b_rf b_ro b_im b_ke u_fd b_tp u_td u_fr u_to u_so u_wo u_fa u_bd u_nc b_nl u_co b_op b_ar u_le b_pi b_pa u_pd u_od b_ws b_hw u_la b_se b_re u_bk u_va u_su u_ce u_ho u_wy u_bt u_ps b_pt u_tg u_sn b_ip u_ic b_ah b_be b_me u_wd b_tr b_ld u_st b_wn u_id)), (b_ro, (arI G 5740 v_ro)), (b_se, (arJ G 13 v_se)), (b_re, (arJ G 400 v_re)), (b_pt, (arI G 200 v_pt))] hP hD (fun hP hD => ?_)
  refine lv_aload_n hx hb dX12_first_5 rfl (lv_at hl 0 rfl) ?_
  refine lv_iload_n hx hb dX12_first_6 rfl (lv_at hl 1 rfl) ?_
  obtain ⟨hPc, hDc, hFc⟩ := g5_sub3 (wc := [(b_o, (oc12 0 u_sa b_rf b_ro b_im b_ke u_fd b_tp u_td u_fr u_to u_so u_wo u_fa u_bd u_nc b_nl u_co b_op b_ar u_le b_pi b_pa u_pd u_od b_ws b_hw u_la b_se b_re u_bk u_va u_su u_ce u_ho u_wy u_bt u_ps b_pt u_tg u_sn b_ip u_ic b_ah b_be b_me u_wd b_tr b_ld u_st b_wn u_id)), (b_ro, (arI G 5740 v_ro))]) hP hD hS hA [0, 1] (by decide) rfl
  refine va_calli (va_runV (As := [.int p_1]) (rest := []) ⟨hx, hb, hml, hown, hts⟩ (n_isBody l G b_o b_ro b_rf b_im b_ke b_tp b_nl b_op b_ar b_pi b_pa b_ws b_hw b_se b_re b_pt b_ip b_ah b_be b_me b_tr b_ld b_wn H.size 0 u_sa u_fd u_td u_fr u_to u_so u_fa u_bd u_nc u_co u_le u_pd u_od u_la u_bk u_ce u_ho u_wy u_bt u_ps u_tg u_sn u_ic u_wd u_id p_1 u_wo u_va u_su u_st v_ro h_u_td h_u_fr h_u_to h_u_bd h_u_nc h_u_co h_u_pd h_u_la h_u_bk h_u_ce h_u_ho h_u_wy h_u_bt h_u_ps h_u_ic h_u_id (r_ro)) (cwV 1 hts gV_X12_180 rfl rfl rfl hv_X12_isBody ⟨Nat.le_of_ble_eq_true rfl, Nat.le_of_ble_eq_true rfl⟩) (g5_preV hPc hK hDc hN hT hS hFc (ci := 12) (q0 := 0) rfl rfl) rfl rfl hl.1 rfl (lv_room (Nat.le_of_ble_eq_true rfl)) dX12_first_7 ⟨Nat.le_of_ble_eq_true rfl, Nat.le_of_ble_eq_true rfl⟩) hS (fun q _ h => hFc q h) hFc (fun r u t H1 locs ht hvm hw hB hz1 hk1 hS => ?_)
  obtain ⟨hP1, hD1⟩ := hB
  rw [ht] at hP1
  rcases hw with ⟨i_1, rfl, rfl⟩ | ⟨rfl, rfl⟩
  ·
    have i_1 : 0 ≤ p_1.toInt ∧ p_1.toInt ≤ 4 := i_1
    obtain ⟨hP, hD⟩ := va_join (wr := [(b_se, (arJ G 13 v_se)), (b_re, (arJ G 400 v_re)), (b_pt, (arI G 200 v_pt))]) hP hD [0, 1] [2, 3, 4] rfl rfl (by decide) (by decide) hk1 hFc hP1 hD1
    generalize H1 = H at hP hS ⊢
    refine g5_rs [(b_se, (arJ G 13 v_se)), (b_re, (arJ G 400 v_re)), (b_pt, (arI G 200 v_pt)), (b_o, (oc12 0 u_sa b_rf b_ro b_im b_ke u_fd b_tp u_td u_fr u_to u_so u_wo u_fa u_bd u_nc b_nl u_co b_op b_ar u_le b_pi b_pa u_pd u_od b_ws b_hw u_la b_se b_re u_bk u_va u_su u_ce u_ho u_wy u_bt u_ps b_pt u_tg u_sn b_ip u_ic b_ah b_be b_me u_wd b_tr b_ld u_st b_wn u_id)), (b_ro, (arI G 5740 v_ro))] hP hD (fun hP hD => ?_)
    refine lv_if_eq (tgt := 25) hx hb dX12_first_10 (by decide) (fun c_2 => ?_) (fun c_2 => ?_)
    ·
      exact absurd c_2 (by decide)
    ·
      refine lv_iload_n hx hb dX12_first_13 rfl (lv_at hl 2 rfl) ?_
      refine lv_i2l (v := p_2.toInt64) hx hb dX12_first_14 rfl ?_
      refine lv_lconst (v := 0) hx hb dX12_first_15 (by decide) ?_
      refine lv_ldc2 (v := 2) hx hb hown (hts _ kl_X12_411) dX12_first_16 ?_
      obtain ⟨hPc, hDc, hFc⟩ := g5_sub3 (wc := []) hP hD hS hA [] (by decide) rfl
      refine va_calli (va_runS (As := [.long p_2.toInt64, .long 0, .long 2]) (rest := []) ⟨hx, hb, hml, hown, hts⟩ (n_in_0_2 l G H.size p_2) (va_cwS 3 hts gS_X12_121 rfl rfl rfl hs_X12_in ⟨Nat.le_of_ble_eq_true rfl, Nat.le_of_ble_eq_true rfl⟩) (g5_preS hPc hK hDc hN hT hS hFc) rfl rfl hl.1 rfl (lv_room (Nat.le_of_ble_eq_true rfl)) dX12_first_19 ⟨Nat.le_of_ble_eq_true rfl, Nat.le_of_ble_eq_true rfl⟩) hS (fun q _ h => hFc q h) hFc (fun r u t H1 locs ht hvm hw hB hz1 hk1 hS => ?_)
      obtain ⟨hP1, hD1⟩ := hB
      rw [ht] at hP1
      rcases hw with ⟨i_3, rfl, rfl⟩ | ⟨i_4, rfl, rfl⟩
      ·
        have i_3 : p_2.toInt < 0 ∨ 2 < p_2.toInt := i_3
        have hP := g5_same hP hk1
        generalize H1 = H at hP hS ⊢
        refine lv_if_ne (tgt := 27) hx hb dX12_first_22 (by decide) (fun c_5 => ?_) (fun c_5 => ?_)
        ·
          exact absurd c_5 (by decide)
        ·
          refine lv_iconst (v := (-1)) hx hb dX12_first_25 (by decide) ?_
          exact W.iret (v := (-1)) hx hb hr (fun t ht hW => ⟨⟨(-1), [(b_o, (oc12 0 u_sa b_rf b_ro b_im b_ke u_fd b_tp u_td u_fr u_to u_so u_wo u_fa u_bd u_nc b_nl u_co b_op b_ar u_le b_pi b_pa u_pd u_od b_ws b_hw u_la b_se b_re u_bk u_va u_su u_ce u_ho u_wy u_bt u_ps b_pt u_tg u_sn b_ip u_ic b_ah b_be b_me u_wd b_tr b_ld u_st b_wn u_id)), (b_ro, (arI G 5740 v_ro)), (b_se, (arJ G 13 v_se)), (b_re, (arJ G 400 v_re)), (b_pt, (arI G 200 v_pt))], rfl, ⟨(-1), 0, u_la, u_bk, u_va, u_su, u_ce, u_ho, u_wy, u_bt, u_ps, u_tg, u_sn, v_se, v_re, v_pt, h_u_la, h_u_bk, h_u_ce, h_u_ho, h_u_wy, h_u_bt, h_u_ps, r_pt, rfl, rfl⟩, by rw [ht]; exact hP.sub [3, 4, 0, 1, 2] rfl, hD.sub [3, 4, 0, 1, 2] (by decide) rfl⟩, hS.F ht⟩) hS.2.2 dX12_first_26
      ·
        have i_4 : 0 ≤ p_2.toInt ∧ p_2.toInt ≤ 2 := i_4
        have hP := g5_same hP hk1
        generalize H1 = H at hP hS ⊢
        refine lv_if_ne (tgt := 27) hx hb dX12_first_22 (by decide) (fun c_6 => ?_) (fun c_6 => ?_)
        ·
          refine lv_iconst (v := 0) hx hb dX12_first_27 (by decide) ?_
          refine lv_istore_n (lv' := [(3, .int 0), (0, .ref b_o), (1, .int p_1), (2, .int p_2)]) hx hb dX12_first_28 rfl hl (by decide) rfl (fun ls hl => ?_)
          refine g5_loop (α := (Int32) × (Int32) × (Int32) × (Int64) × (Int64) × (Int32) × (Int32) × (Int32) × (Int32) × (Int32) × (Int32) × (Int32) × (Nat → Int64) × (Nat → Int64) × (Nat → Int32)) (fun (q : (Int32) × (Int32) × (Int32) × (Int64) × (Int64) × (Int32) × (Int32) × (Int32) × (Int32) × (Int32) × (Int32) × (Int32) × (Nat → Int64) × (Nat → Int64) × (Nat → Int32)) (ls : Array Slot) (H : Heap) (locs : List Loc) => match q with | (k29_3, k29_la, k29_bk, k29_va, k29_su, k29_ce, k29_ho, k29_wy, k29_bt, k29_ps, k29_tg, k29_sn, k29_se, k29_re, k29_pt) => lv_has ls 6 [(3, .int k29_3), (0, .ref b_o), (1, .int p_1), (2, .int p_2)] ∧ va_P G.1 vwCl [(b_se, (arJ G 13 k29_se)), (b_re, (arJ G 400 k29_re)), (b_pt, (arI G 200 k29_pt)), (b_o, (oc12 0 u_sa b_rf b_ro b_im b_ke u_fd b_tp u_td u_fr u_to u_so u_wo u_fa u_bd u_nc b_nl u_co b_op b_ar u_le b_pi b_pa u_pd u_od b_ws b_hw k29_la b_se b_re k29_bk k29_va k29_su k29_ce k29_ho k29_wy k29_bt k29_ps b_pt k29_tg k29_sn b_ip u_ic b_ah b_be b_me u_wd b_tr b_ld u_st b_wn u_id)), (b_ro, (arI G 5740 v_ro))] H ∧ va_D A [(b_se, (arJ G 13 k29_se)), (b_re, (arJ G 400 k29_re)), (b_pt, (arI G 200 k29_pt)), (b_o, (oc12 0 u_sa b_rf b_ro b_im b_ke u_fd b_tp u_td u_fr u_to u_so u_wo u_fa u_bd u_nc b_nl u_co b_op b_ar u_le b_pi b_pa u_pd u_od b_ws b_hw k29_la b_se b_re k29_bk k29_va k29_su k29_ce k29_ho k29_wy k29_bt k29_ps b_pt k29_tg k29_sn b_ip u_ic b_ah b_be b_me u_wd b_tr b_ld u_st b_wn u_id)), (b_ro, (arI G 5740 v_ro))] ∧ va_S A s.heap H locs ∧ (0 ≤ k29_3.toInt ∧ k29_3.toInt ≤ 24) ∧ (0 ≤ k29_la.toInt ∧ k29_la.toInt ≤ 4840) ∧ (0 ≤ k29_bk.toInt ∧ k29_bk.toInt ≤ 1) ∧ (0 ≤ k29_ce.toInt ∧ k29_ce.toInt ≤ 63) ∧ (0 ≤ k29_ho.toInt ∧ k29_ho.toInt ≤ 23) ∧ (0 ≤ k29_wy.toInt ∧ k29_wy.toInt ≤ 3) ∧ (0 ≤ k29_bt.toInt ∧ k29_bt.toInt ≤ 1000000) ∧ (0 ≤ k29_ps.toInt ∧ k29_ps.toInt ≤ 200) ∧ (PTI k29_pt)) (fun (q : (Int32) × (Int32) × (Int32) × (Int64) × (Int64) × (Int32) × (Int32) × (Int32) × (Int32) × (Int32) × (Int32) × (Int32) × (Nat → Int64) × (Nat → Int64) × (Nat → Int32)) => match q with | (k29_3, k29_la, k29_bk, k29_va, k29_su, k29_ce, k29_ho, k29_wy, k29_bt, k29_ps, k29_tg, k29_sn, k29_se, k29_re, k29_pt) => Int.toNat (24 - k29_3.toInt)) (0, u_la, u_bk, u_va, u_su, u_ce, u_ho, u_wy, u_bt, u_ps, u_tg, u_sn, v_se, v_re, v_pt) ⟨lv_sub hl [0, 1, 2, 3] rfl, hP, hD, hS, ⟨by decide, by decide⟩, h_u_la, h_u_bk, h_u_ce, h_u_ho, h_u_wy, h_u_bt, h_u_ps, r_pt⟩ ?_
          rintro ⟨k29_3, k29_la, k29_bk, k29_va, k29_su, k29_ce, k29_ho, k29_wy, k29_bt, k29_ps, k29_tg, k29_sn, k29_se, k29_re, k29_pt⟩ ls H locs ⟨hl, hP, hD, hS, i_7, i_8, i_9, i_10, i_11, i_12, i_13, i_14, i_15⟩ ih_29_16
          have hl : lv_has ls 6 [(3, .int k29_3), (0, .ref b_o), (1, .int p_1), (2, .int p_2)] := hl
          have i_7 : 0 ≤ k29_3.toInt ∧ k29_3.toInt ≤ 24 := i_7
          have i_8 : 0 ≤ k29_la.toInt ∧ k29_la.toInt ≤ 4840 := i_8
          have i_9 : 0 ≤ k29_bk.toInt ∧ k29_bk.toInt ≤ 1 := i_9
          have i_10 : 0 ≤ k29_ce.toInt ∧ k29_ce.toInt ≤ 63 := i_10
          have i_11 : 0 ≤ k29_ho.toInt ∧ k29_ho.toInt ≤ 23 := i_11
          have i_12 : 0 ≤ k29_wy.toInt ∧ k29_wy.toInt ≤ 3 := i_12
          have i_13 : 0 ≤ k29_bt.toInt ∧ k29_bt.toInt ≤ 1000000 := i_13
          have i_14 : 0 ≤ k29_ps.toInt ∧ k29_ps.toInt ≤ 200 := i_14
          have i_15 : PTI k29_pt := i_15
          refine g5_rs [(b_se, (arJ G 13 k29_se)), (b_re, (arJ G 400 k29_re)), (b_pt, (arI G 200 k29_pt)), (b_o, (oc12 0 u_sa b_rf b_ro b_im b_ke u_fd b_tp u_td u_fr u_to u_so u_wo u_fa u_bd u_nc b_nl u_co b_op b_ar u_le b_pi b_pa u_pd u_od b_ws b_hw k29_la b_se b_re k29_bk k29_va k29_su k29_ce k29_ho k29_wy k29_bt k29_ps b_pt k29_tg k29_sn b_ip u_ic b_ah b_be b_me u_wd b_tr b_ld u_st b_wn u_id)), (b_ro, (arI G 5740 v_ro))] hP hD (fun hP hD => ?_)
          refine lv_iload_n hx hb dX12_first_29 rfl (lv_at hl 0 rfl) ?_
          refine lv_bipush (v := 24) hx hb dX12_first_30 (by decide) ?_
          refine lv_icmp_ge (tgt := 108) hx hb dX12_first_32 (by decide) (fun c_17 => ?_) (fun c_17 => ?_)
          ·
            have i_17 : k29_3.toInt ≥ 24 := by have z := g5_ge (a := k29_3.toInt) (b := 24) (by rfl) (by decide) c_17; omega
            refine lv_iconst (v := (-1)) hx hb dX12_first_108 (by decide) ?_
            exact W.iret (v := (-1)) hx hb hr (fun t ht hW => ⟨⟨(-1), [(b_o, (oc12 0 u_sa b_rf b_ro b_im b_ke u_fd b_tp u_td u_fr u_to u_so u_wo u_fa u_bd u_nc b_nl u_co b_op b_ar u_le b_pi b_pa u_pd u_od b_ws b_hw k29_la b_se b_re k29_bk k29_va k29_su k29_ce k29_ho k29_wy k29_bt k29_ps b_pt k29_tg k29_sn b_ip u_ic b_ah b_be b_me u_wd b_tr b_ld u_st b_wn u_id)), (b_ro, (arI G 5740 v_ro)), (b_se, (arJ G 13 k29_se)), (b_re, (arJ G 400 k29_re)), (b_pt, (arI G 200 k29_pt))], rfl, ⟨(-1), 0, k29_la, k29_bk, k29_va, k29_su, k29_ce, k29_ho, k29_wy, k29_bt, k29_ps, k29_tg, k29_sn, k29_se, k29_re, k29_pt, i_8, i_9, i_10, i_11, i_12, i_13, i_14, i_15, rfl, rfl⟩, by rw [ht]; exact hP.sub [3, 4, 0, 1, 2] rfl, hD.sub [3, 4, 0, 1, 2] (by decide) rfl⟩, hS.F ht⟩) hS.2.2 dX12_first_109
          ·
            have i_17 : k29_3.toInt < 24 := by have z := g5_geN (a := k29_3.toInt) (b := 24) (by rfl) (by decide) c_17; omega
            refine lv_iconst (v := 0) hx hb dX12_first_35 (by decide) ?_
            refine lv_istore (lv' := [(4, .int 0), (3, .int k29_3), (0, .ref b_o), (1, .int p_1), (2, .int p_2)]) hx hb dX12_first_36 hl (by decide) rfl (fun ls hl => ?_)
            refine g5_loop (α := (Int32) × (Int32) × (Int32) × (Int64) × (Int64) × (Int32) × (Int32) × (Int32) × (Int32) × (Int32) × (Int32) × (Int32) × (Nat → Int64) × (Nat → Int64) × (Nat → Int32)) (fun (q : (Int32) × (Int32) × (Int32) × (Int64) × (Int64) × (Int32) × (Int32) × (Int32) × (Int32) × (Int32) × (Int32) × (Int32) × (Nat → Int64) × (Nat → Int64) × (Nat → Int32)) (ls : Array Slot) (H : Heap) (locs : List Loc) => match q with | (k38_4, k38_la, k38_bk, k38_va, k38_su, k38_ce, k38_ho, k38_wy, k38_bt, k38_ps, k38_tg, k38_sn, k38_se, k38_re, k38_pt) => lv_has ls 6 [(4, .int k38_4), (3, .int k29_3), (0, .ref b_o), (1, .int p_1), (2, .int p_2)] ∧ va_P G.1 vwCl [(b_se, (arJ G 13 k38_se)), (b_re, (arJ G 400 k38_re)), (b_pt, (arI G 200 k38_pt)), (b_o, (oc12 0 u_sa b_rf b_ro b_im b_ke u_fd b_tp u_td u_fr u_to u_so u_wo u_fa u_bd u_nc b_nl u_co b_op b_ar u_le b_pi b_pa u_pd u_od b_ws b_hw k38_la b_se b_re k38_bk k38_va k38_su k38_ce k38_ho k38_wy k38_bt k38_ps b_pt k38_tg k38_sn b_ip u_ic b_ah b_be b_me u_wd b_tr b_ld u_st b_wn u_id)), (b_ro, (arI G 5740 v_ro))] H ∧ va_D A [(b_se, (arJ G 13 k38_se)), (b_re, (arJ G 400 k38_re)), (b_pt, (arI G 200 k38_pt)), (b_o, (oc12 0 u_sa b_rf b_ro b_im b_ke u_fd b_tp u_td u_fr u_to u_so u_wo u_fa u_bd u_nc b_nl u_co b_op b_ar u_le b_pi b_pa u_pd u_od b_ws b_hw k38_la b_se b_re k38_bk k38_va k38_su k38_ce k38_ho k38_wy k38_bt k38_ps b_pt k38_tg k38_sn b_ip u_ic b_ah b_be b_me u_wd b_tr b_ld u_st b_wn u_id)), (b_ro, (arI G 5740 v_ro))] ∧ va_S A s.heap H locs ∧ (0 ≤ k38_4.toInt ∧ k38_4.toInt ≤ 5) ∧ (0 ≤ k38_la.toInt ∧ k38_la.toInt ≤ 4840) ∧ (0 ≤ k38_bk.toInt ∧ k38_bk.toInt ≤ 1) ∧ (0 ≤ k38_ce.toInt ∧ k38_ce.toInt ≤ 63) ∧ (0 ≤ k38_ho.toInt ∧ k38_ho.toInt ≤ 23) ∧ (0 ≤ k38_wy.toInt ∧ k38_wy.toInt ≤ 3) ∧ (0 ≤ k38_bt.toInt ∧ k38_bt.toInt ≤ 1000000) ∧ (0 ≤ k38_ps.toInt ∧ k38_ps.toInt ≤ 200) ∧ (PTI k38_pt)) (fun (q : (Int32) × (Int32) × (Int32) × (Int64) × (Int64) × (Int32) × (Int32) × (Int32) × (Int32) × (Int32) × (Int32) × (Int32) × (Nat → Int64) × (Nat → Int64) × (Nat → Int32)) => match q with | (k38_4, k38_la, k38_bk, k38_va, k38_su, k38_ce, k38_ho, k38_wy, k38_bt, k38_ps, k38_tg, k38_sn, k38_se, k38_re, k38_pt) => Int.toNat (5 - k38_4.toInt)) (0, k29_la, k29_bk, k29_va, k29_su, k29_ce, k29_ho, k29_wy, k29_bt, k29_ps, k29_tg, k29_sn, k29_se, k29_re, k29_pt) ⟨lv_sub hl [0, 1, 2, 3, 4] rfl, hP, hD, hS, ⟨by decide, by decide⟩, i_8, i_9, i_10, i_11, i_12, i_13, i_14, i_15⟩ ?_
            rintro ⟨k38_4, k38_la, k38_bk, k38_va, k38_su, k38_ce, k38_ho, k38_wy, k38_bt, k38_ps, k38_tg, k38_sn, k38_se, k38_re, k38_pt⟩ ls H locs ⟨hl, hP, hD, hS, i_18, i_19, i_20, i_21, i_22, i_23, i_24, i_25, i_26⟩ ih_38_27
            have hl : lv_has ls 6 [(4, .int k38_4), (3, .int k29_3), (0, .ref b_o), (1, .int p_1), (2, .int p_2)] := hl
            have i_18 : 0 ≤ k38_4.toInt ∧ k38_4.toInt ≤ 5 := i_18
            have i_19 : 0 ≤ k38_la.toInt ∧ k38_la.toInt ≤ 4840 := i_19
            have i_20 : 0 ≤ k38_bk.toInt ∧ k38_bk.toInt ≤ 1 := i_20
            have i_21 : 0 ≤ k38_ce.toInt ∧ k38_ce.toInt ≤ 63 := i_21
            have i_22 : 0 ≤ k38_ho.toInt ∧ k38_ho.toInt ≤ 23 := i_22
            have i_23 : 0 ≤ k38_wy.toInt ∧ k38_wy.toInt ≤ 3 := i_23
            have i_24 : 0 ≤ k38_bt.toInt ∧ k38_bt.toInt ≤ 1000000 := i_24
            have i_25 : 0 ≤ k38_ps.toInt ∧ k38_ps.toInt ≤ 200 := i_25
            have i_26 : PTI k38_pt := i_26
            refine g5_rs [(b_se, (arJ G 13 k38_se)), (b_re, (arJ G 400 k38_re)), (b_pt, (arI G 200 k38_pt)), (b_o, (oc12 0 u_sa b_rf b_ro b_im b_ke u_fd b_tp u_td u_fr u_to u_so u_wo u_fa u_bd u_nc b_nl u_co b_op b_ar u_le b_pi b_pa u_pd u_od b_ws b_hw k38_la b_se b_re k38_bk k38_va k38_su k38_ce k38_ho k38_wy k38_bt k38_ps b_pt k38_tg k38_sn b_ip u_ic b_ah b_be b_me u_wd b_tr b_ld u_st b_wn u_id)), (b_ro, (arI G 5740 v_ro))] hP hD (fun hP hD => ?_)
            refine lv_iload hx hb dX12_first_38 (lv_at hl 0 rfl) ?_
            refine lv_aload_n hx hb dX12_first_40 rfl (lv_at hl 2 rfl) ?_
            refine va_get (D := G.1) (ci := 12) (v := .ref b_ro) (C := RX12) (T := TX12) (N := 52) hx hb hts inG_X12 hown hK hP 3 rfl rfl 3 (by decide) (hts _ fl_X12_13) (fun _ h9 => h9) rfl dX12_first_41 ?_
            refine lv_iconst (v := 1) hx hb dX12_first_44 (by decide) ?_
            refine va_iald hx hb hK hP 4 0 rfl rfl (i := 1) (by unfold vp_in; decide) dX12_first_45 ?_
            refine g5_ti (v := (v_ro 1)) rfl ?_
            have hr_28 : 0 ≤ (v_ro 1).toInt ∧ (v_ro 1).toInt ≤ 5 := mi_1 r_ro
            refine lv_icmp_ge (tgt := 102) hx hb dX12_first_46 (by decide) (fun c_29 => ?_) (fun c_29 => ?_)
            ·
              have i_29 : k38_4.toInt ≥ (v_ro 1).toInt := by have z := g5_ge (a := k38_4.toInt) (b := (v_ro 1).toInt) (by rfl) (by rfl) c_29; omega
              refine lv_iinc (v := (k29_3 + 1)) (lv' := [(3, .int (k29_3 + 1)), (4, .int k38_4), (0, .ref b_o), (1, .int p_1), (2, .int p_2)]) hx hb dX12_first_102 hl (k := 1) rfl rfl (by decide) rfl (fun ls hl => ?_)
              have t_30 : (k29_3 + 1).toInt = k29_3.toInt + 1 := g5_iadd (a := k29_3.toInt) (b := 1) rfl (by decide) (by omega) (by omega)
              refine lv_goto (tgt := 29) hx hb dX12_first_105 (by decide) ?_
              exact ih_29_16 ((k29_3 + 1), k38_la, k38_bk, k38_va, k38_su, k38_ce, k38_ho, k38_wy, k38_bt, k38_ps, k38_tg, k38_sn, k38_se, k38_re, k38_pt) ls H locs (show Int.toNat (24 - (k29_3 + 1).toInt) < Int.toNat (24 - k29_3.toInt) from g_up (show k29_3.toInt < (k29_3 + 1).toInt by omega) (show k29_3.toInt < 24 by omega)) ⟨lv_sub hl [0, 2, 3, 4] rfl, hP, hD, hS, ⟨by omega, by omega⟩, i_19, i_20, i_21, i_22, i_23, i_24, i_25, i_26⟩
            ·
              have i_29 : k38_4.toInt < (v_ro 1).toInt := by have z := g5_geN (a := k38_4.toInt) (b := (v_ro 1).toInt) (by rfl) (by rfl) c_29; omega
              refine lv_iload hx hb dX12_first_49 (lv_at hl 0 rfl) ?_
              refine lv_iload_n hx hb dX12_first_51 rfl (lv_at hl 3 rfl) ?_
              refine lv_icmp_ne (tgt := 59) hx hb dX12_first_52 (by decide) (fun c_31 => ?_) (fun c_31 => ?_)
              ·
                have n_31 : gNe (k38_4.toInt) (p_1.toInt) := by have z := g5_ne (a := k38_4.toInt) (b := p_1.toInt) (by rfl) (by rfl) c_31; unfold gNe; omega
                refine lv_aload_n hx hb dX12_first_59 rfl (lv_at hl 2 rfl) ?_
                refine lv_iload hx hb dX12_first_60 (lv_at hl 0 rfl) ?_
                refine lv_iload_n hx hb dX12_first_62 rfl (lv_at hl 3 rfl) ?_
                refine lv_iload_n hx hb dX12_first_63 rfl (lv_at hl 1 rfl) ?_
                obtain ⟨hPc, hDc, hFc⟩ := g5_sub3 (wc := [(b_o, (oc12 0 u_sa b_rf b_ro b_im b_ke u_fd b_tp u_td u_fr u_to u_so u_wo u_fa u_bd u_nc b_nl u_co b_op b_ar u_le b_pi b_pa u_pd u_od b_ws b_hw k38_la b_se b_re k38_bk k38_va k38_su k38_ce k38_ho k38_wy k38_bt k38_ps b_pt k38_tg k38_sn b_ip u_ic b_ah b_be b_me u_wd b_tr b_ld u_st b_wn u_id)), (b_ro, (arI G 5740 v_ro)), (b_se, (arJ G 13 k38_se)), (b_re, (arJ G 400 k38_re)), (b_pt, (arI G 200 k38_pt))]) hP hD hS hA [3, 4, 0, 1, 2] (by decide) rfl
                refine va_calli (va_runV (As := [.int k38_4, .int p_1, .int k29_3]) (rest := []) ⟨hx, hb, hml, hown, hts⟩ (n_lateness l G b_o b_ro b_se b_re b_pt b_rf b_im b_ke b_tp b_nl b_op b_ar b_pi b_pa b_ws b_hw b_ip b_ah b_be b_me b_tr b_ld b_wn H.size 0 u_sa u_fd u_td u_fr u_to u_so u_fa u_bd u_nc u_co u_le u_pd u_od k38_la k38_bk k38_ce k38_ho k38_wy k38_bt k38_ps k38_tg k38_sn u_ic u_wd u_id k38_4 p_1 k29_3 u_wo k38_va k38_su u_st v_ro k38_se k38_re k38_pt h_u_td h_u_fr h_u_to h_u_bd h_u_nc h_u_co h_u_pd i_19 i_20 i_21 i_22 i_23 i_24 i_25 h_u_ic h_u_id ⟨by omega, by omega⟩ ⟨by omega, by omega⟩ (r_ro) (i_26)) (cwV 3 hts gV_X12_407 rfl rfl rfl hv_X12_lateness ⟨Nat.le_of_ble_eq_true rfl, Nat.le_of_ble_eq_true rfl⟩) (g5_preV hPc hK hDc hN hT hS hFc (ci := 12) (q0 := 0) rfl rfl) rfl rfl hl.1 rfl (lv_room (Nat.le_of_ble_eq_true rfl)) dX12_first_64 ⟨Nat.le_of_ble_eq_true rfl, Nat.le_of_ble_eq_true rfl⟩) hS (fun q _ h => hFc q h) hFc (fun r u t H1 locs ht hvm hw hB hz1 hk1 hS => ?_)
                obtain ⟨hP1, hD1⟩ := hB
                rw [ht] at hP1
                obtain ⟨z40, z41, z42, z43, z44, z45, z46, z47, z48, z49, z50, z51, z52, z53, z54, i_32, i_33, i_34, i_35, i_36, i_37, i_38, i_39, y55, rfl⟩ := hw
                have i_32 : 0 ≤ z41.toInt ∧ z41.toInt ≤ 4840 := i_32
                have i_33 : 0 ≤ z42.toInt ∧ z42.toInt ≤ 1 := i_33
                have i_34 : 0 ≤ z45.toInt ∧ z45.toInt ≤ 63 := i_34
                have i_35 : 0 ≤ z46.toInt ∧ z46.toInt ≤ 23 := i_35
                have i_36 : 0 ≤ z47.toInt ∧ z47.toInt ≤ 3 := i_36
                have i_37 : 0 ≤ z48.toInt ∧ z48.toInt ≤ 1000000 := i_37
                have i_38 : 0 ≤ z49.toInt ∧ z49.toInt ≤ 200 := i_38
                have i_39 : PTI z54 := i_39
                obtain ⟨hP, hD⟩ := va_join (wr := []) hP hD [3, 4, 0, 1, 2] [] rfl rfl (by decide) (by decide) hk1 hFc hP1 hD1
                generalize H1 = H at hP hS ⊢
                refine g5_rs [(b_o, (oc12 0 u_sa b_rf b_ro b_im b_ke u_fd b_tp u_td u_fr u_to u_so u_wo u_fa u_bd u_nc b_nl u_co b_op b_ar u_le b_pi b_pa u_pd u_od b_ws b_hw z41 b_se b_re z42 z43 z44 z45 z46 z47 z48 z49 b_pt z50 z51 b_ip u_ic b_ah b_be b_me u_wd b_tr b_ld u_st b_wn u_id)), (b_ro, (arI G 5740 v_ro)), (b_se, (arJ G 13 z52)), (b_re, (arJ G 400 z53)), (b_pt, (arI G 200 z54))] hP hD (fun hP hD => ?_)
                refine g5_ti (v := z40) y55 ?_
                refine lv_istore (lv' := [(5, .int z40), (4, .int k38_4), (3, .int k29_3), (0, .ref b_o), (1, .int p_1), (2, .int p_2)]) hx hb dX12_first_67 hl (by decide) rfl (fun ls hl => ?_)
                refine lv_iload hx hb dX12_first_69 (lv_at hl 0 rfl) ?_
                refine lv_iconst (v := (-1)) hx hb dX12_first_71 (by decide) ?_
                refine lv_icmp_eq (tgt := 96) hx hb dX12_first_72 (by decide) (fun c_56 => ?_) (fun c_56 => ?_)
                ·
                  have i_56 : z40.toInt = (-1) := by have z := g5_eq (a := z40.toInt) (b := (-1)) (by rfl) (by decide) c_56; omega
                  refine lv_iinc (v := (k38_4 + 1)) (lv' := [(4, .int (k38_4 + 1)), (5, .int z40), (3, .int k29_3), (0, .ref b_o), (1, .int p_1), (2, .int p_2)]) hx hb dX12_first_96 hl (k := 1) rfl rfl (by decide) rfl (fun ls hl => ?_)
                  have t_57 : (k38_4 + 1).toInt = k38_4.toInt + 1 := g5_iadd (a := k38_4.toInt) (b := 1) rfl (by decide) (by omega) (by omega)
                  refine lv_goto (tgt := 38) hx hb dX12_first_99 (by decide) ?_
                  exact ih_38_27 ((k38_4 + 1), z41, z42, z43, z44, z45, z46, z47, z48, z49, z50, z51, z52, z53, z54) ls H locs (show Int.toNat (5 - (k38_4 + 1).toInt) < Int.toNat (5 - k38_4.toInt) from g_up (show k38_4.toInt < (k38_4 + 1).toInt by omega) (show k38_4.toInt < 5 by omega)) ⟨lv_sub hl [0, 2, 3, 4, 5] rfl, hP.sub [2, 3, 4, 0, 1] rfl, hD.sub [2, 3, 4, 0, 1] (by decide) rfl, hS, ⟨by omega, by omega⟩, i_32, i_33, i_34, i_35, i_36, i_37, i_38, i_39⟩
                ·
                  have n_56 : gNe (z40.toInt) ((-1)) := by have z := g5_eqN (a := z40.toInt) (b := (-1)) (by rfl) (by decide) c_56; unfold gNe; omega
                  refine lv_iload_n hx hb dX12_first_75 rfl (lv_at hl 5 rfl) ?_
                  refine lv_if_ne (tgt := 83) hx hb dX12_first_76 (by decide) (fun c_58 => ?_) (fun c_58 => ?_)
                  ·
                    have n_58 : gNe (p_2.toInt) (0) := by have z := g5_ne (a := p_2.toInt) (b := 0) (by rfl) (by decide) c_58; unfold gNe; omega
                    have i_58 : p_2.toInt ≥ 1 := by have z := g5_ne (a := p_2.toInt) (b := 0) (by rfl) (by decide) c_58; omega
                    refine lv_iload_n hx hb dX12_first_83 rfl (lv_at hl 5 rfl) ?_
                    refine lv_iconst (v := 1) hx hb dX12_first_84 (by decide) ?_
                    refine lv_icmp_ne (tgt := 93) hx hb dX12_first_85 (by decide) (fun c_59 => ?_) (fun c_59 => ?_)
                    ·
                      have n_59 : gNe (p_2.toInt) (1) := by have z := g5_ne (a := p_2.toInt) (b := 1) (by rfl) (by decide) c_59; unfold gNe; omega
                      have i_59 : p_2.toInt ≥ 2 := by have z := g5_ne (a := p_2.toInt) (b := 1) (by rfl) (by decide) c_59; omega
                      refine lv_iload hx hb dX12_first_93 (lv_at hl 0 rfl) ?_
                      exact W.iret (v := z40) hx hb hr (fun t ht hW => ⟨⟨z40, [(b_o, (oc12 0 u_sa b_rf b_ro b_im b_ke u_fd b_tp u_td u_fr u_to u_so u_wo u_fa u_bd u_nc b_nl u_co b_op b_ar u_le b_pi b_pa u_pd u_od b_ws b_hw z41 b_se b_re z42 z43 z44 z45 z46 z47 z48 z49 b_pt z50 z51 b_ip u_ic b_ah b_be b_me u_wd b_tr b_ld u_st b_wn u_id)), (b_ro, (arI G 5740 v_ro)), (b_se, (arJ G 13 z52)), (b_re, (arJ G 400 z53)), (b_pt, (arI G 200 z54))], rfl, ⟨z40, 0, z41, z42, z43, z44, z45, z46, z47, z48, z49, z50, z51, z52, z53, z54, i_32, i_33, i_34, i_35, i_36, i_37, i_38, i_39, rfl, rfl⟩, by rw [ht]; exact hP.sub [0, 1, 2, 3, 4] rfl, hD.sub [0, 1, 2, 3, 4] (by decide) rfl⟩, hS.F ht⟩) hS.2.2 dX12_first_95
                    ·
                      have i_59 : p_2.toInt = 1 := by have z := g5_neN (a := p_2.toInt) (b := 1) (by rfl) (by decide) c_59; omega
                      refine lv_iload hx hb dX12_first_88 (lv_at hl 1 rfl) ?_
                      refine lv_goto (tgt := 95) hx hb dX12_first_90 (by decide) ?_
                      exact W.iret (v := k38_4) hx hb hr (fun t ht hW => ⟨⟨k38_4, [(b_o, (oc12 0 u_sa b_rf b_ro b_im b_ke u_fd b_tp u_td u_fr u_to u_so u_wo u_fa u_bd u_nc b_nl u_co b_op b_ar u_le b_pi b_pa u_pd u_od b_ws b_hw z41 b_se b_re z42 z43 z44 z45 z46 z47 z48 z49 b_pt z50 z51 b_ip u_ic b_ah b_be b_me u_wd b_tr b_ld u_st b_wn u_id)), (b_ro, (arI G 5740 v_ro)), (b_se, (arJ G 13 z52)), (b_re, (arJ G 400 z53)), (b_pt, (arI G 200 z54))], rfl, ⟨k38_4, 0, z41, z42, z43, z44, z45, z46, z47, z48, z49, z50, z51, z52, z53, z54, i_32, i_33, i_34, i_35, i_36, i_37, i_38, i_39, rfl, rfl⟩, by rw [ht]; exact hP.sub [0, 1, 2, 3, 4] rfl, hD.sub [0, 1, 2, 3, 4] (by decide) rfl⟩, hS.F ht⟩) hS.2.2 dX12_first_95
                  ·
                    have i_58 : p_2.toInt = 0 := by have z := g5_neN (a := p_2.toInt) (b := 0) (by rfl) (by decide) c_58; omega
                    refine lv_iload_n hx hb dX12_first_79 rfl (lv_at hl 2 rfl) ?_
                    refine lv_goto (tgt := 95) hx hb dX12_first_80 (by decide) ?_
                    exact W.iret (v := k29_3) hx hb hr (fun t ht hW => ⟨⟨k29_3, [(b_o, (oc12 0 u_sa b_rf b_ro b_im b_ke u_fd b_tp u_td u_fr u_to u_so u_wo u_fa u_bd u_nc b_nl u_co b_op b_ar u_le b_pi b_pa u_pd u_od b_ws b_hw z41 b_se b_re z42 z43 z44 z45 z46 z47 z48 z49 b_pt z50 z51 b_ip u_ic b_ah b_be b_me u_wd b_tr b_ld u_st b_wn u_id)), (b_ro, (arI G 5740 v_ro)), (b_se, (arJ G 13 z52)), (b_re, (arJ G 400 z53)), (b_pt, (arI G 200 z54))], rfl, ⟨k29_3, 0, z41, z42, z43, z44, z45, z46, z47, z48, z49, z50, z51, z52, z53, z54, i_32, i_33, i_34, i_35, i_36, i_37, i_38, i_39, rfl, rfl⟩, by rw [ht]; exact hP.sub [0, 1, 2, 3, 4] rfl, hD.sub [0, 1, 2, 3, 4] (by decide) rfl⟩, hS.F ht⟩) hS.2.2 dX12_first_95
              ·
                have i_31 : k38_4.toInt = p_1.toInt := by have z := g5_neN (a := k38_4.toInt) (b := p_1.toInt) (by rfl) (by rfl) c_31; omega
                refine lv_iconst (v := (-1)) hx hb dX12_first_55 (by decide) ?_
                refine lv_goto (tgt := 67) hx hb dX12_first_56 (by decide) ?_
                refine lv_istore (lv' := [(5, .int (-1)), (4, .int k38_4), (3, .int k29_3), (0, .ref b_o), (1, .int p_1), (2, .int p_2)]) hx hb dX12_first_67 hl (by decide) rfl (fun ls hl => ?_)
                refine lv_iload hx hb dX12_first_69 (lv_at hl 0 rfl) ?_
                refine lv_iconst (v := (-1)) hx hb dX12_first_71 (by decide) ?_
                refine lv_icmp_eq (tgt := 96) hx hb dX12_first_72 (by decide) (fun c_60 => ?_) (fun c_60 => ?_)
                ·
                  refine lv_iinc (v := (k38_4 + 1)) (lv' := [(4, .int (k38_4 + 1)), (5, .int (-1)), (3, .int k29_3), (0, .ref b_o), (1, .int p_1), (2, .int p_2)]) hx hb dX12_first_96 hl (k := 1) rfl rfl (by decide) rfl (fun ls hl => ?_)
                  have t_61 : (k38_4 + 1).toInt = k38_4.toInt + 1 := g5_iadd (a := k38_4.toInt) (b := 1) rfl (by decide) (by omega) (by omega)
                  refine lv_goto (tgt := 38) hx hb dX12_first_99 (by decide) ?_
                  exact ih_38_27 ((k38_4 + 1), k38_la, k38_bk, k38_va, k38_su, k38_ce, k38_ho, k38_wy, k38_bt, k38_ps, k38_tg, k38_sn, k38_se, k38_re, k38_pt) ls H locs (show Int.toNat (5 - (k38_4 + 1).toInt) < Int.toNat (5 - k38_4.toInt) from g_up (show k38_4.toInt < (k38_4 + 1).toInt by omega) (show k38_4.toInt < 5 by omega)) ⟨lv_sub hl [0, 2, 3, 4, 5] rfl, hP, hD, hS, ⟨by omega, by omega⟩, i_19, i_20, i_21, i_22, i_23, i_24, i_25, i_26⟩
                ·
                  exact absurd c_60 (by decide)
        ·
          exact absurd c_6 (by decide)
  ·
    obtain ⟨hP, hD⟩ := va_join (wr := [(b_se, (arJ G 13 v_se)), (b_re, (arJ G 400 v_re)), (b_pt, (arI G 200 v_pt))]) hP hD [0, 1] [2, 3, 4] rfl rfl (by decide) (by decide) hk1 hFc hP1 hD1
    generalize H1 = H at hP hS ⊢
    refine g5_rs [(b_se, (arJ G 13 v_se)), (b_re, (arJ G 400 v_re)), (b_pt, (arI G 200 v_pt)), (b_o, (oc12 0 u_sa b_rf b_ro b_im b_ke u_fd b_tp u_td u_fr u_to u_so u_wo u_fa u_bd u_nc b_nl u_co b_op b_ar u_le b_pi b_pa u_pd u_od b_ws b_hw u_la b_se b_re u_bk u_va u_su u_ce u_ho u_wy u_bt u_ps b_pt u_tg u_sn b_ip u_ic b_ah b_be b_me u_wd b_tr b_ld u_st b_wn u_id)), (b_ro, (arI G 5740 v_ro))] hP hD (fun hP hD => ?_)
    refine lv_if_eq (tgt := 25) hx hb dX12_first_10 (by decide) (fun c_62 => ?_) (fun c_62 => ?_)
    ·
      refine lv_iconst (v := (-1)) hx hb dX12_first_25 (by decide) ?_
      exact W.iret (v := (-1)) hx hb hr (fun t ht hW => ⟨⟨(-1), [(b_o, (oc12 0 u_sa b_rf b_ro b_im b_ke u_fd b_tp u_td u_fr u_to u_so u_wo u_fa u_bd u_nc b_nl u_co b_op b_ar u_le b_pi b_pa u_pd u_od b_ws b_hw u_la b_se b_re u_bk u_va u_su u_ce u_ho u_wy u_bt u_ps b_pt u_tg u_sn b_ip u_ic b_ah b_be b_me u_wd b_tr b_ld u_st b_wn u_id)), (b_ro, (arI G 5740 v_ro)), (b_se, (arJ G 13 v_se)), (b_re, (arJ G 400 v_re)), (b_pt, (arI G 200 v_pt))], rfl, ⟨(-1), 0, u_la, u_bk, u_va, u_su, u_ce, u_ho, u_wy, u_bt, u_ps, u_tg, u_sn, v_se, v_re, v_pt, h_u_la, h_u_bk, h_u_ce, h_u_ho, h_u_wy, h_u_bt, h_u_ps, r_pt, rfl, rfl⟩, by rw [ht]; exact hP.sub [3, 4, 0, 1, 2] rfl, hD.sub [3, 4, 0, 1, 2] (by decide) rfl⟩, hS.F ht⟩) hS.2.2 dX12_first_26
    ·
      exact absurd c_62 (by decide)
theorem dgX12_mark_0 : ∀ r ∈ ([(0, (.iconst 0, 1)), (1, (.istore_n 3, 1)), (2, (.iload_n 3, 1)), (3, (.iconst 4, 1)), (4, (.if_icmp .ge 48, 3)), (7, (.aload_n 0, 1)), (8, (.iload_n 1, 1)), (9, (.iload_n 3, 1)), (10, (.iload_n 2, 1)), (11, (.iconst 0, 1)), (12, (.invokevirtual 401, 3)), (15, (.iconst 0, 1)), (16, (.istore 4, 2)), (18, (.iload 4, 2)), (20, (.aload_n 0, 1)), (21, (.getfield 358, 3)), (24, (.if_icmp .ge 22, 3)), (27, (.aload_n 0, 1)), (28, (.getfield 85, 3)), (31, (.aload_n 0, 1)), (32, (.getfield 82, 3)), (35, (.iload 4, 2)), (37, (.iaload, 1)), (38, (.iconst 1, 1)), (39, (.bastore, 1)), (40, (.iinc 4 1, 3)), (43, (.goto (-25), 3)), (46, (.iinc 3 1, 3)), (49, (.goto (-47), 3)), (52, (.return_, 1))] : List (Nat × (Instr × Nat))), decode cX12_mark r.1 = .ok r.2 := by decide +kernel
theorem dX12_mark_0 : decode cX12_mark 0 = .ok (.iconst 0, 1) := dgX12_mark_0 (0, (.iconst 0, 1)) (List.mem_of_getElem? (i := 0) rfl)
theorem dX12_mark_1 : decode cX12_mark 1 = .ok (.istore_n 3, 1) := dgX12_mark_0 (1, (.istore_n 3, 1)) (List.mem_of_getElem? (i := 1) rfl)
theorem dX12_mark_2 : decode cX12_mark 2 = .ok (.iload_n 3, 1) := dgX12_mark_0 (2, (.iload_n 3, 1)) (List.mem_of_getElem? (i := 2) rfl)
theorem dX12_mark_3 : decode cX12_mark 3 = .ok (.iconst 4, 1) := dgX12_mark_0 (3, (.iconst 4, 1)) (List.mem_of_getElem? (i := 3) rfl)
theorem dX12_mark_4 : decode cX12_mark 4 = .ok (.if_icmp .ge 48, 3) := dgX12_mark_0 (4, (.if_icmp .ge 48, 3)) (List.mem_of_getElem? (i := 4) rfl)
theorem dX12_mark_7 : decode cX12_mark 7 = .ok (.aload_n 0, 1) := dgX12_mark_0 (7, (.aload_n 0, 1)) (List.mem_of_getElem? (i := 5) rfl)
theorem dX12_mark_8 : decode cX12_mark 8 = .ok (.iload_n 1, 1) := dgX12_mark_0 (8, (.iload_n 1, 1)) (List.mem_of_getElem? (i := 6) rfl)
theorem dX12_mark_9 : decode cX12_mark 9 = .ok (.iload_n 3, 1) := dgX12_mark_0 (9, (.iload_n 3, 1)) (List.mem_of_getElem? (i := 7) rfl)
theorem dX12_mark_10 : decode cX12_mark 10 = .ok (.iload_n 2, 1) := dgX12_mark_0 (10, (.iload_n 2, 1)) (List.mem_of_getElem? (i := 8) rfl)
theorem dX12_mark_11 : decode cX12_mark 11 = .ok (.iconst 0, 1) := dgX12_mark_0 (11, (.iconst 0, 1)) (List.mem_of_getElem? (i := 9) rfl)
theorem dX12_mark_12 : decode cX12_mark 12 = .ok (.invokevirtual 401, 3) := dgX12_mark_0 (12, (.invokevirtual 401, 3)) (List.mem_of_getElem? (i := 10) rfl)
theorem dX12_mark_15 : decode cX12_mark 15 = .ok (.iconst 0, 1) := dgX12_mark_0 (15, (.iconst 0, 1)) (List.mem_of_getElem? (i := 11) rfl)
theorem dX12_mark_16 : decode cX12_mark 16 = .ok (.istore 4, 2) := dgX12_mark_0 (16, (.istore 4, 2)) (List.mem_of_getElem? (i := 12) rfl)
theorem dX12_mark_18 : decode cX12_mark 18 = .ok (.iload 4, 2) := dgX12_mark_0 (18, (.iload 4, 2)) (List.mem_of_getElem? (i := 13) rfl)
theorem dX12_mark_20 : decode cX12_mark 20 = .ok (.aload_n 0, 1) := dgX12_mark_0 (20, (.aload_n 0, 1)) (List.mem_of_getElem? (i := 14) rfl)
theorem dX12_mark_21 : decode cX12_mark 21 = .ok (.getfield 358, 3) := dgX12_mark_0 (21, (.getfield 358, 3)) (List.mem_of_getElem? (i := 15) rfl)
theorem dX12_mark_24 : decode cX12_mark 24 = .ok (.if_icmp .ge 22, 3) := dgX12_mark_0 (24, (.if_icmp .ge 22, 3)) (List.mem_of_getElem? (i := 16) rfl)
theorem dX12_mark_27 : decode cX12_mark 27 = .ok (.aload_n 0, 1) := dgX12_mark_0 (27, (.aload_n 0, 1)) (List.mem_of_getElem? (i := 17) rfl)
theorem dX12_mark_28 : decode cX12_mark 28 = .ok (.getfield 85, 3) := dgX12_mark_0 (28, (.getfield 85, 3)) (List.mem_of_getElem? (i := 18) rfl)
theorem dX12_mark_31 : decode cX12_mark 31 = .ok (.aload_n 0, 1) := dgX12_mark_0 (31, (.aload_n 0, 1)) (List.mem_of_getElem? (i := 19) rfl)
theorem dX12_mark_32 : decode cX12_mark 32 = .ok (.getfield 82, 3) := dgX12_mark_0 (32, (.getfield 82, 3)) (List.mem_of_getElem? (i := 20) rfl)
theorem dX12_mark_35 : decode cX12_mark 35 = .ok (.iload 4, 2) := dgX12_mark_0 (35, (.iload 4, 2)) (List.mem_of_getElem? (i := 21) rfl)
theorem dX12_mark_37 : decode cX12_mark 37 = .ok (.iaload, 1) := dgX12_mark_0 (37, (.iaload, 1)) (List.mem_of_getElem? (i := 22) rfl)
theorem dX12_mark_38 : decode cX12_mark 38 = .ok (.iconst 1, 1) := dgX12_mark_0 (38, (.iconst 1, 1)) (List.mem_of_getElem? (i := 23) rfl)
theorem dX12_mark_39 : decode cX12_mark 39 = .ok (.bastore, 1) := dgX12_mark_0 (39, (.bastore, 1)) (List.mem_of_getElem? (i := 24) rfl)
theorem dX12_mark_40 : decode cX12_mark 40 = .ok (.iinc 4 1, 3) := dgX12_mark_0 (40, (.iinc 4 1, 3)) (List.mem_of_getElem? (i := 25) rfl)
theorem dX12_mark_43 : decode cX12_mark 43 = .ok (.goto (-25), 3) := dgX12_mark_0 (43, (.goto (-25), 3)) (List.mem_of_getElem? (i := 26) rfl)
theorem dX12_mark_46 : decode cX12_mark 46 = .ok (.iinc 3 1, 3) := dgX12_mark_0 (46, (.iinc 3 1, 3)) (List.mem_of_getElem? (i := 27) rfl)
theorem dX12_mark_49 : decode cX12_mark 49 = .ok (.goto (-47), 3) := dgX12_mark_0 (49, (.goto (-47), 3)) (List.mem_of_getElem? (i := 28) rfl)
theorem dX12_mark_52 : decode cX12_mark 52 = .ok (.return_, 1) := dgX12_mark_0 (52, (.return_, 1)) (List.mem_of_getElem? (i := 29) rfl)
theorem fl_X12_85 : Cond.fieldLink RX12 85 "LateGlassModel" "isPoint" "[Z" ∈ tblG := tg 1244 (by decide +kernel) (by decide +kernel)
set_option maxHeartbeats 4000000 in
set_option maxRecDepth 100000 in
theorem n_mark (l : Launch) (G : g5_G) (b_o b_ro b_se b_re b_pt b_ip b_rf b_im b_ke b_tp b_nl b_op b_ar b_pi b_pa b_ws b_hw b_ah b_be b_me b_tr b_ld b_wn : Nat) (sz : Nat) (u_th : Int32) (u_sa : Int32) (u_fd : Int32) (u_td : Int32) (u_fr : Int32) (u_to : Int32) (u_so : Int32) (u_fa : Int32) (u_bd : Int32) (u_nc : Int32) (u_co : Int32) (u_le : Int32) (u_pd : Int32) (u_od : Int32) (u_la : Int32) (u_bk : Int32) (u_ce : Int32) (u_ho : Int32) (u_wy : Int32) (u_bt : Int32) (u_ps : Int32) (u_tg : Int32) (u_sn : Int32) (u_ic : Int32) (u_wd : Int32) (u_id : Int32) (p_1 : Int32) (p_2 : Int32) (u_wo : Int64) (u_va : Int64) (u_su : Int64) (u_st : Int64) (v_ro : Nat → Int32) (v_se : Nat → Int64) (v_re : Nat → Int64) (v_pt : Nat → Int32) (v_ip : Nat → Int32) (h_u_td : 0 ≤ u_td.toInt ∧ u_td.toInt ≤ 400) (h_u_fr : 0 ≤ u_fr.toInt ∧ u_fr.toInt ≤ 400) (h_u_to : 0 ≤ u_to.toInt ∧ u_to.toInt ≤ 400) (h_u_bd : 0 ≤ u_bd.toInt ∧ u_bd.toInt ≤ 1) (h_u_nc : 0 ≤ u_nc.toInt ∧ u_nc.toInt ≤ 12) (h_u_co : 0 ≤ u_co.toInt ∧ u_co.toInt ≤ 400) (h_u_pd : 0 ≤ u_pd.toInt ∧ u_pd.toInt ≤ 400) (h_u_la : 0 ≤ u_la.toInt ∧ u_la.toInt ≤ 4840) (h_u_bk : 0 ≤ u_bk.toInt ∧ u_bk.toInt ≤ 1) (h_u_ce : 0 ≤ u_ce.toInt ∧ u_ce.toInt ≤ 63) (h_u_ho : 0 ≤ u_ho.toInt ∧ u_ho.toInt ≤ 23) (h_u_wy : 0 ≤ u_wy.toInt ∧ u_wy.toInt ≤ 3) (h_u_bt : 0 ≤ u_bt.toInt ∧ u_bt.toInt ≤ 1000000) (h_u_ps : 0 ≤ u_ps.toInt ∧ u_ps.toInt ≤ 200) (h_u_ic : 0 ≤ u_ic.toInt ∧ u_ic.toInt ≤ 1) (h_u_id : 0 ≤ u_id.toInt ∧ u_id.toInt ≤ 1) (h_p_1 : 0 ≤ p_1.toInt ∧ p_1.toInt ≤ 63) (h_p_2 : 0 ≤ p_2.toInt ∧ p_2.toInt ≤ 23) (r_ro : MI v_ro) (r_pt : PTI v_pt) : Met l yX12_mark (wsG yX12_mark cX12_mark 5 none) ({ frames := 7, cells := 0, slots := 0, locals := 176 }) (va_Pc [.ref b_o, .int p_1, .int p_2] (g5_P G [(b_o, (oc12 u_th u_sa b_rf b_ro b_im b_ke u_fd b_tp u_td u_fr u_to u_so u_wo u_fa u_bd u_nc b_nl u_co b_op b_ar u_le b_pi b_pa u_pd u_od b_ws b_hw u_la b_se b_re u_bk u_va u_su u_ce u_ho u_wy u_bt u_ps b_pt u_tg u_sn b_ip u_ic b_ah b_be b_me u_wd b_tr b_ld u_st b_wn u_id)), (b_ro, (arI G 5740 v_ro)), (b_se, (arJ G 13 v_se)), (b_re, (arJ G 400 v_re)), (b_pt, (arI G 200 v_pt)), (b_ip, (arZ G 1536 v_ip))] sz)) (va_Qv (fun (u : va_W) => (∃ (o_la : Int32) (o_bk : Int32) (o_va : Int64) (o_su : Int64) (o_ce : Int32) (o_ho : Int32) (o_wy : Int32) (o_bt : Int32) (o_ps : Int32) (o_tg : Int32) (o_sn : Int32) (o_se : Nat → Int64) (o_re : Nat → Int64) (o_pt : Nat → Int32) (o_ip : Nat → Int32), (0 ≤ o_la.toInt ∧ o_la.toInt ≤ 4840) ∧ (0 ≤ o_bk.toInt ∧ o_bk.toInt ≤ 1) ∧ (0 ≤ o_ce.toInt ∧ o_ce.toInt ≤ 63) ∧ (0 ≤ o_ho.toInt ∧ o_ho.toInt ≤ 23) ∧ (0 ≤ o_wy.toInt ∧ o_wy.toInt ≤ 3) ∧ (0 ≤ o_bt.toInt ∧ o_bt.toInt ≤ 1000000) ∧ (0 ≤ o_ps.toInt ∧ o_ps.toInt ≤ 200) ∧ (PTI o_pt) ∧ (u = [(b_o, (oc12 u_th u_sa b_rf b_ro b_im b_ke u_fd b_tp u_td u_fr u_to u_so u_wo u_fa u_bd u_nc b_nl u_co b_op b_ar u_le b_pi b_pa u_pd u_od b_ws b_hw o_la b_se b_re o_bk o_va o_su o_ce o_ho o_wy o_bt o_ps b_pt o_tg o_sn b_ip u_ic b_ah b_be b_me u_wd b_tr b_ld u_st b_wn u_id)), (b_ro, (arI G 5740 v_ro)), (b_se, (arJ G 13 o_se)), (b_re, (arJ G 400 o_re)), (b_pt, (arI G 200 o_pt)), (b_ip, (arZ G 1536 o_ip))]))) (g5_B G (va_A [(b_o, (oc12 u_th u_sa b_rf b_ro b_im b_ke u_fd b_tp u_td u_fr u_to u_so u_wo u_fa u_bd u_nc b_nl u_co b_op b_ar u_le b_pi b_pa u_pd u_od b_ws b_hw u_la b_se b_re u_bk u_va u_su u_ce u_ho u_wy u_bt u_ps b_pt u_tg u_sn b_ip u_ic b_ah b_be b_me u_wd b_tr b_ld u_st b_wn u_id)), (b_ro, (arI G 5740 v_ro)), (b_se, (arJ G 13 v_se)), (b_re, (arJ G 400 v_re)), (b_pt, (arI G 200 v_pt)), (b_ip, (arZ G 1536 v_ip))] sz)) (va_A [(b_o, (oc12 u_th u_sa b_rf b_ro b_im b_ke u_fd b_tp u_td u_fr u_to u_so u_wo u_fa u_bd u_nc b_nl u_co b_op b_ar u_le b_pi b_pa u_pd u_od b_ws b_hw u_la b_se b_re u_bk u_va u_su u_ce u_ho u_wy u_bt u_ps b_pt u_tg u_sn b_ip u_ic b_ah b_be b_me u_wd b_tr b_ld u_st b_wn u_id)), (b_ro, (arI G 5740 v_ro)), (b_se, (arJ G 13 v_se)), (b_re, (arJ G 400 v_re)), (b_pt, (arI G 200 v_pt)), (b_ip, (arZ G 1536 v_ip))] sz)) 0 0 (va_A [(b_o, (oc12 u_th u_sa b_rf b_ro b_im b_ke u_fd b_tp u_td u_fr u_to u_so u_wo u_fa u_bd u_nc b_nl u_co b_op b_ar u_le b_pi b_pa u_pd u_od b_ws b_hw u_la b_se b_re u_bk u_va u_su u_ce u_ho u_wy u_bt u_ps b_pt u_tg u_sn b_ip u_ic b_ah b_be b_me u_wd b_tr b_ld u_st b_wn u_id)), (b_ro, (arI G 5740 v_ro)), (b_se, (arJ G 13 v_se)), (b_re, (arJ G 400 v_re)), (b_pt, (arI G 200 v_pt)), (b_ip, (arZ G 1536 v_ip))] sz) := by
  refine Met.ofW (cc := cX12_mark) (maxL := 5) (ret := none) (by decide) rfl ?_
  intro p e s m args below meth c s₁ B hml hv
  obtain ⟨rfl, hsz, hP, hK, hD0, hN, hT⟩ := hv
  have hx := B.exec
  have hb := B.bytes
  have hr := B.returns
  have hts : ∀ w ∈ tblG, w.before _ s = true := fun w h => atoms_spec (ws := (wsG yX12_mark cX12_mark 5 none)) B.pre w (List.mem_cons_of_mem _ h)
  have hown : s.vm.findClass RX12 = some m.cls := findClass_of_methodNamed B.named
  have hlocks := B.notSynchronized
  subst hsz
  have hD := hD0.self (sz := s.heap.size)
  generalize hAe : va_A [(b_o, (oc12 u_th u_sa b_rf b_ro b_im b_ke u_fd b_tp u_td u_fr u_to u_so u_wo u_fa u_bd u_nc b_nl u_co b_op b_ar u_le b_pi b_pa u_pd u_od b_ws b_hw u_la b_se b_re u_bk u_va u_su u_ce u_ho u_wy u_bt u_ps b_pt u_tg u_sn b_ip u_ic b_ah b_be b_me u_wd b_tr b_ld u_st b_wn u_id)), (b_ro, (arI G 5740 v_ro)), (b_se, (arJ G 13 v_se)), (b_re, (arJ G 400 v_re)), (b_pt, (arI G 200 v_pt)), (b_ip, (arZ G 1536 v_ip))] s.heap.size = A at hD hT ⊢
  have hA : ∀ q : Nat, s.heap.size ≤ q → A q := fun q h => by rw [← hAe]; exact Or.inr h
  have hS : va_S A s.heap s.heap [] := va_S.rf
  have hP : va_P G.1 vwCl [(b_o, (oc12 u_th u_sa b_rf b_ro b_im b_ke u_fd b_tp u_td u_fr u_to u_so u_wo u_fa u_bd u_nc b_nl u_co b_op b_ar u_le b_pi b_pa u_pd u_od b_ws b_hw u_la b_se b_re u_bk u_va u_su u_ce u_ho u_wy u_bt u_ps b_pt u_tg u_sn b_ip u_ic b_ah b_be b_me u_wd b_tr b_ld u_st b_wn u_id)), (b_ro, (arI G 5740 v_ro)), (b_se, (arJ G 13 v_se)), (b_re, (arJ G 400 v_re)), (b_pt, (arI G 200 v_pt)), (b_ip, (arZ G 1536 v_ip))] s.heap := hP
  have hl := lv_entry ([.ref b_o, .int p_1, .int p_2]) (n := 5) (Nat.le_of_ble_eq_true rfl)
  rw [lg_entry_eq]
  generalize (lg_sl ([.ref b_o, .int p_1, .int p_2]) ++ List.replicate (5 - (lg_sl ([.ref b_o, .int p_1, .int p_2])).length) Slot.unset).toArray = ls at hl ⊢
  have hl : lv_has ls 5 [(0, .ref b_o), (1, .int p_1), (2, .int p_2)] := hl
  refine lv_iconst (v := 0) hx hb dX12_mark_0 (by decide) ?_
  refine lv_istore_n (lv' := [(3, .int 0), (0, .ref b_o), (1, .int p_1), (2, .int p_2)]) hx hb dX12_mark_1 rfl hl (by decide) rfl (fun ls hl => ?_)
  refine g5_loop (α := (Int32) × (Int32) × (Int32) × (Int64) × (Int64) × (Int32) × (Int32) × (Int32) × (Int32) × (Int32) × (Int32) × (Int32) × (Nat → Int64) × (Nat → Int64) × (Nat → Int32) × (Nat → Int32)) (fun (q : (Int32) × (Int32) × (Int32) × (Int64) × (Int64) × (Int32) × (Int32) × (Int32) × (Int32) × (Int32) × (Int32) × (Int32) × (Nat → Int64) × (Nat → Int64) × (Nat → Int32) × (Nat → Int32)) (ls : Array Slot) (H : Heap) (locs : List Loc) => match q with | (k2_3, k2_la, k2_bk, k2_va, k2_su, k2_ce, k2_ho, k2_wy, k2_bt, k2_ps, k2_tg, k2_sn, k2_se, k2_re, k2_pt, k2_ip) => lv_has ls 5 [(3, .int k2_3), (0, .ref b_o), (1, .int p_1), (2, .int p_2)] ∧ va_P G.1 vwCl [(b_o, (oc12 u_th u_sa b_rf b_ro b_im b_ke u_fd b_tp u_td u_fr u_to u_so u_wo u_fa u_bd u_nc b_nl u_co b_op b_ar u_le b_pi b_pa u_pd u_od b_ws b_hw k2_la b_se b_re k2_bk k2_va k2_su k2_ce k2_ho k2_wy k2_bt k2_ps b_pt k2_tg k2_sn b_ip u_ic b_ah b_be b_me u_wd b_tr b_ld u_st b_wn u_id)), (b_ro, (arI G 5740 v_ro)), (b_se, (arJ G 13 k2_se)), (b_re, (arJ G 400 k2_re)), (b_pt, (arI G 200 k2_pt)), (b_ip, (arZ G 1536 k2_ip))] H ∧ va_D A [(b_o, (oc12 u_th u_sa b_rf b_ro b_im b_ke u_fd b_tp u_td u_fr u_to u_so u_wo u_fa u_bd u_nc b_nl u_co b_op b_ar u_le b_pi b_pa u_pd u_od b_ws b_hw k2_la b_se b_re k2_bk k2_va k2_su k2_ce k2_ho k2_wy k2_bt k2_ps b_pt k2_tg k2_sn b_ip u_ic b_ah b_be b_me u_wd b_tr b_ld u_st b_wn u_id)), (b_ro, (arI G 5740 v_ro)), (b_se, (arJ G 13 k2_se)), (b_re, (arJ G 400 k2_re)), (b_pt, (arI G 200 k2_pt)), (b_ip, (arZ G 1536 k2_ip))] ∧ va_S A s.heap H locs ∧ (0 ≤ k2_3.toInt ∧ k2_3.toInt ≤ 4) ∧ (0 ≤ k2_la.toInt ∧ k2_la.toInt ≤ 4840) ∧ (0 ≤ k2_bk.toInt ∧ k2_bk.toInt ≤ 1) ∧ (0 ≤ k2_ce.toInt ∧ k2_ce.toInt ≤ 63) ∧ (0 ≤ k2_ho.toInt ∧ k2_ho.toInt ≤ 23) ∧ (0 ≤ k2_wy.toInt ∧ k2_wy.toInt ≤ 3) ∧ (0 ≤ k2_bt.toInt ∧ k2_bt.toInt ≤ 1000000) ∧ (0 ≤ k2_ps.toInt ∧ k2_ps.toInt ≤ 200) ∧ (PTI k2_pt)) (fun (q : (Int32) × (Int32) × (Int32) × (Int64) × (Int64) × (Int32) × (Int32) × (Int32) × (Int32) × (Int32) × (Int32) × (Int32) × (Nat → Int64) × (Nat → Int64) × (Nat → Int32) × (Nat → Int32)) => match q with | (k2_3, k2_la, k2_bk, k2_va, k2_su, k2_ce, k2_ho, k2_wy, k2_bt, k2_ps, k2_tg, k2_sn, k2_se, k2_re, k2_pt, k2_ip) => Int.toNat (4 - k2_3.toInt)) (0, u_la, u_bk, u_va, u_su, u_ce, u_ho, u_wy, u_bt, u_ps, u_tg, u_sn, v_se, v_re, v_pt, v_ip) ⟨lv_sub hl [0, 1, 2, 3] rfl, hP, hD, hS, ⟨by decide, by decide⟩, h_u_la, h_u_bk, h_u_ce, h_u_ho, h_u_wy, h_u_bt, h_u_ps, r_pt⟩ ?_
  rintro ⟨k2_3, k2_la, k2_bk, k2_va, k2_su, k2_ce, k2_ho, k2_wy, k2_bt, k2_ps, k2_tg, k2_sn, k2_se, k2_re, k2_pt, k2_ip⟩ ls H locs ⟨hl, hP, hD, hS, i_1, i_2, i_3, i_4, i_5, i_6, i_7, i_8, i_9⟩ ih_2_10
  have hl : lv_has ls 5 [(3, .int k2_3), (0, .ref b_o), (1, .int p_1), (2, .int p_2)] := hl
  have i_1 : 0 ≤ k2_3.toInt ∧ k2_3.toInt ≤ 4 := i_1
  have i_2 : 0 ≤ k2_la.toInt ∧ k2_la.toInt ≤ 4840 := i_2
  have i_3 : 0 ≤ k2_bk.toInt ∧ k2_bk.toInt ≤ 1 := i_3
  have i_4 : 0 ≤ k2_ce.toInt ∧ k2_ce.toInt ≤ 63 := i_4
  have i_5 : 0 ≤ k2_ho.toInt ∧ k2_ho.toInt ≤ 23 := i_5
  have i_6 : 0 ≤ k2_wy.toInt ∧ k2_wy.toInt ≤ 3 := i_6
  have i_7 : 0 ≤ k2_bt.toInt ∧ k2_bt.toInt ≤ 1000000 := i_7
  have i_8 : 0 ≤ k2_ps.toInt ∧ k2_ps.toInt ≤ 200 := i_8
  have i_9 : PTI k2_pt := i_9
  refine g5_rs [(b_o, (oc12 u_th u_sa b_rf b_ro b_im b_ke u_fd b_tp u_td u_fr u_to u_so u_wo u_fa u_bd u_nc b_nl u_co b_op b_ar u_le b_pi b_pa u_pd u_od b_ws b_hw k2_la b_se b_re k2_bk k2_va k2_su k2_ce k2_ho k2_wy k2_bt k2_ps b_pt k2_tg k2_sn b_ip u_ic b_ah b_be b_me u_wd b_tr b_ld u_st b_wn u_id)), (b_ro, (arI G 5740 v_ro)), (b_se, (arJ G 13 k2_se)), (b_re, (arJ G 400 k2_re)), (b_pt, (arI G 200 k2_pt)), (b_ip, (arZ G 1536 k2_ip))] hP hD (fun hP hD => ?_)
  refine lv_iload_n hx hb dX12_mark_2 rfl (lv_at hl 0 rfl) ?_
  refine lv_iconst (v := 4) hx hb dX12_mark_3 (by decide) ?_
  refine lv_icmp_ge (tgt := 52) hx hb dX12_mark_4 (by decide) (fun c_11 => ?_) (fun c_11 => ?_)
  ·
    have i_11 : k2_3.toInt ≥ 4 := by have z := g5_ge (a := k2_3.toInt) (b := 4) (by rfl) (by decide) c_11; omega
    exact W.vret hx hb hr (fun t ht hW => ⟨⟨[(b_o, (oc12 u_th u_sa b_rf b_ro b_im b_ke u_fd b_tp u_td u_fr u_to u_so u_wo u_fa u_bd u_nc b_nl u_co b_op b_ar u_le b_pi b_pa u_pd u_od b_ws b_hw k2_la b_se b_re k2_bk k2_va k2_su k2_ce k2_ho k2_wy k2_bt k2_ps b_pt k2_tg k2_sn b_ip u_ic b_ah b_be b_me u_wd b_tr b_ld u_st b_wn u_id)), (b_ro, (arI G 5740 v_ro)), (b_se, (arJ G 13 k2_se)), (b_re, (arJ G 400 k2_re)), (b_pt, (arI G 200 k2_pt)), (b_ip, (arZ G 1536 k2_ip))], rfl, ⟨k2_la, k2_bk, k2_va, k2_su, k2_ce, k2_ho, k2_wy, k2_bt, k2_ps, k2_tg, k2_sn, k2_se, k2_re, k2_pt, k2_ip, i_2, i_3, i_4, i_5, i_6, i_7, i_8, i_9, rfl⟩, by rw [ht]; exact hP.sub [0, 1, 2, 3, 4, 5] rfl, hD.sub [0, 1, 2, 3, 4, 5] (by decide) rfl⟩, hS.F ht⟩) hS.2.2 dX12_mark_52
  ·
    have i_11 : k2_3.toInt < 4 := by have z := g5_geN (a := k2_3.toInt) (b := 4) (by rfl) (by decide) c_11; omega
    refine lv_aload_n hx hb dX12_mark_7 rfl (lv_at hl 1 rfl) ?_
    refine lv_iload_n hx hb dX12_mark_8 rfl (lv_at hl 2 rfl) ?_
    refine lv_iload_n hx hb dX12_mark_9 rfl (lv_at hl 0 rfl) ?_
    refine lv_iload_n hx hb dX12_mark_10 rfl (lv_at hl 3 rfl) ?_
    refine lv_iconst (v := 0) hx hb dX12_mark_11 (by decide) ?_
    obtain ⟨hPc, hDc, hFc⟩ := g5_sub3 (wc := [(b_o, (oc12 u_th u_sa b_rf b_ro b_im b_ke u_fd b_tp u_td u_fr u_to u_so u_wo u_fa u_bd u_nc b_nl u_co b_op b_ar u_le b_pi b_pa u_pd u_od b_ws b_hw k2_la b_se b_re k2_bk k2_va k2_su k2_ce k2_ho k2_wy k2_bt k2_ps b_pt k2_tg k2_sn b_ip u_ic b_ah b_be b_me u_wd b_tr b_ld u_st b_wn u_id)), (b_ro, (arI G 5740 v_ro)), (b_se, (arJ G 13 k2_se)), (b_re, (arJ G 400 k2_re)), (b_pt, (arI G 200 k2_pt))]) hP hD hS hA [0, 1, 2, 3, 4] (by decide) rfl
    refine va_callv (va_runV (As := [.int p_1, .int k2_3, .int p_2, .int 0]) (rest := []) ⟨hx, hb, hml, hown, hts⟩ (n_go l G b_o b_ro b_se b_re b_pt b_rf b_im b_ke b_tp b_nl b_op b_ar b_pi b_pa b_ws b_hw b_ip b_ah b_be b_me b_tr b_ld b_wn H.size u_th u_sa u_fd u_td u_fr u_to u_so u_fa u_bd u_nc u_co u_le u_pd u_od k2_la k2_bk k2_ce k2_ho k2_wy k2_bt k2_ps k2_tg k2_sn u_ic u_wd u_id p_1 k2_3 p_2 0 u_wo k2_va k2_su u_st v_ro k2_se k2_re k2_pt h_u_td h_u_fr h_u_to h_u_bd h_u_nc h_u_co h_u_pd i_2 i_3 i_4 i_5 i_6 i_7 i_8 h_u_ic h_u_id h_p_1 ⟨by omega, by omega⟩ h_p_2 (r_ro) (i_9)) (cwV 4 hts gV_X12_401 rfl rfl rfl hv_X12_go ⟨Nat.le_of_ble_eq_true rfl, Nat.le_of_ble_eq_true rfl⟩) (g5_preV hPc hK hDc hN hT hS hFc (ci := 12) (q0 := 0) rfl rfl) rfl rfl hl.1 rfl (lv_room (Nat.le_of_ble_eq_true rfl)) dX12_mark_12 ⟨Nat.le_of_ble_eq_true rfl, Nat.le_of_ble_eq_true rfl⟩) hS (fun q _ h => hFc q h) hFc (fun u t H1 locs ht hvm hw hB hz1 hk1 hS => ?_)
    obtain ⟨hP1, hD1⟩ := hB
    rw [ht] at hP1
    obtain ⟨z20, z21, z22, z23, z24, z25, z26, z27, z28, z29, z30, z31, z32, z33, i_12, i_13, i_14, i_15, i_16, i_17, i_18, i_19, rfl⟩ := hw
    have i_12 : 0 ≤ z20.toInt ∧ z20.toInt ≤ 4840 := i_12
    have i_13 : 0 ≤ z21.toInt ∧ z21.toInt ≤ 1 := i_13
    have i_14 : 0 ≤ z24.toInt ∧ z24.toInt ≤ 63 := i_14
    have i_15 : 0 ≤ z25.toInt ∧ z25.toInt ≤ 23 := i_15
    have i_16 : 0 ≤ z26.toInt ∧ z26.toInt ≤ 3 := i_16
    have i_17 : 0 ≤ z27.toInt ∧ z27.toInt ≤ 1000000 := i_17
    have i_18 : 0 ≤ z28.toInt ∧ z28.toInt ≤ 200 := i_18
    have i_19 : PTI z33 := i_19
    obtain ⟨hP, hD⟩ := va_join (wr := [(b_ip, (arZ G 1536 k2_ip))]) hP hD [0, 1, 2, 3, 4] [5] rfl rfl (by decide) (by decide) hk1 hFc hP1 hD1
    generalize H1 = H at hP hS ⊢
    refine g5_rs [(b_ip, (arZ G 1536 k2_ip)), (b_o, (oc12 u_th u_sa b_rf b_ro b_im b_ke u_fd b_tp u_td u_fr u_to u_so u_wo u_fa u_bd u_nc b_nl u_co b_op b_ar u_le b_pi b_pa u_pd u_od b_ws b_hw z20 b_se b_re z21 z22 z23 z24 z25 z26 z27 z28 b_pt z29 z30 b_ip u_ic b_ah b_be b_me u_wd b_tr b_ld u_st b_wn u_id)), (b_ro, (arI G 5740 v_ro)), (b_se, (arJ G 13 z31)), (b_re, (arJ G 400 z32)), (b_pt, (arI G 200 z33))] hP hD (fun hP hD => ?_)
    refine lv_iconst (v := 0) hx hb dX12_mark_15 (by decide) ?_
    refine lv_istore (lv' := [(4, .int 0), (3, .int k2_3), (0, .ref b_o), (1, .int p_1), (2, .int p_2)]) hx hb dX12_mark_16 hl (by decide) rfl (fun ls hl => ?_)
    refine g5_loop (α := (Int32) × (Nat → Int32)) (fun (q : (Int32) × (Nat → Int32)) (ls : Array Slot) (H : Heap) (locs : List Loc) => match q with | (k18_4, k18_ip) => lv_has ls 5 [(4, .int k18_4), (3, .int k2_3), (0, .ref b_o), (1, .int p_1), (2, .int p_2)] ∧ va_P G.1 vwCl [(b_ip, (arZ G 1536 k18_ip)), (b_o, (oc12 u_th u_sa b_rf b_ro b_im b_ke u_fd b_tp u_td u_fr u_to u_so u_wo u_fa u_bd u_nc b_nl u_co b_op b_ar u_le b_pi b_pa u_pd u_od b_ws b_hw z20 b_se b_re z21 z22 z23 z24 z25 z26 z27 z28 b_pt z29 z30 b_ip u_ic b_ah b_be b_me u_wd b_tr b_ld u_st b_wn u_id)), (b_ro, (arI G 5740 v_ro)), (b_se, (arJ G 13 z31)), (b_re, (arJ G 400 z32)), (b_pt, (arI G 200 z33))] H ∧ va_D A [(b_ip, (arZ G 1536 k18_ip)), (b_o, (oc12 u_th u_sa b_rf b_ro b_im b_ke u_fd b_tp u_td u_fr u_to u_so u_wo u_fa u_bd u_nc b_nl u_co b_op b_ar u_le b_pi b_pa u_pd u_od b_ws b_hw z20 b_se b_re z21 z22 z23 z24 z25 z26 z27 z28 b_pt z29 z30 b_ip u_ic b_ah b_be b_me u_wd b_tr b_ld u_st b_wn u_id)), (b_ro, (arI G 5740 v_ro)), (b_se, (arJ G 13 z31)), (b_re, (arJ G 400 z32)), (b_pt, (arI G 200 z33))] ∧ va_S A s.heap H locs ∧ (0 ≤ k18_4.toInt ∧ k18_4.toInt ≤ 200)) (fun (q : (Int32) × (Nat → Int32)) => match q with | (k18_4, k18_ip) => Int.toNat (200 - k18_4.toInt)) (0, k2_ip) ⟨lv_sub hl [0, 1, 2, 3, 4] rfl, hP, hD, hS, ⟨by decide, by decide⟩⟩ ?_
    rintro ⟨k18_4, k18_ip⟩ ls H locs ⟨hl, hP, hD, hS, i_34⟩ ih_18_35
    have hl : lv_has ls 5 [(4, .int k18_4), (3, .int k2_3), (0, .ref b_o), (1, .int p_1), (2, .int p_2)] := hl
    have i_34 : 0 ≤ k18_4.toInt ∧ k18_4.toInt ≤ 200 := i_34
    refine g5_rs [(b_ip, (arZ G 1536 k18_ip)), (b_o, (oc12 u_th u_sa b_rf b_ro b_im b_ke u_fd b_tp u_td u_fr u_to u_so u_wo u_fa u_bd u_nc b_nl u_co b_op b_ar u_le b_pi b_pa u_pd u_od b_ws b_hw z20 b_se b_re z21 z22 z23 z24 z25 z26 z27 z28 b_pt z29 z30 b_ip u_ic b_ah b_be b_me u_wd b_tr b_ld u_st b_wn u_id)), (b_ro, (arI G 5740 v_ro)), (b_se, (arJ G 13 z31)), (b_re, (arJ G 400 z32)), (b_pt, (arI G 200 z33))] hP hD (fun hP hD => ?_)
    refine lv_iload hx hb dX12_mark_18 (lv_at hl 0 rfl) ?_
    refine lv_aload_n hx hb dX12_mark_20 rfl (lv_at hl 2 rfl) ?_
    refine va_get (D := G.1) (ci := 12) (v := .int z28) (C := RX12) (T := TX12) (N := 52) hx hb hts inG_X12 hown hK hP 1 rfl rfl 37 (by decide) (hts _ fl_X12_358) (fun _ h9 => h9) rfl dX12_mark_21 ?_
    refine lv_icmp_ge (tgt := 46) hx hb dX12_mark_24 (by decide) (fun c_36 => ?_) (fun c_36 => ?_)
    ·
      have i_36 : k18_4.toInt ≥ z28.toInt := by have z := g5_ge (a := k18_4.toInt) (b := z28.toInt) (by rfl) (by rfl) c_36; omega
      refine lv_iinc (v := (k2_3 + 1)) (lv' := [(3, .int (k2_3 + 1)), (4, .int k18_4), (0, .ref b_o), (1, .int p_1), (2, .int p_2)]) hx hb dX12_mark_46 hl (k := 1) rfl rfl (by decide) rfl (fun ls hl => ?_)
      have t_37 : (k2_3 + 1).toInt = k2_3.toInt + 1 := g5_iadd (a := k2_3.toInt) (b := 1) rfl (by decide) (by omega) (by omega)
      refine lv_goto (tgt := 2) hx hb dX12_mark_49 (by decide) ?_
      exact ih_2_10 ((k2_3 + 1), z20, z21, z22, z23, z24, z25, z26, z27, z28, z29, z30, z31, z32, z33, k18_ip) ls H locs (show Int.toNat (4 - (k2_3 + 1).toInt) < Int.toNat (4 - k2_3.toInt) from g_up (show k2_3.toInt < (k2_3 + 1).toInt by omega) (show k2_3.toInt < 4 by omega)) ⟨lv_sub hl [0, 2, 3, 4] rfl, hP.sub [1, 2, 3, 4, 5, 0] rfl, hD.sub [1, 2, 3, 4, 5, 0] (by decide) rfl, hS, ⟨by omega, by omega⟩, i_12, i_13, i_14, i_15, i_16, i_17, i_18, i_19⟩
    ·
      have i_36 : k18_4.toInt < z28.toInt := by have z := g5_geN (a := k18_4.toInt) (b := z28.toInt) (by rfl) (by rfl) c_36; omega
      refine lv_aload_n hx hb dX12_mark_27 rfl (lv_at hl 2 rfl) ?_
      refine va_get (D := G.1) (ci := 12) (v := .ref b_ip) (C := RX12) (T := TX12) (N := 52) hx hb hts inG_X12 hown hK hP 1 rfl rfl 41 (by decide) (hts _ fl_X12_85) (fun _ h9 => h9) rfl dX12_mark_28 ?_
      refine lv_aload_n hx hb dX12_mark_31 rfl (lv_at hl 2 rfl) ?_
      refine va_get (D := G.1) (ci := 12) (v := .ref b_pt) (C := RX12) (T := TX12) (N := 52) hx hb hts inG_X12 hown hK hP 1 rfl rfl 38 (by decide) (hts _ fl_X12_82) (fun _ h9 => h9) rfl dX12_mark_32 ?_
      refine lv_iload hx hb dX12_mark_35 (lv_at hl 0 rfl) ?_
      refine va_iald hx hb hK hP 5 0 rfl rfl (i := k18_4) (vp_in_iff.mpr ⟨by omega, by omega⟩) dX12_mark_37 ?_
      have hr_38 : 0 ≤ (z33 k18_4.toNatClampNeg).toInt ∧ (z33 k18_4.toNatClampNeg).toInt ≤ 1535 := i_19 (k18_4.toNatClampNeg)
      refine lv_iconst (v := 1) hx hb dX12_mark_38 (by decide) ?_
      refine va_zast hx hb hK hP hD hS 0 2 rfl rfl (i := (z33 k18_4.toNatClampNeg)) (x := 1) (vp_in_iff.mpr ⟨by omega, by omega⟩) dX12_mark_39 (fun H locs hP hD hS => ?_)
      refine g5_rs [(b_ip, (arZ G 1536 (upd k18_ip (z33 k18_4.toNatClampNeg).toNatClampNeg 1))), (b_o, (oc12 u_th u_sa b_rf b_ro b_im b_ke u_fd b_tp u_td u_fr u_to u_so u_wo u_fa u_bd u_nc b_nl u_co b_op b_ar u_le b_pi b_pa u_pd u_od b_ws b_hw z20 b_se b_re z21 z22 z23 z24 z25 z26 z27 z28 b_pt z29 z30 b_ip u_ic b_ah b_be b_me u_wd b_tr b_ld u_st b_wn u_id)), (b_ro, (arI G 5740 v_ro)), (b_se, (arJ G 13 z31)), (b_re, (arJ G 400 z32)), (b_pt, (arI G 200 z33))] hP hD (fun hP hD => ?_)
      refine lv_iinc (v := (k18_4 + 1)) (lv' := [(4, .int (k18_4 + 1)), (3, .int k2_3), (0, .ref b_o), (1, .int p_1), (2, .int p_2)]) hx hb dX12_mark_40 hl (k := 0) rfl rfl (by decide) rfl (fun ls hl => ?_)
      have t_39 : (k18_4 + 1).toInt = k18_4.toInt + 1 := g5_iadd (a := k18_4.toInt) (b := 1) rfl (by decide) (by omega) (by omega)
      refine lv_goto (tgt := 18) hx hb dX12_mark_43 (by decide) ?_
      exact ih_18_35 ((k18_4 + 1), (upd k18_ip (z33 k18_4.toNatClampNeg).toNatClampNeg 1)) ls H locs (show Int.toNat (200 - (k18_4 + 1).toInt) < Int.toNat (200 - k18_4.toInt) from g_up (show k18_4.toInt < (k18_4 + 1).toInt by omega) (show k18_4.toInt < 200 by omega)) ⟨lv_sub hl [0, 1, 2, 3, 4] rfl, hP, hD, hS, ⟨by omega, by omega⟩⟩
theorem dgX12_clearPoints_0 : ∀ r ∈ ([(0, (.iconst 0, 1)), (1, (.istore_n 1, 1)), (2, (.iload_n 1, 1)), (3, (.sipush 1536, 3)), (6, (.if_icmp .ge 16, 3)), (9, (.aload_n 0, 1)), (10, (.getfield 85, 3)), (13, (.iload_n 1, 1)), (14, (.iconst 0, 1)), (15, (.bastore, 1)), (16, (.iinc 1 1, 3)), (19, (.goto (-17), 3)), (22, (.return_, 1))] : List (Nat × (Instr × Nat))), decode cX12_clearPoints r.1 = .ok r.2 := by decide +kernel
theorem dX12_clearPoints_0 : decode cX12_clearPoints 0 = .ok (.iconst 0, 1) := dgX12_clearPoints_0 (0, (.iconst 0, 1)) (List.mem_of_getElem? (i := 0) rfl)
theorem dX12_clearPoints_1 : decode cX12_clearPoints 1 = .ok (.istore_n 1, 1) := dgX12_clearPoints_0 (1, (.istore_n 1, 1)) (List.mem_of_getElem? (i := 1) rfl)
theorem dX12_clearPoints_2 : decode cX12_clearPoints 2 = .ok (.iload_n 1, 1) := dgX12_clearPoints_0 (2, (.iload_n 1, 1)) (List.mem_of_getElem? (i := 2) rfl)
theorem dX12_clearPoints_3 : decode cX12_clearPoints 3 = .ok (.sipush 1536, 3) := dgX12_clearPoints_0 (3, (.sipush 1536, 3)) (List.mem_of_getElem? (i := 3) rfl)
theorem dX12_clearPoints_6 : decode cX12_clearPoints 6 = .ok (.if_icmp .ge 16, 3) := dgX12_clearPoints_0 (6, (.if_icmp .ge 16, 3)) (List.mem_of_getElem? (i := 4) rfl)
theorem dX12_clearPoints_9 : decode cX12_clearPoints 9 = .ok (.aload_n 0, 1) := dgX12_clearPoints_0 (9, (.aload_n 0, 1)) (List.mem_of_getElem? (i := 5) rfl)
theorem dX12_clearPoints_10 : decode cX12_clearPoints 10 = .ok (.getfield 85, 3) := dgX12_clearPoints_0 (10, (.getfield 85, 3)) (List.mem_of_getElem? (i := 6) rfl)
theorem dX12_clearPoints_13 : decode cX12_clearPoints 13 = .ok (.iload_n 1, 1) := dgX12_clearPoints_0 (13, (.iload_n 1, 1)) (List.mem_of_getElem? (i := 7) rfl)
theorem dX12_clearPoints_14 : decode cX12_clearPoints 14 = .ok (.iconst 0, 1) := dgX12_clearPoints_0 (14, (.iconst 0, 1)) (List.mem_of_getElem? (i := 8) rfl)
theorem dX12_clearPoints_15 : decode cX12_clearPoints 15 = .ok (.bastore, 1) := dgX12_clearPoints_0 (15, (.bastore, 1)) (List.mem_of_getElem? (i := 9) rfl)
theorem dX12_clearPoints_16 : decode cX12_clearPoints 16 = .ok (.iinc 1 1, 3) := dgX12_clearPoints_0 (16, (.iinc 1 1, 3)) (List.mem_of_getElem? (i := 10) rfl)
theorem dX12_clearPoints_19 : decode cX12_clearPoints 19 = .ok (.goto (-17), 3) := dgX12_clearPoints_0 (19, (.goto (-17), 3)) (List.mem_of_getElem? (i := 11) rfl)
theorem dX12_clearPoints_22 : decode cX12_clearPoints 22 = .ok (.return_, 1) := dgX12_clearPoints_0 (22, (.return_, 1)) (List.mem_of_getElem? (i := 12) rfl)
set_option maxHeartbeats 4000000 in
set_option maxRecDepth 100000 in
theorem n_clearPoints (l : Launch) (G : g5_G) (b_o b_ip b_rf b_ro b_im b_ke b_tp b_nl b_op b_ar b_pi b_pa b_ws b_hw b_se b_re b_pt b_ah b_be b_me b_tr b_ld b_wn : Nat) (sz : Nat) (u_th : Int32) (u_sa : Int32) (u_fd : Int32) (u_td : Int32) (u_fr : Int32) (u_to : Int32) (u_so : Int32) (u_fa : Int32) (u_bd : Int32) (u_nc : Int32) (u_co : Int32) (u_le : Int32) (u_pd : Int32) (u_od : Int32) (u_la : Int32) (u_bk : Int32) (u_ce : Int32) (u_ho : Int32) (u_wy : Int32) (u_bt : Int32) (u_ps : Int32) (u_tg : Int32) (u_sn : Int32) (u_ic : Int32) (u_wd : Int32) (u_id : Int32) (u_wo : Int64) (u_va : Int64) (u_su : Int64) (u_st : Int64) (v_ip : Nat → Int32) (h_u_td : 0 ≤ u_td.toInt ∧ u_td.toInt ≤ 400) (h_u_fr : 0 ≤ u_fr.toInt ∧ u_fr.toInt ≤ 400) (h_u_to : 0 ≤ u_to.toInt ∧ u_to.toInt ≤ 400) (h_u_bd : 0 ≤ u_bd.toInt ∧ u_bd.toInt ≤ 1) (h_u_nc : 0 ≤ u_nc.toInt ∧ u_nc.toInt ≤ 12) (h_u_co : 0 ≤ u_co.toInt ∧ u_co.toInt ≤ 400) (h_u_pd : 0 ≤ u_pd.toInt ∧ u_pd.toInt ≤ 400) (h_u_la : 0 ≤ u_la.toInt ∧ u_la.toInt ≤ 4840) (h_u_bk : 0 ≤ u_bk.toInt ∧ u_bk.toInt ≤ 1) (h_u_ce : 0 ≤ u_ce.toInt ∧ u_ce.toInt ≤ 63) (h_u_ho : 0 ≤ u_ho.toInt ∧ u_ho.toInt ≤ 23) (h_u_wy : 0 ≤ u_wy.toInt ∧ u_wy.toInt ≤ 3) (h_u_bt : 0 ≤ u_bt.toInt ∧ u_bt.toInt ≤ 1000000) (h_u_ps : 0 ≤ u_ps.toInt ∧ u_ps.toInt ≤ 200) (h_u_ic : 0 ≤ u_ic.toInt ∧ u_ic.toInt ≤ 1) (h_u_id : 0 ≤ u_id.toInt ∧ u_id.toInt ≤ 1) : Met l yX12_clearPoints (wsG yX12_clearPoints cX12_clearPoints 2 none) ({ frames := 0, cells := 0, slots := 0, locals := 0 }) (va_Pc [.ref b_o] (g5_P G [(b_o, (oc12 u_th u_sa b_rf b_ro b_im b_ke u_fd b_tp u_td u_fr u_to u_so u_wo u_fa u_bd u_nc b_nl u_co b_op b_ar u_le b_pi b_pa u_pd u_od b_ws b_hw u_la b_se b_re u_bk u_va u_su u_ce u_ho u_wy u_bt u_ps b_pt u_tg u_sn b_ip u_ic b_ah b_be b_me u_wd b_tr b_ld u_st b_wn u_id)), (b_ip, (arZ G 1536 v_ip))] sz)) (va_Qv (fun (u : va_W) => (∃ (o_ip : Nat → Int32), (u = [(b_o, (oc12 u_th u_sa b_rf b_ro b_im b_ke u_fd b_tp u_td u_fr u_to u_so u_wo u_fa u_bd u_nc b_nl u_co b_op b_ar u_le b_pi b_pa u_pd u_od b_ws b_hw u_la b_se b_re u_bk u_va u_su u_ce u_ho u_wy u_bt u_ps b_pt u_tg u_sn b_ip u_ic b_ah b_be b_me u_wd b_tr b_ld u_st b_wn u_id)), (b_ip, (arZ G 1536 o_ip))]))) (g5_B G (va_A [(b_o, (oc12 u_th u_sa b_rf b_ro b_im b_ke u_fd b_tp u_td u_fr u_to u_so u_wo u_fa u_bd u_nc b_nl u_co b_op b_ar u_le b_pi b_pa u_pd u_od b_ws b_hw u_la b_se b_re u_bk u_va u_su u_ce u_ho u_wy u_bt u_ps b_pt u_tg u_sn b_ip u_ic b_ah b_be b_me u_wd b_tr b_ld u_st b_wn u_id)), (b_ip, (arZ G 1536 v_ip))] sz)) (va_A [(b_o, (oc12 u_th u_sa b_rf b_ro b_im b_ke u_fd b_tp u_td u_fr u_to u_so u_wo u_fa u_bd u_nc b_nl u_co b_op b_ar u_le b_pi b_pa u_pd u_od b_ws b_hw u_la b_se b_re u_bk u_va u_su u_ce u_ho u_wy u_bt u_ps b_pt u_tg u_sn b_ip u_ic b_ah b_be b_me u_wd b_tr b_ld u_st b_wn u_id)), (b_ip, (arZ G 1536 v_ip))] sz)) 0 0 (va_A [(b_o, (oc12 u_th u_sa b_rf b_ro b_im b_ke u_fd b_tp u_td u_fr u_to u_so u_wo u_fa u_bd u_nc b_nl u_co b_op b_ar u_le b_pi b_pa u_pd u_od b_ws b_hw u_la b_se b_re u_bk u_va u_su u_ce u_ho u_wy u_bt u_ps b_pt u_tg u_sn b_ip u_ic b_ah b_be b_me u_wd b_tr b_ld u_st b_wn u_id)), (b_ip, (arZ G 1536 v_ip))] sz) := by
  refine Met.ofW (cc := cX12_clearPoints) (maxL := 2) (ret := none) (by decide) rfl ?_
  intro p e s m args below meth c s₁ B hml hv
  obtain ⟨rfl, hsz, hP, hK, hD0, hN, hT⟩ := hv
  have hx := B.exec
  have hb := B.bytes
  have hr := B.returns
  have hts : ∀ w ∈ tblG, w.before _ s = true := fun w h => atoms_spec (ws := (wsG yX12_clearPoints cX12_clearPoints 2 none)) B.pre w (List.mem_cons_of_mem _ h)
  have hown : s.vm.findClass RX12 = some m.cls := findClass_of_methodNamed B.named
  have hlocks := B.notSynchronized
  subst hsz
  have hD := hD0.self (sz := s.heap.size)
  generalize hAe : va_A [(b_o, (oc12 u_th u_sa b_rf b_ro b_im b_ke u_fd b_tp u_td u_fr u_to u_so u_wo u_fa u_bd u_nc b_nl u_co b_op b_ar u_le b_pi b_pa u_pd u_od b_ws b_hw u_la b_se b_re u_bk u_va u_su u_ce u_ho u_wy u_bt u_ps b_pt u_tg u_sn b_ip u_ic b_ah b_be b_me u_wd b_tr b_ld u_st b_wn u_id)), (b_ip, (arZ G 1536 v_ip))] s.heap.size = A at hD hT ⊢
  have hA : ∀ q : Nat, s.heap.size ≤ q → A q := fun q h => by rw [← hAe]; exact Or.inr h
  have hS : va_S A s.heap s.heap [] := va_S.rf
  have hP : va_P G.1 vwCl [(b_o, (oc12 u_th u_sa b_rf b_ro b_im b_ke u_fd b_tp u_td u_fr u_to u_so u_wo u_fa u_bd u_nc b_nl u_co b_op b_ar u_le b_pi b_pa u_pd u_od b_ws b_hw u_la b_se b_re u_bk u_va u_su u_ce u_ho u_wy u_bt u_ps b_pt u_tg u_sn b_ip u_ic b_ah b_be b_me u_wd b_tr b_ld u_st b_wn u_id)), (b_ip, (arZ G 1536 v_ip))] s.heap := hP
  have hl := lv_entry ([.ref b_o]) (n := 2) (Nat.le_of_ble_eq_true rfl)
  rw [lg_entry_eq]
  generalize (lg_sl ([.ref b_o]) ++ List.replicate (2 - (lg_sl ([.ref b_o])).length) Slot.unset).toArray = ls at hl ⊢
  have hl : lv_has ls 2 [(0, .ref b_o)] := hl
  refine lv_iconst (v := 0) hx hb dX12_clearPoints_0 (by decide) ?_
  refine lv_istore_n (lv' := [(1, .int 0), (0, .ref b_o)]) hx hb dX12_clearPoints_1 rfl hl (by decide) rfl (fun ls hl => ?_)
  refine g5_loop (α := (Int32) × (Nat → Int32)) (fun (q : (Int32) × (Nat → Int32)) (ls : Array Slot) (H : Heap) (locs : List Loc) => match q with | (k2_1, k2_ip) => lv_has ls 2 [(1, .int k2_1), (0, .ref b_o)] ∧ va_P G.1 vwCl [(b_o, (oc12 u_th u_sa b_rf b_ro b_im b_ke u_fd b_tp u_td u_fr u_to u_so u_wo u_fa u_bd u_nc b_nl u_co b_op b_ar u_le b_pi b_pa u_pd u_od b_ws b_hw u_la b_se b_re u_bk u_va u_su u_ce u_ho u_wy u_bt u_ps b_pt u_tg u_sn b_ip u_ic b_ah b_be b_me u_wd b_tr b_ld u_st b_wn u_id)), (b_ip, (arZ G 1536 k2_ip))] H ∧ va_D A [(b_o, (oc12 u_th u_sa b_rf b_ro b_im b_ke u_fd b_tp u_td u_fr u_to u_so u_wo u_fa u_bd u_nc b_nl u_co b_op b_ar u_le b_pi b_pa u_pd u_od b_ws b_hw u_la b_se b_re u_bk u_va u_su u_ce u_ho u_wy u_bt u_ps b_pt u_tg u_sn b_ip u_ic b_ah b_be b_me u_wd b_tr b_ld u_st b_wn u_id)), (b_ip, (arZ G 1536 k2_ip))] ∧ va_S A s.heap H locs ∧ (0 ≤ k2_1.toInt ∧ k2_1.toInt ≤ 1536)) (fun (q : (Int32) × (Nat → Int32)) => match q with | (k2_1, k2_ip) => Int.toNat (1536 - k2_1.toInt)) (0, v_ip) ⟨lv_sub hl [0, 1] rfl, hP, hD, hS, ⟨by decide, by decide⟩⟩ ?_
  rintro ⟨k2_1, k2_ip⟩ ls H locs ⟨hl, hP, hD, hS, i_1⟩ ih_2_2
  have hl : lv_has ls 2 [(1, .int k2_1), (0, .ref b_o)] := hl
  have i_1 : 0 ≤ k2_1.toInt ∧ k2_1.toInt ≤ 1536 := i_1
  refine g5_rs [(b_o, (oc12 u_th u_sa b_rf b_ro b_im b_ke u_fd b_tp u_td u_fr u_to u_so u_wo u_fa u_bd u_nc b_nl u_co b_op b_ar u_le b_pi b_pa u_pd u_od b_ws b_hw u_la b_se b_re u_bk u_va u_su u_ce u_ho u_wy u_bt u_ps b_pt u_tg u_sn b_ip u_ic b_ah b_be b_me u_wd b_tr b_ld u_st b_wn u_id)), (b_ip, (arZ G 1536 k2_ip))] hP hD (fun hP hD => ?_)
  refine lv_iload_n hx hb dX12_clearPoints_2 rfl (lv_at hl 0 rfl) ?_
  refine lv_sipush (v := 1536) hx hb dX12_clearPoints_3 (by decide) ?_
  refine lv_icmp_ge (tgt := 22) hx hb dX12_clearPoints_6 (by decide) (fun c_3 => ?_) (fun c_3 => ?_)
  ·
    have i_3 : k2_1.toInt ≥ 1536 := by have z := g5_ge (a := k2_1.toInt) (b := 1536) (by rfl) (by decide) c_3; omega
    exact W.vret hx hb hr (fun t ht hW => ⟨⟨[(b_o, (oc12 u_th u_sa b_rf b_ro b_im b_ke u_fd b_tp u_td u_fr u_to u_so u_wo u_fa u_bd u_nc b_nl u_co b_op b_ar u_le b_pi b_pa u_pd u_od b_ws b_hw u_la b_se b_re u_bk u_va u_su u_ce u_ho u_wy u_bt u_ps b_pt u_tg u_sn b_ip u_ic b_ah b_be b_me u_wd b_tr b_ld u_st b_wn u_id)), (b_ip, (arZ G 1536 k2_ip))], rfl, ⟨k2_ip, rfl⟩, by rw [ht]; exact hP.sub [0, 1] rfl, hD.sub [0, 1] (by decide) rfl⟩, hS.F ht⟩) hS.2.2 dX12_clearPoints_22
  ·
    have i_3 : k2_1.toInt < 1536 := by have z := g5_geN (a := k2_1.toInt) (b := 1536) (by rfl) (by decide) c_3; omega
    refine lv_aload_n hx hb dX12_clearPoints_9 rfl (lv_at hl 1 rfl) ?_
    refine va_get (D := G.1) (ci := 12) (v := .ref b_ip) (C := RX12) (T := TX12) (N := 52) hx hb hts inG_X12 hown hK hP 0 rfl rfl 41 (by decide) (hts _ fl_X12_85) (fun _ h9 => h9) rfl dX12_clearPoints_10 ?_
    refine lv_iload_n hx hb dX12_clearPoints_13 rfl (lv_at hl 0 rfl) ?_
    refine lv_iconst (v := 0) hx hb dX12_clearPoints_14 (by decide) ?_
    refine va_zast hx hb hK hP hD hS 1 2 rfl rfl (i := k2_1) (x := 0) (vp_in_iff.mpr ⟨by omega, by omega⟩) dX12_clearPoints_15 (fun H locs hP hD hS => ?_)
    refine g5_rs [(b_o, (oc12 u_th u_sa b_rf b_ro b_im b_ke u_fd b_tp u_td u_fr u_to u_so u_wo u_fa u_bd u_nc b_nl u_co b_op b_ar u_le b_pi b_pa u_pd u_od b_ws b_hw u_la b_se b_re u_bk u_va u_su u_ce u_ho u_wy u_bt u_ps b_pt u_tg u_sn b_ip u_ic b_ah b_be b_me u_wd b_tr b_ld u_st b_wn u_id)), (b_ip, (arZ G 1536 (upd k2_ip k2_1.toNatClampNeg 0)))] hP hD (fun hP hD => ?_)
    refine lv_iinc (v := (k2_1 + 1)) (lv' := [(1, .int (k2_1 + 1)), (0, .ref b_o)]) hx hb dX12_clearPoints_16 hl (k := 0) rfl rfl (by decide) rfl (fun ls hl => ?_)
    have t_4 : (k2_1 + 1).toInt = k2_1.toInt + 1 := g5_iadd (a := k2_1.toInt) (b := 1) rfl (by decide) (by omega) (by omega)
    refine lv_goto (tgt := 2) hx hb dX12_clearPoints_19 (by decide) ?_
    exact ih_2_2 ((k2_1 + 1), (upd k2_ip k2_1.toNatClampNeg 0)) ls H locs (show Int.toNat (1536 - (k2_1 + 1).toInt) < Int.toNat (1536 - k2_1.toInt) from g_up (show k2_1.toInt < (k2_1 + 1).toInt by omega) (show k2_1.toInt < 1536 by omega)) ⟨lv_sub hl [0, 1] rfl, hP, hD, hS, ⟨by omega, by omega⟩⟩
theorem dgX12_lit_0 : ∀ r ∈ ([(0, (.aload_n 0, 1)), (1, (.iconst 0, 1)), (2, (.putfield 107, 3)), (5, (.iload_n 1, 1)), (6, (.invokestatic 138, 3)), (9, (.ifCond .eq 24, 3)), (12, (.iload_n 2, 1)), (13, (.invokestatic 175, 3)), (16, (.ifCond .eq 17, 3)), (19, (.iload_n 3, 1)), (20, (.i2l, 1)), (21, (.ldc2_w 178, 3)), (24, (.ldc2_w 128, 3)), (27, (.invokestatic 121, 3)), (30, (.ifCond .ne 5, 3)), (33, (.iconst (-1), 1)), (34, (.ireturn, 1)), (35, (.aload_n 0, 1)), (36, (.invokevirtual 413, 3)), (39, (.aload_n 0, 1)), (40, (.iload_n 1, 1)), (41, (.iload_n 2, 1)), (42, (.invokevirtual 416, 3)), (45, (.iconst 0, 1)), (46, (.istore 4, 2)), (48, (.iconst 0, 1)), (49, (.istore 5, 2)), (51, (.iload 5, 2)), (53, (.bipush 64, 2)), (55, (.if_icmp .ge 82, 3)), (58, (.iconst 0, 1)), (59, (.istore 6, 2)), (61, (.iconst 0, 1)), (62, (.istore 7, 2)), (64, (.iload 7, 2)), (66, (.bipush 24, 2)), (68, (.if_icmp .ge 37, 3)), (71, (.iload 6, 2)), (73, (.ifCond .ne 19, 3)), (76, (.aload_n 0, 1))] : List (Nat × (Instr × Nat))), decode cX12_lit r.1 = .ok r.2 := by decide +kernel
theorem dX12_lit_0 : decode cX12_lit 0 = .ok (.aload_n 0, 1) := dgX12_lit_0 (0, (.aload_n 0, 1)) (List.mem_of_getElem? (i := 0) rfl)
theorem dX12_lit_1 : decode cX12_lit 1 = .ok (.iconst 0, 1) := dgX12_lit_0 (1, (.iconst 0, 1)) (List.mem_of_getElem? (i := 1) rfl)
theorem dX12_lit_2 : decode cX12_lit 2 = .ok (.putfield 107, 3) := dgX12_lit_0 (2, (.putfield 107, 3)) (List.mem_of_getElem? (i := 2) rfl)
theorem dX12_lit_5 : decode cX12_lit 5 = .ok (.iload_n 1, 1) := dgX12_lit_0 (5, (.iload_n 1, 1)) (List.mem_of_getElem? (i := 3) rfl)
theorem dX12_lit_6 : decode cX12_lit 6 = .ok (.invokestatic 138, 3) := dgX12_lit_0 (6, (.invokestatic 138, 3)) (List.mem_of_getElem? (i := 4) rfl)
theorem dX12_lit_9 : decode cX12_lit 9 = .ok (.ifCond .eq 24, 3) := dgX12_lit_0 (9, (.ifCond .eq 24, 3)) (List.mem_of_getElem? (i := 5) rfl)
theorem dX12_lit_12 : decode cX12_lit 12 = .ok (.iload_n 2, 1) := dgX12_lit_0 (12, (.iload_n 2, 1)) (List.mem_of_getElem? (i := 6) rfl)
theorem dX12_lit_13 : decode cX12_lit 13 = .ok (.invokestatic 175, 3) := dgX12_lit_0 (13, (.invokestatic 175, 3)) (List.mem_of_getElem? (i := 7) rfl)
theorem dX12_lit_16 : decode cX12_lit 16 = .ok (.ifCond .eq 17, 3) := dgX12_lit_0 (16, (.ifCond .eq 17, 3)) (List.mem_of_getElem? (i := 8) rfl)
theorem dX12_lit_19 : decode cX12_lit 19 = .ok (.iload_n 3, 1) := dgX12_lit_0 (19, (.iload_n 3, 1)) (List.mem_of_getElem? (i := 9) rfl)
theorem dX12_lit_20 : decode cX12_lit 20 = .ok (.i2l, 1) := dgX12_lit_0 (20, (.i2l, 1)) (List.mem_of_getElem? (i := 10) rfl)
theorem dX12_lit_21 : decode cX12_lit 21 = .ok (.ldc2_w 178, 3) := dgX12_lit_0 (21, (.ldc2_w 178, 3)) (List.mem_of_getElem? (i := 11) rfl)
theorem dX12_lit_24 : decode cX12_lit 24 = .ok (.ldc2_w 128, 3) := dgX12_lit_0 (24, (.ldc2_w 128, 3)) (List.mem_of_getElem? (i := 12) rfl)
theorem dX12_lit_27 : decode cX12_lit 27 = .ok (.invokestatic 121, 3) := dgX12_lit_0 (27, (.invokestatic 121, 3)) (List.mem_of_getElem? (i := 13) rfl)
theorem dX12_lit_30 : decode cX12_lit 30 = .ok (.ifCond .ne 5, 3) := dgX12_lit_0 (30, (.ifCond .ne 5, 3)) (List.mem_of_getElem? (i := 14) rfl)
theorem dX12_lit_33 : decode cX12_lit 33 = .ok (.iconst (-1), 1) := dgX12_lit_0 (33, (.iconst (-1), 1)) (List.mem_of_getElem? (i := 15) rfl)
theorem dX12_lit_34 : decode cX12_lit 34 = .ok (.ireturn, 1) := dgX12_lit_0 (34, (.ireturn, 1)) (List.mem_of_getElem? (i := 16) rfl)
theorem dX12_lit_35 : decode cX12_lit 35 = .ok (.aload_n 0, 1) := dgX12_lit_0 (35, (.aload_n 0, 1)) (List.mem_of_getElem? (i := 17) rfl)
theorem dX12_lit_36 : decode cX12_lit 36 = .ok (.invokevirtual 413, 3) := dgX12_lit_0 (36, (.invokevirtual 413, 3)) (List.mem_of_getElem? (i := 18) rfl)
theorem dX12_lit_39 : decode cX12_lit 39 = .ok (.aload_n 0, 1) := dgX12_lit_0 (39, (.aload_n 0, 1)) (List.mem_of_getElem? (i := 19) rfl)
theorem dX12_lit_40 : decode cX12_lit 40 = .ok (.iload_n 1, 1) := dgX12_lit_0 (40, (.iload_n 1, 1)) (List.mem_of_getElem? (i := 20) rfl)
theorem dX12_lit_41 : decode cX12_lit 41 = .ok (.iload_n 2, 1) := dgX12_lit_0 (41, (.iload_n 2, 1)) (List.mem_of_getElem? (i := 21) rfl)
theorem dX12_lit_42 : decode cX12_lit 42 = .ok (.invokevirtual 416, 3) := dgX12_lit_0 (42, (.invokevirtual 416, 3)) (List.mem_of_getElem? (i := 22) rfl)
theorem dX12_lit_45 : decode cX12_lit 45 = .ok (.iconst 0, 1) := dgX12_lit_0 (45, (.iconst 0, 1)) (List.mem_of_getElem? (i := 23) rfl)
theorem dX12_lit_46 : decode cX12_lit 46 = .ok (.istore 4, 2) := dgX12_lit_0 (46, (.istore 4, 2)) (List.mem_of_getElem? (i := 24) rfl)
theorem dX12_lit_48 : decode cX12_lit 48 = .ok (.iconst 0, 1) := dgX12_lit_0 (48, (.iconst 0, 1)) (List.mem_of_getElem? (i := 25) rfl)
theorem dX12_lit_49 : decode cX12_lit 49 = .ok (.istore 5, 2) := dgX12_lit_0 (49, (.istore 5, 2)) (List.mem_of_getElem? (i := 26) rfl)
theorem dX12_lit_51 : decode cX12_lit 51 = .ok (.iload 5, 2) := dgX12_lit_0 (51, (.iload 5, 2)) (List.mem_of_getElem? (i := 27) rfl)
theorem dX12_lit_53 : decode cX12_lit 53 = .ok (.bipush 64, 2) := dgX12_lit_0 (53, (.bipush 64, 2)) (List.mem_of_getElem? (i := 28) rfl)
theorem dX12_lit_55 : decode cX12_lit 55 = .ok (.if_icmp .ge 82, 3) := dgX12_lit_0 (55, (.if_icmp .ge 82, 3)) (List.mem_of_getElem? (i := 29) rfl)
theorem dX12_lit_58 : decode cX12_lit 58 = .ok (.iconst 0, 1) := dgX12_lit_0 (58, (.iconst 0, 1)) (List.mem_of_getElem? (i := 30) rfl)
theorem dX12_lit_59 : decode cX12_lit 59 = .ok (.istore 6, 2) := dgX12_lit_0 (59, (.istore 6, 2)) (List.mem_of_getElem? (i := 31) rfl)
theorem dX12_lit_61 : decode cX12_lit 61 = .ok (.iconst 0, 1) := dgX12_lit_0 (61, (.iconst 0, 1)) (List.mem_of_getElem? (i := 32) rfl)
theorem dX12_lit_62 : decode cX12_lit 62 = .ok (.istore 7, 2) := dgX12_lit_0 (62, (.istore 7, 2)) (List.mem_of_getElem? (i := 33) rfl)
theorem dX12_lit_64 : decode cX12_lit 64 = .ok (.iload 7, 2) := dgX12_lit_0 (64, (.iload 7, 2)) (List.mem_of_getElem? (i := 34) rfl)
theorem dX12_lit_66 : decode cX12_lit 66 = .ok (.bipush 24, 2) := dgX12_lit_0 (66, (.bipush 24, 2)) (List.mem_of_getElem? (i := 35) rfl)
theorem dX12_lit_68 : decode cX12_lit 68 = .ok (.if_icmp .ge 37, 3) := dgX12_lit_0 (68, (.if_icmp .ge 37, 3)) (List.mem_of_getElem? (i := 36) rfl)
theorem dX12_lit_71 : decode cX12_lit 71 = .ok (.iload 6, 2) := dgX12_lit_0 (71, (.iload 6, 2)) (List.mem_of_getElem? (i := 37) rfl)
theorem dX12_lit_73 : decode cX12_lit 73 = .ok (.ifCond .ne 19, 3) := dgX12_lit_0 (73, (.ifCond .ne 19, 3)) (List.mem_of_getElem? (i := 38) rfl)
theorem dX12_lit_76 : decode cX12_lit 76 = .ok (.aload_n 0, 1) := dgX12_lit_0 (76, (.aload_n 0, 1)) (List.mem_of_getElem? (i := 39) rfl)
theorem dgX12_lit_1 : ∀ r ∈ ([(77, (.getfield 85, 3)), (80, (.bipush 64, 2)), (82, (.iload 7, 2)), (84, (.imul, 1)), (85, (.iload 5, 2)), (87, (.iadd, 1)), (88, (.baload, 1)), (89, (.ifCond .eq 7, 3)), (92, (.iconst 1, 1)), (93, (.goto 4, 3)), (96, (.iconst 0, 1)), (97, (.istore 6, 2)), (99, (.iinc 7 1, 3)), (102, (.goto (-38), 3)), (105, (.iload 4, 2)), (107, (.iload 6, 2)), (109, (.ifCond .eq 18, 3)), (112, (.iload_n 3, 1)), (113, (.iconst (-1), 1)), (114, (.if_icmp .eq 9, 3)), (117, (.iload_n 3, 1)), (118, (.iload 5, 2)), (120, (.if_icmp .ne 7, 3)), (123, (.iconst 1, 1)), (124, (.goto 4, 3)), (127, (.iconst 0, 1)), (128, (.iadd, 1)), (129, (.istore 4, 2)), (131, (.iinc 5 1, 3)), (134, (.goto (-83), 3)), (137, (.iload 4, 2)), (139, (.ireturn, 1))] : List (Nat × (Instr × Nat))), decode cX12_lit r.1 = .ok r.2 := by decide +kernel
theorem dX12_lit_77 : decode cX12_lit 77 = .ok (.getfield 85, 3) := dgX12_lit_1 (77, (.getfield 85, 3)) (List.mem_of_getElem? (i := 0) rfl)
theorem dX12_lit_80 : decode cX12_lit 80 = .ok (.bipush 64, 2) := dgX12_lit_1 (80, (.bipush 64, 2)) (List.mem_of_getElem? (i := 1) rfl)
theorem dX12_lit_82 : decode cX12_lit 82 = .ok (.iload 7, 2) := dgX12_lit_1 (82, (.iload 7, 2)) (List.mem_of_getElem? (i := 2) rfl)
theorem dX12_lit_84 : decode cX12_lit 84 = .ok (.imul, 1) := dgX12_lit_1 (84, (.imul, 1)) (List.mem_of_getElem? (i := 3) rfl)
theorem dX12_lit_85 : decode cX12_lit 85 = .ok (.iload 5, 2) := dgX12_lit_1 (85, (.iload 5, 2)) (List.mem_of_getElem? (i := 4) rfl)
theorem dX12_lit_87 : decode cX12_lit 87 = .ok (.iadd, 1) := dgX12_lit_1 (87, (.iadd, 1)) (List.mem_of_getElem? (i := 5) rfl)
theorem dX12_lit_88 : decode cX12_lit 88 = .ok (.baload, 1) := dgX12_lit_1 (88, (.baload, 1)) (List.mem_of_getElem? (i := 6) rfl)
theorem dX12_lit_89 : decode cX12_lit 89 = .ok (.ifCond .eq 7, 3) := dgX12_lit_1 (89, (.ifCond .eq 7, 3)) (List.mem_of_getElem? (i := 7) rfl)
theorem dX12_lit_92 : decode cX12_lit 92 = .ok (.iconst 1, 1) := dgX12_lit_1 (92, (.iconst 1, 1)) (List.mem_of_getElem? (i := 8) rfl)
theorem dX12_lit_93 : decode cX12_lit 93 = .ok (.goto 4, 3) := dgX12_lit_1 (93, (.goto 4, 3)) (List.mem_of_getElem? (i := 9) rfl)
theorem dX12_lit_96 : decode cX12_lit 96 = .ok (.iconst 0, 1) := dgX12_lit_1 (96, (.iconst 0, 1)) (List.mem_of_getElem? (i := 10) rfl)
theorem dX12_lit_97 : decode cX12_lit 97 = .ok (.istore 6, 2) := dgX12_lit_1 (97, (.istore 6, 2)) (List.mem_of_getElem? (i := 11) rfl)
theorem dX12_lit_99 : decode cX12_lit 99 = .ok (.iinc 7 1, 3) := dgX12_lit_1 (99, (.iinc 7 1, 3)) (List.mem_of_getElem? (i := 12) rfl)
theorem dX12_lit_102 : decode cX12_lit 102 = .ok (.goto (-38), 3) := dgX12_lit_1 (102, (.goto (-38), 3)) (List.mem_of_getElem? (i := 13) rfl)
theorem dX12_lit_105 : decode cX12_lit 105 = .ok (.iload 4, 2) := dgX12_lit_1 (105, (.iload 4, 2)) (List.mem_of_getElem? (i := 14) rfl)
theorem dX12_lit_107 : decode cX12_lit 107 = .ok (.iload 6, 2) := dgX12_lit_1 (107, (.iload 6, 2)) (List.mem_of_getElem? (i := 15) rfl)
theorem dX12_lit_109 : decode cX12_lit 109 = .ok (.ifCond .eq 18, 3) := dgX12_lit_1 (109, (.ifCond .eq 18, 3)) (List.mem_of_getElem? (i := 16) rfl)
theorem dX12_lit_112 : decode cX12_lit 112 = .ok (.iload_n 3, 1) := dgX12_lit_1 (112, (.iload_n 3, 1)) (List.mem_of_getElem? (i := 17) rfl)
theorem dX12_lit_113 : decode cX12_lit 113 = .ok (.iconst (-1), 1) := dgX12_lit_1 (113, (.iconst (-1), 1)) (List.mem_of_getElem? (i := 18) rfl)
theorem dX12_lit_114 : decode cX12_lit 114 = .ok (.if_icmp .eq 9, 3) := dgX12_lit_1 (114, (.if_icmp .eq 9, 3)) (List.mem_of_getElem? (i := 19) rfl)
theorem dX12_lit_117 : decode cX12_lit 117 = .ok (.iload_n 3, 1) := dgX12_lit_1 (117, (.iload_n 3, 1)) (List.mem_of_getElem? (i := 20) rfl)
theorem dX12_lit_118 : decode cX12_lit 118 = .ok (.iload 5, 2) := dgX12_lit_1 (118, (.iload 5, 2)) (List.mem_of_getElem? (i := 21) rfl)
theorem dX12_lit_120 : decode cX12_lit 120 = .ok (.if_icmp .ne 7, 3) := dgX12_lit_1 (120, (.if_icmp .ne 7, 3)) (List.mem_of_getElem? (i := 22) rfl)
theorem dX12_lit_123 : decode cX12_lit 123 = .ok (.iconst 1, 1) := dgX12_lit_1 (123, (.iconst 1, 1)) (List.mem_of_getElem? (i := 23) rfl)
theorem dX12_lit_124 : decode cX12_lit 124 = .ok (.goto 4, 3) := dgX12_lit_1 (124, (.goto 4, 3)) (List.mem_of_getElem? (i := 24) rfl)
theorem dX12_lit_127 : decode cX12_lit 127 = .ok (.iconst 0, 1) := dgX12_lit_1 (127, (.iconst 0, 1)) (List.mem_of_getElem? (i := 25) rfl)
theorem dX12_lit_128 : decode cX12_lit 128 = .ok (.iadd, 1) := dgX12_lit_1 (128, (.iadd, 1)) (List.mem_of_getElem? (i := 26) rfl)
theorem dX12_lit_129 : decode cX12_lit 129 = .ok (.istore 4, 2) := dgX12_lit_1 (129, (.istore 4, 2)) (List.mem_of_getElem? (i := 27) rfl)
theorem dX12_lit_131 : decode cX12_lit 131 = .ok (.iinc 5 1, 3) := dgX12_lit_1 (131, (.iinc 5 1, 3)) (List.mem_of_getElem? (i := 28) rfl)
theorem dX12_lit_134 : decode cX12_lit 134 = .ok (.goto (-83), 3) := dgX12_lit_1 (134, (.goto (-83), 3)) (List.mem_of_getElem? (i := 29) rfl)
theorem dX12_lit_137 : decode cX12_lit 137 = .ok (.iload 4, 2) := dgX12_lit_1 (137, (.iload 4, 2)) (List.mem_of_getElem? (i := 30) rfl)
theorem dX12_lit_139 : decode cX12_lit 139 = .ok (.ireturn, 1) := dgX12_lit_1 (139, (.ireturn, 1)) (List.mem_of_getElem? (i := 31) rfl)
theorem ml_X12_413 : Cond.methodLink RX12 413 yX12_clearPoints ∈ tblG := tg 1680 (by decide +kernel) (by decide +kernel)
theorem im_X12_clearPoints : Cond.instanceMethod yX12_clearPoints ∈ tblG := tg 1682 (by decide +kernel) (by decide +kernel)
theorem se_X12_clearPoints : Cond.selects RX12 yX12_clearPoints yX12_clearPoints ∈ tblG := tg 72 (by decide +kernel) (by decide +kernel)
theorem cd_X12_clearPoints : Cond.code yX12_clearPoints cX12_clearPoints 2 none ∈ tblG := tg 1683 (by decide +kernel) (by decide +kernel)
theorem gW_X12_clearPoints : GoodIn tblG (wsG yX12_clearPoints cX12_clearPoints 2 none) := tgi cd_X12_clearPoints
theorem gV_X12_413 : GoodIn tblG (wsV RX12 413 RX12 yX12_clearPoints (wsG yX12_clearPoints cX12_clearPoints 2 none)) := tgV ml_X12_413 im_X12_clearPoints se_X12_clearPoints ini_X12 gW_X12_clearPoints
theorem hv_X12_clearPoints : yX12_clearPoints.cls = RX12 ∧ yX12_clearPoints.cls ≠ "java/lang/invoke/MethodHandle" ∧ yX12_clearPoints.cls ≠ "java/lang/invoke/VarHandle" ∧ (parseMethodDescriptor yX12_clearPoints.desc).map (fun d => d.parameters.length) = some 0 := by decide +kernel
theorem ml_X12_416 : Cond.methodLink RX12 416 yX12_mark ∈ tblG := tg 1684 (by decide +kernel) (by decide +kernel)
theorem im_X12_mark : Cond.instanceMethod yX12_mark ∈ tblG := tg 1686 (by decide +kernel) (by decide +kernel)
theorem se_X12_mark : Cond.selects RX12 yX12_mark yX12_mark ∈ tblG := tg 73 (by decide +kernel) (by decide +kernel)
theorem cd_X12_mark : Cond.code yX12_mark cX12_mark 5 none ∈ tblG := tg 1687 (by decide +kernel) (by decide +kernel)
theorem gW_X12_mark : GoodIn tblG (wsG yX12_mark cX12_mark 5 none) := tgi cd_X12_mark
theorem gV_X12_416 : GoodIn tblG (wsV RX12 416 RX12 yX12_mark (wsG yX12_mark cX12_mark 5 none)) := tgV ml_X12_416 im_X12_mark se_X12_mark ini_X12 gW_X12_mark
theorem hv_X12_mark : yX12_mark.cls = RX12 ∧ yX12_mark.cls ≠ "java/lang/invoke/MethodHandle" ∧ yX12_mark.cls ≠ "java/lang/invoke/VarHandle" ∧ (parseMethodDescriptor yX12_mark.desc).map (fun d => d.parameters.length) = some 2 := by decide +kernel
