set_option maxHeartbeats 4000000 in
set_option maxRecDepth 100000 in
theorem n_backE (l : Launch) (G : g5_G) (b_o b_rf b_ro b_im b_ke b_tp b_nl b_op b_ar b_pi b_pa b_ws b_hw b_se b_re b_pt b_ip b_ah b_be b_me b_tr b_ld b_wn : Nat) (sz : Nat) (u_th : Int32) (u_sa : Int32) (u_fd : Int32) (u_td : Int32) (u_fr : Int32) (u_to : Int32) (u_so : Int32) (u_fa : Int32) (u_bd : Int32) (u_nc : Int32) (u_co : Int32) (u_le : Int32) (u_pd : Int32) (u_od : Int32) (u_la : Int32) (u_bk : Int32) (u_ce : Int32) (u_ho : Int32) (u_wy : Int32) (u_bt : Int32) (u_ps : Int32) (u_tg : Int32) (u_sn : Int32) (u_ic : Int32) (u_wd : Int32) (u_id : Int32) (p_1 : Int32) (u_wo : Int64) (u_va : Int64) (u_su : Int64) (u_st : Int64) (v_rf : Nat → Int32) (v_ro : Nat → Int32) (v_im : Nat → Int32) (v_ke : Nat → Int32) (h_u_td : 0 ≤ u_td.toInt ∧ u_td.toInt ≤ 400) (h_u_fr : 0 ≤ u_fr.toInt ∧ u_fr.toInt ≤ 400) (h_u_to : 0 ≤ u_to.toInt ∧ u_to.toInt ≤ 400) (h_u_bd : 0 ≤ u_bd.toInt ∧ u_bd.toInt ≤ 1) (h_u_nc : 0 ≤ u_nc.toInt ∧ u_nc.toInt ≤ 12) (h_u_co : 0 ≤ u_co.toInt ∧ u_co.toInt ≤ 400) (h_u_pd : 0 ≤ u_pd.toInt ∧ u_pd.toInt ≤ 400) (h_u_la : 0 ≤ u_la.toInt ∧ u_la.toInt ≤ 4840) (h_u_bk : 0 ≤ u_bk.toInt ∧ u_bk.toInt ≤ 1) (h_u_ce : 0 ≤ u_ce.toInt ∧ u_ce.toInt ≤ 63) (h_u_ho : 0 ≤ u_ho.toInt ∧ u_ho.toInt ≤ 23) (h_u_wy : 0 ≤ u_wy.toInt ∧ u_wy.toInt ≤ 3) (h_u_bt : 0 ≤ u_bt.toInt ∧ u_bt.toInt ≤ 1000000) (h_u_ps : 0 ≤ u_ps.toInt ∧ u_ps.toInt ≤ 200) (h_u_ic : 0 ≤ u_ic.toInt ∧ u_ic.toInt ≤ 1) (h_u_id : 0 ≤ u_id.toInt ∧ u_id.toInt ≤ 1) (r_ro : MI v_ro) (r_im : IMI v_im v_ke) : Met l yX12_back (wsG yX12_back cX12_back 3 (some .int)) ({ frames := 1, cells := 0, slots := 0, locals := 25 }) (va_Pc [.ref b_o, .int p_1] (g5_P G [(b_o, (oc12 u_th u_sa b_rf b_ro b_im b_ke u_fd b_tp u_td u_fr u_to u_so u_wo u_fa u_bd u_nc b_nl u_co b_op b_ar u_le b_pi b_pa u_pd u_od b_ws b_hw u_la b_se b_re u_bk u_va u_su u_ce u_ho u_wy u_bt u_ps b_pt u_tg u_sn b_ip u_ic b_ah b_be b_me u_wd b_tr b_ld u_st b_wn u_id)), (b_rf, (arI G 7 v_rf)), (b_ro, (arI G 5740 v_ro)), (b_im, (arI G 11480 v_im)), (b_ke, (arZ G 2 v_ke))] sz)) (va_Qi (fun (r : Int32) (u : va_W) => (∃ (o_r : Int32) (o_th : Int32) (o_sa : Int32) (o_ic : Int32) (o_rf : Nat → Int32) (o_ro : Nat → Int32), (0 ≤ o_ic.toInt ∧ o_ic.toInt ≤ 1) ∧ (MI o_ro) ∧ (o_r = aback v_ke p_1) ∧ (∀ j : Nat, j < 340 → o_ro j = sback v_ro v_im v_ke p_1 j) ∧ (r = o_r) ∧ (u = [(b_o, (oc12 o_th o_sa b_rf b_ro b_im b_ke u_fd b_tp u_td u_fr u_to u_so u_wo u_fa u_bd u_nc b_nl u_co b_op b_ar u_le b_pi b_pa u_pd u_od b_ws b_hw u_la b_se b_re u_bk u_va u_su u_ce u_ho u_wy u_bt u_ps b_pt u_tg u_sn b_ip o_ic b_ah b_be b_me u_wd b_tr b_ld u_st b_wn u_id)), (b_rf, (arI G 7 o_rf)), (b_ro, (arI G 5740 o_ro)), (b_im, (arI G 11480 v_im)), (b_ke, (arZ G 2 v_ke))]))) (g5_B G (va_A [(b_o, (oc12 u_th u_sa b_rf b_ro b_im b_ke u_fd b_tp u_td u_fr u_to u_so u_wo u_fa u_bd u_nc b_nl u_co b_op b_ar u_le b_pi b_pa u_pd u_od b_ws b_hw u_la b_se b_re u_bk u_va u_su u_ce u_ho u_wy u_bt u_ps b_pt u_tg u_sn b_ip u_ic b_ah b_be b_me u_wd b_tr b_ld u_st b_wn u_id)), (b_rf, (arI G 7 v_rf)), (b_ro, (arI G 5740 v_ro)), (b_im, (arI G 11480 v_im)), (b_ke, (arZ G 2 v_ke))] sz)) (va_A [(b_o, (oc12 u_th u_sa b_rf b_ro b_im b_ke u_fd b_tp u_td u_fr u_to u_so u_wo u_fa u_bd u_nc b_nl u_co b_op b_ar u_le b_pi b_pa u_pd u_od b_ws b_hw u_la b_se b_re u_bk u_va u_su u_ce u_ho u_wy u_bt u_ps b_pt u_tg u_sn b_ip u_ic b_ah b_be b_me u_wd b_tr b_ld u_st b_wn u_id)), (b_rf, (arI G 7 v_rf)), (b_ro, (arI G 5740 v_ro)), (b_im, (arI G 11480 v_im)), (b_ke, (arZ G 2 v_ke))] sz)) 0 0 (va_A [(b_o, (oc12 u_th u_sa b_rf b_ro b_im b_ke u_fd b_tp u_td u_fr u_to u_so u_wo u_fa u_bd u_nc b_nl u_co b_op b_ar u_le b_pi b_pa u_pd u_od b_ws b_hw u_la b_se b_re u_bk u_va u_su u_ce u_ho u_wy u_bt u_ps b_pt u_tg u_sn b_ip u_ic b_ah b_be b_me u_wd b_tr b_ld u_st b_wn u_id)), (b_rf, (arI G 7 v_rf)), (b_ro, (arI G 5740 v_ro)), (b_im, (arI G 11480 v_im)), (b_ke, (arZ G 2 v_ke))] sz) := by
  refine Met.ofW (cc := cX12_back) (maxL := 3) (ret := (some .int)) (by decide) rfl ?_
  intro p e s m args below meth c s₁ B hml hv
  obtain ⟨rfl, hsz, hP, hK, hD0, hN, hT⟩ := hv
  have hx := B.exec
  have hb := B.bytes
  have hr := B.returns
  have hts : ∀ w ∈ tblG, w.before _ s = true := fun w h => atoms_spec (ws := (wsG yX12_back cX12_back 3 (some .int))) B.pre w (List.mem_cons_of_mem _ h)
  have hown : s.vm.findClass RX12 = some m.cls := findClass_of_methodNamed B.named
  have hlocks := B.notSynchronized
  subst hsz
  have hD := hD0.self (sz := s.heap.size)
  generalize hAe : va_A [(b_o, (oc12 u_th u_sa b_rf b_ro b_im b_ke u_fd b_tp u_td u_fr u_to u_so u_wo u_fa u_bd u_nc b_nl u_co b_op b_ar u_le b_pi b_pa u_pd u_od b_ws b_hw u_la b_se b_re u_bk u_va u_su u_ce u_ho u_wy u_bt u_ps b_pt u_tg u_sn b_ip u_ic b_ah b_be b_me u_wd b_tr b_ld u_st b_wn u_id)), (b_rf, (arI G 7 v_rf)), (b_ro, (arI G 5740 v_ro)), (b_im, (arI G 11480 v_im)), (b_ke, (arZ G 2 v_ke))] s.heap.size = A at hD hT ⊢
  have hA : ∀ q : Nat, s.heap.size ≤ q → A q := fun q h => by rw [← hAe]; exact Or.inr h
  have hS : va_S A s.heap s.heap [] := va_S.rf
  have hP : va_P G.1 vwCl [(b_o, (oc12 u_th u_sa b_rf b_ro b_im b_ke u_fd b_tp u_td u_fr u_to u_so u_wo u_fa u_bd u_nc b_nl u_co b_op b_ar u_le b_pi b_pa u_pd u_od b_ws b_hw u_la b_se b_re u_bk u_va u_su u_ce u_ho u_wy u_bt u_ps b_pt u_tg u_sn b_ip u_ic b_ah b_be b_me u_wd b_tr b_ld u_st b_wn u_id)), (b_rf, (arI G 7 v_rf)), (b_ro, (arI G 5740 v_ro)), (b_im, (arI G 11480 v_im)), (b_ke, (arZ G 2 v_ke))] s.heap := hP
  have hl := lv_entry ([.ref b_o, .int p_1]) (n := 3) (Nat.le_of_ble_eq_true rfl)
  rw [lg_entry_eq]
  generalize (lg_sl ([.ref b_o, .int p_1]) ++ List.replicate (3 - (lg_sl ([.ref b_o, .int p_1])).length) Slot.unset).toArray = ls at hl ⊢
  have hl : lv_has ls 3 [(0, .ref b_o), (1, .int p_1)] := hl
  refine lv_aload_n hx hb dX12_back_0 rfl (lv_at hl 0 rfl) ?_
  refine lv_iconst (v := 0) hx hb dX12_back_1 (by decide) ?_
  refine va_put (D := G.1) (ci := 12) (v := .int 0) (ty := .int) (C := RX12) (T := TX12) (N := 52) hx hb hts inG_X12 tyX12 tyX12_ok nmX12 hown hK hP hD hS 0 rfl rfl 0 (by decide) (hts _ fl_X12_107) (fun _ h9 => h9) rfl (by decide +kernel) rfl rfl (Nat.le_of_ble_eq_true rfl) dX12_back_2 (fun H locs hP hD hS => ?_)
  refine g5_rs [(b_o, (oc12 0 u_sa b_rf b_ro b_im b_ke u_fd b_tp u_td u_fr u_to u_so u_wo u_fa u_bd u_nc b_nl u_co b_op b_ar u_le b_pi b_pa u_pd u_od b_ws b_hw u_la b_se b_re u_bk u_va u_su u_ce u_ho u_wy u_bt u_ps b_pt u_tg u_sn b_ip u_ic b_ah b_be b_me u_wd b_tr b_ld u_st b_wn u_id)), (b_rf, (arI G 7 v_rf)), (b_ro, (arI G 5740 v_ro)), (b_im, (arI G 11480 v_im)), (b_ke, (arZ G 2 v_ke))] hP hD (fun hP hD => ?_)
  refine lv_iload_n hx hb dX12_back_5 rfl (lv_at hl 1 rfl) ?_
  refine lv_i2l (v := p_1.toInt64) hx hb dX12_back_6 rfl ?_
  refine lv_lconst (v := 0) hx hb dX12_back_7 (by decide) ?_
  refine lv_lconst (v := 1) hx hb dX12_back_8 (by decide) ?_
  obtain ⟨hPc, hDc, hFc⟩ := g5_sub3 (wc := []) hP hD hS hA [] (by decide) rfl
  refine va_calli (va_runS (As := [.long p_1.toInt64, .long 0, .long 1]) (rest := []) ⟨hx, hb, hml, hown, hts⟩ (n_in_0_1 l G H.size p_1) (va_cwS 3 hts gS_X12_121 rfl rfl rfl hs_X12_in ⟨Nat.le_of_ble_eq_true rfl, Nat.le_of_ble_eq_true rfl⟩) (g5_preS hPc hK hDc hN hT hS hFc) rfl rfl hl.1 rfl (lv_room (Nat.le_of_ble_eq_true rfl)) dX12_back_9 ⟨Nat.le_of_ble_eq_true rfl, Nat.le_of_ble_eq_true rfl⟩) hS (fun q _ h => hFc q h) hFc (fun r u t H1 locs ht hvm hw hB hz1 hk1 hS => ?_)
  obtain ⟨hP1, hD1⟩ := hB
  rw [ht] at hP1
  rcases hw with ⟨i_1, rfl, rfl⟩ | ⟨i_2, rfl, rfl⟩
  ·
    have i_1 : p_1.toInt < 0 ∨ 1 < p_1.toInt := i_1
    have hP := g5_same hP hk1
    generalize H1 = H at hP hS ⊢
    refine lv_if_ne (tgt := 21) hx hb dX12_back_12 (by decide) (fun c_3 => ?_) (fun c_3 => ?_)
    ·
      exact absurd c_3 (by decide)
    ·
      refine lv_aload_n hx hb dX12_back_15 rfl (lv_at hl 0 rfl) ?_
      refine lv_iconst (v := (-1)) hx hb dX12_back_16 (by decide) ?_
      obtain ⟨hPc, hDc, hFc⟩ := g5_sub3 (wc := [(b_o, (oc12 0 u_sa b_rf b_ro b_im b_ke u_fd b_tp u_td u_fr u_to u_so u_wo u_fa u_bd u_nc b_nl u_co b_op b_ar u_le b_pi b_pa u_pd u_od b_ws b_hw u_la b_se b_re u_bk u_va u_su u_ce u_ho u_wy u_bt u_ps b_pt u_tg u_sn b_ip u_ic b_ah b_be b_me u_wd b_tr b_ld u_st b_wn u_id)), (b_rf, (arI G 7 v_rf))]) hP hD hS hA [0, 1] (by decide) rfl
      refine va_calli (va_runV (As := [.int (-1)]) (rest := []) ⟨hx, hb, hml, hown, hts⟩ (n_tell1 l G b_o b_rf b_ro b_im b_ke b_tp b_nl b_op b_ar b_pi b_pa b_ws b_hw b_se b_re b_pt b_ip b_ah b_be b_me b_tr b_ld b_wn H.size 0 u_sa u_fd u_td u_fr u_to u_so u_fa u_bd u_nc u_co u_le u_pd u_od u_la u_bk u_ce u_ho u_wy u_bt u_ps u_tg u_sn u_ic u_wd u_id u_wo u_va u_su u_st v_rf h_u_td h_u_fr h_u_to h_u_bd h_u_nc h_u_co h_u_pd h_u_la h_u_bk h_u_ce h_u_ho h_u_wy h_u_bt h_u_ps h_u_ic h_u_id) (cwV 1 hts gV_X12_125 rfl rfl rfl hv_X12_tell ⟨Nat.le_of_ble_eq_true rfl, Nat.le_of_ble_eq_true rfl⟩) (g5_preV hPc hK hDc hN hT hS hFc (ci := 12) (q0 := 0) rfl rfl) rfl rfl hl.1 rfl (lv_room (Nat.le_of_ble_eq_true rfl)) dX12_back_17 ⟨Nat.le_of_ble_eq_true rfl, Nat.le_of_ble_eq_true rfl⟩) hS (fun q _ h => hFc q h) hFc (fun r u t H1 locs ht hvm hw hB hz1 hk1 hS => ?_)
      obtain ⟨hP1, hD1⟩ := hB
      rw [ht] at hP1
      obtain ⟨z5, z6, z7, i_4, rfl, rfl⟩ := hw
      have i_4 : 0 ≤ z6.toInt ∧ z6.toInt ≤ 1 := i_4
      obtain ⟨hP, hD⟩ := va_join (wr := [(b_ro, (arI G 5740 v_ro)), (b_im, (arI G 11480 v_im)), (b_ke, (arZ G 2 v_ke))]) hP hD [0, 1] [2, 3, 4] rfl rfl (by decide) (by decide) hk1 hFc hP1 hD1
      generalize H1 = H at hP hS ⊢
      refine g5_rs [(b_ro, (arI G 5740 v_ro)), (b_im, (arI G 11480 v_im)), (b_ke, (arZ G 2 v_ke)), (b_o, (oc12 0 z5 b_rf b_ro b_im b_ke u_fd b_tp u_td u_fr u_to u_so u_wo u_fa u_bd u_nc b_nl u_co b_op b_ar u_le b_pi b_pa u_pd u_od b_ws b_hw u_la b_se b_re u_bk u_va u_su u_ce u_ho u_wy u_bt u_ps b_pt u_tg u_sn b_ip z6 b_ah b_be b_me u_wd b_tr b_ld u_st b_wn u_id)), (b_rf, (arI G 7 z7))] hP hD (fun hP hD => ?_)
      exact W.iret (v := (-1)) hx hb hr (fun t ht hW => ⟨⟨(-1), [(b_o, (oc12 0 z5 b_rf b_ro b_im b_ke u_fd b_tp u_td u_fr u_to u_so u_wo u_fa u_bd u_nc b_nl u_co b_op b_ar u_le b_pi b_pa u_pd u_od b_ws b_hw u_la b_se b_re u_bk u_va u_su u_ce u_ho u_wy u_bt u_ps b_pt u_tg u_sn b_ip z6 b_ah b_be b_me u_wd b_tr b_ld u_st b_wn u_id)), (b_rf, (arI G 7 z7)), (b_ro, (arI G 5740 v_ro)), (b_im, (arI G 11480 v_im)), (b_ke, (arZ G 2 v_ke))], rfl, ⟨(-1), 0, z5, z6, z7, v_ro, i_4, r_ro, (back_1 (f := v_ro) (im := v_im) (ke := v_ke) (p := p_1) (okM_n (by omega))).1.symm, fun j _ => by rw [(back_1 (f := v_ro) (im := v_im) (ke := v_ke) (p := p_1) (okM_n (by omega))).2], rfl, rfl⟩, by rw [ht]; exact hP.sub [3, 4, 0, 1, 2] rfl, hD.sub [3, 4, 0, 1, 2] (by decide) rfl⟩, hS.F ht⟩) hS.2.2 dX12_back_20
  ·
    have i_2 : 0 ≤ p_1.toInt ∧ p_1.toInt ≤ 1 := i_2
    have hP := g5_same hP hk1
    generalize H1 = H at hP hS ⊢
    refine lv_if_ne (tgt := 21) hx hb dX12_back_12 (by decide) (fun c_8 => ?_) (fun c_8 => ?_)
    ·
      refine lv_aload_n hx hb dX12_back_21 rfl (lv_at hl 0 rfl) ?_
      refine va_get (D := G.1) (ci := 12) (v := .ref b_ke) (C := RX12) (T := TX12) (N := 52) hx hb hts inG_X12 hown hK hP 0 rfl rfl 5 (by decide) (hts _ fl_X12_19) (fun _ h9 => h9) rfl dX12_back_22 ?_
      refine lv_iload_n hx hb dX12_back_25 rfl (lv_at hl 1 rfl) ?_
      refine va_zald hx hb hK hP 4 2 rfl rfl (i := p_1) (vp_in_iff.mpr ⟨by omega, by omega⟩) dX12_back_26 ?_
      refine lv_if_ne (tgt := 37) hx hb dX12_back_27 (by decide) (fun c_9 => ?_) (fun c_9 => ?_)
      ·
        have n_9 : gNe ((v_ke p_1.toNatClampNeg).toInt) (0) := by have z := g5_ne (a := (v_ke p_1.toNatClampNeg).toInt) (b := 0) (by rfl) (by decide) c_9; unfold gNe; omega
        refine lv_iconst (v := 0) hx hb dX12_back_37 (by decide) ?_
        refine lv_istore_n (lv' := [(2, .int 0), (0, .ref b_o), (1, .int p_1)]) hx hb dX12_back_38 rfl hl (by decide) rfl (fun ls hl => ?_)
        refine g5_loop (α := (Int32) × (Nat → Int32)) (fun (q : (Int32) × (Nat → Int32)) (ls : Array Slot) (H : Heap) (locs : List Loc) => match q with | (k39_2, k39_ro) => lv_has ls 3 [(2, .int k39_2), (0, .ref b_o), (1, .int p_1)] ∧ va_P G.1 vwCl [(b_o, (oc12 0 u_sa b_rf b_ro b_im b_ke u_fd b_tp u_td u_fr u_to u_so u_wo u_fa u_bd u_nc b_nl u_co b_op b_ar u_le b_pi b_pa u_pd u_od b_ws b_hw u_la b_se b_re u_bk u_va u_su u_ce u_ho u_wy u_bt u_ps b_pt u_tg u_sn b_ip u_ic b_ah b_be b_me u_wd b_tr b_ld u_st b_wn u_id)), (b_rf, (arI G 7 v_rf)), (b_ro, (arI G 5740 k39_ro)), (b_im, (arI G 11480 v_im)), (b_ke, (arZ G 2 v_ke))] H ∧ va_D A [(b_o, (oc12 0 u_sa b_rf b_ro b_im b_ke u_fd b_tp u_td u_fr u_to u_so u_wo u_fa u_bd u_nc b_nl u_co b_op b_ar u_le b_pi b_pa u_pd u_od b_ws b_hw u_la b_se b_re u_bk u_va u_su u_ce u_ho u_wy u_bt u_ps b_pt u_tg u_sn b_ip u_ic b_ah b_be b_me u_wd b_tr b_ld u_st b_wn u_id)), (b_rf, (arI G 7 v_rf)), (b_ro, (arI G 5740 k39_ro)), (b_im, (arI G 11480 v_im)), (b_ke, (arZ G 2 v_ke))] ∧ va_S A s.heap H locs ∧ (0 ≤ k39_2.toInt ∧ k39_2.toInt ≤ 5740) ∧ (∀ j : Nat, (j : Int) < k39_2.toInt → k39_ro j = v_im (5740 * p_1.toInt.toNat + j))) (fun (q : (Int32) × (Nat → Int32)) => match q with | (k39_2, k39_ro) => Int.toNat (5740 - k39_2.toInt)) (0, v_ro) ⟨lv_sub hl [0, 1, 2] rfl, hP, hD, hS, ⟨by decide, by decide⟩, fun j h => absurd h (by have z : (0 : Int32).toInt = 0 := (by decide); omega)⟩ ?_
        rintro ⟨k39_2, k39_ro⟩ ls H locs ⟨hl, hP, hD, hS, i_10, i_11⟩ ih_39_12
        have hl : lv_has ls 3 [(2, .int k39_2), (0, .ref b_o), (1, .int p_1)] := hl
        have i_10 : 0 ≤ k39_2.toInt ∧ k39_2.toInt ≤ 5740 := i_10
        have i_11 : ∀ j : Nat, (j : Int) < k39_2.toInt → k39_ro j = v_im (5740 * p_1.toInt.toNat + j) := i_11
        refine g5_rs [(b_o, (oc12 0 u_sa b_rf b_ro b_im b_ke u_fd b_tp u_td u_fr u_to u_so u_wo u_fa u_bd u_nc b_nl u_co b_op b_ar u_le b_pi b_pa u_pd u_od b_ws b_hw u_la b_se b_re u_bk u_va u_su u_ce u_ho u_wy u_bt u_ps b_pt u_tg u_sn b_ip u_ic b_ah b_be b_me u_wd b_tr b_ld u_st b_wn u_id)), (b_rf, (arI G 7 v_rf)), (b_ro, (arI G 5740 k39_ro)), (b_im, (arI G 11480 v_im)), (b_ke, (arZ G 2 v_ke))] hP hD (fun hP hD => ?_)
        refine lv_iload_n hx hb dX12_back_39 rfl (lv_at hl 0 rfl) ?_
        refine lv_sipush (v := 5740) hx hb dX12_back_40 (by decide) ?_
        refine lv_icmp_ge (tgt := 70) hx hb dX12_back_43 (by decide) (fun c_13 => ?_) (fun c_13 => ?_)
        ·
          have i_13 : k39_2.toInt ≥ 5740 := by have z := g5_ge (a := k39_2.toInt) (b := 5740) (by rfl) (by decide) c_13; omega
          refine lv_aload_n hx hb dX12_back_70 rfl (lv_at hl 1 rfl) ?_
          refine lv_iconst (v := 0) hx hb dX12_back_71 (by decide) ?_
          obtain ⟨hPc, hDc, hFc⟩ := g5_sub3 (wc := [(b_o, (oc12 0 u_sa b_rf b_ro b_im b_ke u_fd b_tp u_td u_fr u_to u_so u_wo u_fa u_bd u_nc b_nl u_co b_op b_ar u_le b_pi b_pa u_pd u_od b_ws b_hw u_la b_se b_re u_bk u_va u_su u_ce u_ho u_wy u_bt u_ps b_pt u_tg u_sn b_ip u_ic b_ah b_be b_me u_wd b_tr b_ld u_st b_wn u_id)), (b_rf, (arI G 7 v_rf))]) hP hD hS hA [0, 1] (by decide) rfl
          refine va_calli (va_runV (As := [.int 0]) (rest := []) ⟨hx, hb, hml, hown, hts⟩ (n_tell l G b_o b_rf b_ro b_im b_ke b_tp b_nl b_op b_ar b_pi b_pa b_ws b_hw b_se b_re b_pt b_ip b_ah b_be b_me b_tr b_ld b_wn H.size 0 u_sa u_fd u_td u_fr u_to u_so u_fa u_bd u_nc u_co u_le u_pd u_od u_la u_bk u_ce u_ho u_wy u_bt u_ps u_tg u_sn u_ic u_wd u_id 0 u_wo u_va u_su u_st v_rf h_u_td h_u_fr h_u_to h_u_bd h_u_nc h_u_co h_u_pd h_u_la h_u_bk h_u_ce h_u_ho h_u_wy h_u_bt h_u_ps h_u_ic h_u_id ⟨by decide, by decide⟩) (cwV 1 hts gV_X12_125 rfl rfl rfl hv_X12_tell ⟨Nat.le_of_ble_eq_true rfl, Nat.le_of_ble_eq_true rfl⟩) (g5_preV hPc hK hDc hN hT hS hFc (ci := 12) (q0 := 0) rfl rfl) rfl rfl hl.1 rfl (lv_room (Nat.le_of_ble_eq_true rfl)) dX12_back_72 ⟨Nat.le_of_ble_eq_true rfl, Nat.le_of_ble_eq_true rfl⟩) hS (fun q _ h => hFc q h) hFc (fun r u t H1 locs ht hvm hw hB hz1 hk1 hS => ?_)
          obtain ⟨hP1, hD1⟩ := hB
          rw [ht] at hP1
          obtain ⟨z15, z16, z17, i_14, rfl, rfl⟩ := hw
          have i_14 : 0 ≤ z16.toInt ∧ z16.toInt ≤ 1 := i_14
          obtain ⟨hP, hD⟩ := va_join (wr := [(b_ro, (arI G 5740 k39_ro)), (b_im, (arI G 11480 v_im)), (b_ke, (arZ G 2 v_ke))]) hP hD [0, 1] [2, 3, 4] rfl rfl (by decide) (by decide) hk1 hFc hP1 hD1
          generalize H1 = H at hP hS ⊢
          refine g5_rs [(b_ro, (arI G 5740 k39_ro)), (b_im, (arI G 11480 v_im)), (b_ke, (arZ G 2 v_ke)), (b_o, (oc12 0 z15 b_rf b_ro b_im b_ke u_fd b_tp u_td u_fr u_to u_so u_wo u_fa u_bd u_nc b_nl u_co b_op b_ar u_le b_pi b_pa u_pd u_od b_ws b_hw u_la b_se b_re u_bk u_va u_su u_ce u_ho u_wy u_bt u_ps b_pt u_tg u_sn b_ip z16 b_ah b_be b_me u_wd b_tr b_ld u_st b_wn u_id)), (b_rf, (arI G 7 z17))] hP hD (fun hP hD => ?_)
          exact W.iret (v := 0) hx hb hr (fun t ht hW => ⟨⟨0, [(b_o, (oc12 0 z15 b_rf b_ro b_im b_ke u_fd b_tp u_td u_fr u_to u_so u_wo u_fa u_bd u_nc b_nl u_co b_op b_ar u_le b_pi b_pa u_pd u_od b_ws b_hw u_la b_se b_re u_bk u_va u_su u_ce u_ho u_wy u_bt u_ps b_pt u_tg u_sn b_ip z16 b_ah b_be b_me u_wd b_tr b_ld u_st b_wn u_id)), (b_rf, (arI G 7 z17)), (b_ro, (arI G 5740 k39_ro)), (b_im, (arI G 11480 v_im)), (b_ke, (arZ G 2 v_ke))], rfl, ⟨0, 0, z15, z16, z17, k39_ro, i_14, im_back r_im (by omega) n_9 i_11 (by omega), (back_0 (f := v_ro) (im := v_im) (ke := v_ke) (p := p_1) ⟨by omega, by omega⟩ (by have zz := g5_clamp p_1; rw [← zz]; exact n_9)).1.symm, fun j hj => by rw [(back_0 (f := v_ro) (im := v_im) (ke := v_ke) (p := p_1) ⟨by omega, by omega⟩ (by have zz := g5_clamp p_1; rw [← zz]; exact n_9)).2]; exact i_11 j (by omega), rfl, rfl⟩, by rw [ht]; exact hP.sub [3, 4, 0, 1, 2] rfl, hD.sub [3, 4, 0, 1, 2] (by decide) rfl⟩, hS.F ht⟩) hS.2.2 dX12_back_75
        ·
          have i_13 : k39_2.toInt < 5740 := by have z := g5_geN (a := k39_2.toInt) (b := 5740) (by rfl) (by decide) c_13; omega
          refine lv_aload_n hx hb dX12_back_46 rfl (lv_at hl 1 rfl) ?_
          refine va_get (D := G.1) (ci := 12) (v := .ref b_ro) (C := RX12) (T := TX12) (N := 52) hx hb hts inG_X12 hown hK hP 0 rfl rfl 3 (by decide) (hts _ fl_X12_13) (fun _ h9 => h9) rfl dX12_back_47 ?_
          refine lv_iload_n hx hb dX12_back_50 rfl (lv_at hl 0 rfl) ?_
          refine lv_aload_n hx hb dX12_back_51 rfl (lv_at hl 1 rfl) ?_
          refine va_get (D := G.1) (ci := 12) (v := .ref b_im) (C := RX12) (T := TX12) (N := 52) hx hb hts inG_X12 hown hK hP 0 rfl rfl 4 (by decide) (hts _ fl_X12_16) (fun _ h9 => h9) rfl dX12_back_52 ?_
          refine lv_sipush (v := 5740) hx hb dX12_back_55 (by decide) ?_
          refine lv_iload_n hx hb dX12_back_58 rfl (lv_at hl 2 rfl) ?_
          refine lv_imul hx hb dX12_back_59 ?_
          have t_18 : (5740 * p_1).toInt = 5740 * p_1.toInt := g5_imul (a := 5740) (b := p_1.toInt) (by decide) (by rfl) (by omega) (by omega)
          refine lv_iload_n hx hb dX12_back_60 rfl (lv_at hl 0 rfl) ?_
          refine lv_iadd hx hb dX12_back_61 ?_
          have t_19 : ((5740 * p_1) + k39_2).toInt = (5740 * p_1).toInt + k39_2.toInt := g5_iadd (a := (5740 * p_1).toInt) (b := k39_2.toInt) (by rfl) (by rfl) (by omega) (by omega)
          refine va_iald hx hb hK hP 3 0 rfl rfl (i := ((5740 * p_1) + k39_2)) (vp_in_iff.mpr ⟨by omega, by omega⟩) dX12_back_62 ?_
          refine va_iast hx hb hK hP hD hS 2 0 rfl rfl (i := k39_2) (x := (v_im ((5740 * p_1) + k39_2).toNatClampNeg)) (vp_in_iff.mpr ⟨by omega, by omega⟩) dX12_back_63 (fun H locs hP hD hS => ?_)
          refine g5_rs [(b_o, (oc12 0 u_sa b_rf b_ro b_im b_ke u_fd b_tp u_td u_fr u_to u_so u_wo u_fa u_bd u_nc b_nl u_co b_op b_ar u_le b_pi b_pa u_pd u_od b_ws b_hw u_la b_se b_re u_bk u_va u_su u_ce u_ho u_wy u_bt u_ps b_pt u_tg u_sn b_ip u_ic b_ah b_be b_me u_wd b_tr b_ld u_st b_wn u_id)), (b_rf, (arI G 7 v_rf)), (b_ro, (arI G 5740 (upd k39_ro k39_2.toNatClampNeg (v_im ((5740 * p_1) + k39_2).toNatClampNeg)))), (b_im, (arI G 11480 v_im)), (b_ke, (arZ G 2 v_ke))] hP hD (fun hP hD => ?_)
          refine lv_iinc (v := (k39_2 + 1)) (lv' := [(2, .int (k39_2 + 1)), (0, .ref b_o), (1, .int p_1)]) hx hb dX12_back_64 hl (k := 0) rfl rfl (by decide) rfl (fun ls hl => ?_)
          have t_20 : (k39_2 + 1).toInt = k39_2.toInt + 1 := g5_iadd (a := k39_2.toInt) (b := 1) rfl (by decide) (by omega) (by omega)
          refine lv_goto (tgt := 39) hx hb dX12_back_67 (by decide) ?_
          exact ih_39_12 ((k39_2 + 1), (upd k39_ro k39_2.toNatClampNeg (v_im ((5740 * p_1) + k39_2).toNatClampNeg))) ls H locs (show Int.toNat (5740 - (k39_2 + 1).toInt) < Int.toNat (5740 - k39_2.toInt) from g_up (show k39_2.toInt < (k39_2 + 1).toInt by omega) (show k39_2.toInt < 5740 by omega)) ⟨lv_sub hl [0, 1, 2] rfl, hP, hD, hS, ⟨by omega, by omega⟩, ba_step i_11 (by omega) (by omega) (by omega) (by omega)⟩
      ·
        have i_9 : (v_ke p_1.toNatClampNeg).toInt = 0 := by have z := g5_neN (a := (v_ke p_1.toNatClampNeg).toInt) (b := 0) (by rfl) (by decide) c_9; omega
        refine lv_aload_n hx hb dX12_back_30 rfl (lv_at hl 0 rfl) ?_
        refine lv_bipush (v := (-2)) hx hb dX12_back_31 (by decide) ?_
        obtain ⟨hPc, hDc, hFc⟩ := g5_sub3 (wc := [(b_o, (oc12 0 u_sa b_rf b_ro b_im b_ke u_fd b_tp u_td u_fr u_to u_so u_wo u_fa u_bd u_nc b_nl u_co b_op b_ar u_le b_pi b_pa u_pd u_od b_ws b_hw u_la b_se b_re u_bk u_va u_su u_ce u_ho u_wy u_bt u_ps b_pt u_tg u_sn b_ip u_ic b_ah b_be b_me u_wd b_tr b_ld u_st b_wn u_id)), (b_rf, (arI G 7 v_rf))]) hP hD hS hA [0, 1] (by decide) rfl
        refine va_calli (va_runV (As := [.int (-2)]) (rest := []) ⟨hx, hb, hml, hown, hts⟩ (n_tell2 l G b_o b_rf b_ro b_im b_ke b_tp b_nl b_op b_ar b_pi b_pa b_ws b_hw b_se b_re b_pt b_ip b_ah b_be b_me b_tr b_ld b_wn H.size 0 u_sa u_fd u_td u_fr u_to u_so u_fa u_bd u_nc u_co u_le u_pd u_od u_la u_bk u_ce u_ho u_wy u_bt u_ps u_tg u_sn u_ic u_wd u_id u_wo u_va u_su u_st v_rf h_u_td h_u_fr h_u_to h_u_bd h_u_nc h_u_co h_u_pd h_u_la h_u_bk h_u_ce h_u_ho h_u_wy h_u_bt h_u_ps h_u_ic h_u_id) (cwV 1 hts gV_X12_125 rfl rfl rfl hv_X12_tell ⟨Nat.le_of_ble_eq_true rfl, Nat.le_of_ble_eq_true rfl⟩) (g5_preV hPc hK hDc hN hT hS hFc (ci := 12) (q0 := 0) rfl rfl) rfl rfl hl.1 rfl (lv_room (Nat.le_of_ble_eq_true rfl)) dX12_back_33 ⟨Nat.le_of_ble_eq_true rfl, Nat.le_of_ble_eq_true rfl⟩) hS (fun q _ h => hFc q h) hFc (fun r u t H1 locs ht hvm hw hB hz1 hk1 hS => ?_)
        obtain ⟨hP1, hD1⟩ := hB
        rw [ht] at hP1
        obtain ⟨z22, z23, z24, i_21, rfl, rfl⟩ := hw
        have i_21 : 0 ≤ z23.toInt ∧ z23.toInt ≤ 1 := i_21
        obtain ⟨hP, hD⟩ := va_join (wr := [(b_ro, (arI G 5740 v_ro)), (b_im, (arI G 11480 v_im)), (b_ke, (arZ G 2 v_ke))]) hP hD [0, 1] [2, 3, 4] rfl rfl (by decide) (by decide) hk1 hFc hP1 hD1
        generalize H1 = H at hP hS ⊢
        refine g5_rs [(b_ro, (arI G 5740 v_ro)), (b_im, (arI G 11480 v_im)), (b_ke, (arZ G 2 v_ke)), (b_o, (oc12 0 z22 b_rf b_ro b_im b_ke u_fd b_tp u_td u_fr u_to u_so u_wo u_fa u_bd u_nc b_nl u_co b_op b_ar u_le b_pi b_pa u_pd u_od b_ws b_hw u_la b_se b_re u_bk u_va u_su u_ce u_ho u_wy u_bt u_ps b_pt u_tg u_sn b_ip z23 b_ah b_be b_me u_wd b_tr b_ld u_st b_wn u_id)), (b_rf, (arI G 7 z24))] hP hD (fun hP hD => ?_)
        exact W.iret (v := (-2)) hx hb hr (fun t ht hW => ⟨⟨(-2), [(b_o, (oc12 0 z22 b_rf b_ro b_im b_ke u_fd b_tp u_td u_fr u_to u_so u_wo u_fa u_bd u_nc b_nl u_co b_op b_ar u_le b_pi b_pa u_pd u_od b_ws b_hw u_la b_se b_re u_bk u_va u_su u_ce u_ho u_wy u_bt u_ps b_pt u_tg u_sn b_ip z23 b_ah b_be b_me u_wd b_tr b_ld u_st b_wn u_id)), (b_rf, (arI G 7 z24)), (b_ro, (arI G 5740 v_ro)), (b_im, (arI G 11480 v_im)), (b_ke, (arZ G 2 v_ke))], rfl, ⟨(-2), 0, z22, z23, z24, v_ro, i_21, r_ro, (back_2 (f := v_ro) (im := v_im) (ke := v_ke) (p := p_1) ⟨by omega, by omega⟩ (by have zz := g5_clamp p_1; rw [← zz]; exact (by omega))).1.symm, fun j _ => by rw [(back_2 (f := v_ro) (im := v_im) (ke := v_ke) (p := p_1) ⟨by omega, by omega⟩ (by have zz := g5_clamp p_1; rw [← zz]; exact (by omega))).2], rfl, rfl⟩, by rw [ht]; exact hP.sub [3, 4, 0, 1, 2] rfl, hD.sub [3, 4, 0, 1, 2] (by decide) rfl⟩, hS.F ht⟩) hS.2.2 dX12_back_36
    ·
      exact absurd c_8 (by decide)
set_option maxHeartbeats 4000000 in
set_option maxRecDepth 100000 in
theorem n_forceE (l : Launch) (G : g5_G) (b_o b_rf b_ro b_im b_ke b_tp b_nl b_op b_ar b_pi b_pa b_ws b_hw b_se b_re b_pt b_ip b_ah b_be b_me b_tr b_ld b_wn : Nat) (sz : Nat) (u_th : Int32) (u_sa : Int32) (u_fd : Int32) (u_td : Int32) (u_fr : Int32) (u_to : Int32) (u_so : Int32) (u_fa : Int32) (u_bd : Int32) (u_nc : Int32) (u_co : Int32) (u_le : Int32) (u_pd : Int32) (u_od : Int32) (u_la : Int32) (u_bk : Int32) (u_ce : Int32) (u_ho : Int32) (u_wy : Int32) (u_bt : Int32) (u_ps : Int32) (u_tg : Int32) (u_sn : Int32) (u_ic : Int32) (u_wd : Int32) (u_id : Int32) (p_1 : Int32) (u_wo : Int64) (u_va : Int64) (u_su : Int64) (u_st : Int64) (v_rf : Nat → Int32) (v_ro : Nat → Int32) (h_u_td : 0 ≤ u_td.toInt ∧ u_td.toInt ≤ 400) (h_u_fr : 0 ≤ u_fr.toInt ∧ u_fr.toInt ≤ 400) (h_u_to : 0 ≤ u_to.toInt ∧ u_to.toInt ≤ 400) (h_u_bd : 0 ≤ u_bd.toInt ∧ u_bd.toInt ≤ 1) (h_u_nc : 0 ≤ u_nc.toInt ∧ u_nc.toInt ≤ 12) (h_u_co : 0 ≤ u_co.toInt ∧ u_co.toInt ≤ 400) (h_u_pd : 0 ≤ u_pd.toInt ∧ u_pd.toInt ≤ 400) (h_u_la : 0 ≤ u_la.toInt ∧ u_la.toInt ≤ 4840) (h_u_bk : 0 ≤ u_bk.toInt ∧ u_bk.toInt ≤ 1) (h_u_ce : 0 ≤ u_ce.toInt ∧ u_ce.toInt ≤ 63) (h_u_ho : 0 ≤ u_ho.toInt ∧ u_ho.toInt ≤ 23) (h_u_wy : 0 ≤ u_wy.toInt ∧ u_wy.toInt ≤ 3) (h_u_bt : 0 ≤ u_bt.toInt ∧ u_bt.toInt ≤ 1000000) (h_u_ps : 0 ≤ u_ps.toInt ∧ u_ps.toInt ≤ 200) (h_u_ic : 0 ≤ u_ic.toInt ∧ u_ic.toInt ≤ 1) (h_u_id : 0 ≤ u_id.toInt ∧ u_id.toInt ≤ 1) (r_ro : MI v_ro) : Met l yX12_force (wsG yX12_force cX12_force 2 (some .int)) ({ frames := 2, cells := 0, slots := 0, locals := 44 }) (va_Pc [.ref b_o, .int p_1] (g5_P G [(b_o, (oc12 u_th u_sa b_rf b_ro b_im b_ke u_fd b_tp u_td u_fr u_to u_so u_wo u_fa u_bd u_nc b_nl u_co b_op b_ar u_le b_pi b_pa u_pd u_od b_ws b_hw u_la b_se b_re u_bk u_va u_su u_ce u_ho u_wy u_bt u_ps b_pt u_tg u_sn b_ip u_ic b_ah b_be b_me u_wd b_tr b_ld u_st b_wn u_id)), (b_rf, (arI G 7 v_rf)), (b_ro, (arI G 5740 v_ro))] sz)) (va_Qi (fun (r : Int32) (u : va_W) => (∃ (o_r : Int32) (o_th : Int32) (o_sa : Int32) (o_ic : Int32) (o_rf : Nat → Int32) (o_ro : Nat → Int32), (MI o_ro) ∧ (0 ≤ o_ic.toInt ∧ o_ic.toInt ≤ 1) ∧ (∀ j : Nat, j ≠ 3 → o_ro j = v_ro j) ∧ (r = o_r) ∧ (u = [(b_o, (oc12 o_th o_sa b_rf b_ro b_im b_ke u_fd b_tp u_td u_fr u_to u_so u_wo u_fa u_bd u_nc b_nl u_co b_op b_ar u_le b_pi b_pa u_pd u_od b_ws b_hw u_la b_se b_re u_bk u_va u_su u_ce u_ho u_wy u_bt u_ps b_pt u_tg u_sn b_ip o_ic b_ah b_be b_me u_wd b_tr b_ld u_st b_wn u_id)), (b_rf, (arI G 7 o_rf)), (b_ro, (arI G 5740 o_ro))]))) (g5_B G (va_A [(b_o, (oc12 u_th u_sa b_rf b_ro b_im b_ke u_fd b_tp u_td u_fr u_to u_so u_wo u_fa u_bd u_nc b_nl u_co b_op b_ar u_le b_pi b_pa u_pd u_od b_ws b_hw u_la b_se b_re u_bk u_va u_su u_ce u_ho u_wy u_bt u_ps b_pt u_tg u_sn b_ip u_ic b_ah b_be b_me u_wd b_tr b_ld u_st b_wn u_id)), (b_rf, (arI G 7 v_rf)), (b_ro, (arI G 5740 v_ro))] sz)) (va_A [(b_o, (oc12 u_th u_sa b_rf b_ro b_im b_ke u_fd b_tp u_td u_fr u_to u_so u_wo u_fa u_bd u_nc b_nl u_co b_op b_ar u_le b_pi b_pa u_pd u_od b_ws b_hw u_la b_se b_re u_bk u_va u_su u_ce u_ho u_wy u_bt u_ps b_pt u_tg u_sn b_ip u_ic b_ah b_be b_me u_wd b_tr b_ld u_st b_wn u_id)), (b_rf, (arI G 7 v_rf)), (b_ro, (arI G 5740 v_ro))] sz)) 0 0 (va_A [(b_o, (oc12 u_th u_sa b_rf b_ro b_im b_ke u_fd b_tp u_td u_fr u_to u_so u_wo u_fa u_bd u_nc b_nl u_co b_op b_ar u_le b_pi b_pa u_pd u_od b_ws b_hw u_la b_se b_re u_bk u_va u_su u_ce u_ho u_wy u_bt u_ps b_pt u_tg u_sn b_ip u_ic b_ah b_be b_me u_wd b_tr b_ld u_st b_wn u_id)), (b_rf, (arI G 7 v_rf)), (b_ro, (arI G 5740 v_ro))] sz) := by
  refine Met.ofW (cc := cX12_force) (maxL := 2) (ret := (some .int)) (by decide) rfl ?_
  intro p e s m args below meth c s₁ B hml hv
  obtain ⟨rfl, hsz, hP, hK, hD0, hN, hT⟩ := hv
  have hx := B.exec
  have hb := B.bytes
  have hr := B.returns
  have hts : ∀ w ∈ tblG, w.before _ s = true := fun w h => atoms_spec (ws := (wsG yX12_force cX12_force 2 (some .int))) B.pre w (List.mem_cons_of_mem _ h)
  have hown : s.vm.findClass RX12 = some m.cls := findClass_of_methodNamed B.named
  have hlocks := B.notSynchronized
  subst hsz
  have hD := hD0.self (sz := s.heap.size)
  generalize hAe : va_A [(b_o, (oc12 u_th u_sa b_rf b_ro b_im b_ke u_fd b_tp u_td u_fr u_to u_so u_wo u_fa u_bd u_nc b_nl u_co b_op b_ar u_le b_pi b_pa u_pd u_od b_ws b_hw u_la b_se b_re u_bk u_va u_su u_ce u_ho u_wy u_bt u_ps b_pt u_tg u_sn b_ip u_ic b_ah b_be b_me u_wd b_tr b_ld u_st b_wn u_id)), (b_rf, (arI G 7 v_rf)), (b_ro, (arI G 5740 v_ro))] s.heap.size = A at hD hT ⊢
  have hA : ∀ q : Nat, s.heap.size ≤ q → A q := fun q h => by rw [← hAe]; exact Or.inr h
  have hS : va_S A s.heap s.heap [] := va_S.rf
  have hP : va_P G.1 vwCl [(b_o, (oc12 u_th u_sa b_rf b_ro b_im b_ke u_fd b_tp u_td u_fr u_to u_so u_wo u_fa u_bd u_nc b_nl u_co b_op b_ar u_le b_pi b_pa u_pd u_od b_ws b_hw u_la b_se b_re u_bk u_va u_su u_ce u_ho u_wy u_bt u_ps b_pt u_tg u_sn b_ip u_ic b_ah b_be b_me u_wd b_tr b_ld u_st b_wn u_id)), (b_rf, (arI G 7 v_rf)), (b_ro, (arI G 5740 v_ro))] s.heap := hP
  have hl := lv_entry ([.ref b_o, .int p_1]) (n := 2) (Nat.le_of_ble_eq_true rfl)
  rw [lg_entry_eq]
  generalize (lg_sl ([.ref b_o, .int p_1]) ++ List.replicate (2 - (lg_sl ([.ref b_o, .int p_1])).length) Slot.unset).toArray = ls at hl ⊢
  have hl : lv_has ls 2 [(0, .ref b_o), (1, .int p_1)] := hl
  refine lv_aload_n hx hb dX12_force_0 rfl (lv_at hl 0 rfl) ?_
  refine lv_iconst (v := 0) hx hb dX12_force_1 (by decide) ?_
  refine va_put (D := G.1) (ci := 12) (v := .int 0) (ty := .int) (C := RX12) (T := TX12) (N := 52) hx hb hts inG_X12 tyX12 tyX12_ok nmX12 hown hK hP hD hS 0 rfl rfl 0 (by decide) (hts _ fl_X12_107) (fun _ h9 => h9) rfl (by decide +kernel) rfl rfl (Nat.le_of_ble_eq_true rfl) dX12_force_2 (fun H locs hP hD hS => ?_)
  refine g5_rs [(b_o, (oc12 0 u_sa b_rf b_ro b_im b_ke u_fd b_tp u_td u_fr u_to u_so u_wo u_fa u_bd u_nc b_nl u_co b_op b_ar u_le b_pi b_pa u_pd u_od b_ws b_hw u_la b_se b_re u_bk u_va u_su u_ce u_ho u_wy u_bt u_ps b_pt u_tg u_sn b_ip u_ic b_ah b_be b_me u_wd b_tr b_ld u_st b_wn u_id)), (b_rf, (arI G 7 v_rf)), (b_ro, (arI G 5740 v_ro))] hP hD (fun hP hD => ?_)
  refine lv_iload_n hx hb dX12_force_5 rfl (lv_at hl 1 rfl) ?_
  refine lv_iconst (v := (-1)) hx hb dX12_force_6 (by decide) ?_
  refine lv_icmp_eq (tgt := 28) hx hb dX12_force_7 (by decide) (fun c_1 => ?_) (fun c_1 => ?_)
  ·
    have i_1 : p_1.toInt = (-1) := by have z := g5_eq (a := p_1.toInt) (b := (-1)) (by rfl) (by decide) c_1; omega
    refine lv_aload_n hx hb dX12_force_28 rfl (lv_at hl 0 rfl) ?_
    refine lv_iconst (v := 3) hx hb dX12_force_29 (by decide) ?_
    refine lv_iload_n hx hb dX12_force_30 rfl (lv_at hl 1 rfl) ?_
    obtain ⟨hPc, hDc, hFc⟩ := g5_sub3 (wc := [(b_o, (oc12 0 u_sa b_rf b_ro b_im b_ke u_fd b_tp u_td u_fr u_to u_so u_wo u_fa u_bd u_nc b_nl u_co b_op b_ar u_le b_pi b_pa u_pd u_od b_ws b_hw u_la b_se b_re u_bk u_va u_su u_ce u_ho u_wy u_bt u_ps b_pt u_tg u_sn b_ip u_ic b_ah b_be b_me u_wd b_tr b_ld u_st b_wn u_id)), (b_ro, (arI G 5740 v_ro))]) hP hD hS hA [0, 2] (by decide) rfl
    refine va_calli (va_runV (As := [.int 3, .int p_1]) (rest := []) ⟨hx, hb, hml, hown, hts⟩ (n_changeE l G b_o b_ro b_rf b_im b_ke b_tp b_nl b_op b_ar b_pi b_pa b_ws b_hw b_se b_re b_pt b_ip b_ah b_be b_me b_tr b_ld b_wn H.size 0 u_sa u_fd u_td u_fr u_to u_so u_fa u_bd u_nc u_co u_le u_pd u_od u_la u_bk u_ce u_ho u_wy u_bt u_ps u_tg u_sn u_ic u_wd u_id 3 p_1 u_wo u_va u_su u_st v_ro h_u_td h_u_fr h_u_to h_u_bd h_u_nc h_u_co h_u_pd h_u_la h_u_bk h_u_ce h_u_ho h_u_wy h_u_bt h_u_ps h_u_ic h_u_id ⟨by decide, by decide⟩ (r_ro) (mi_upd3 r_ro (by omega) (by have z9 := mi_2 r_ro; omega))) (cwV 2 hts gV_X12_151 rfl rfl rfl hv_X12_change ⟨Nat.le_of_ble_eq_true rfl, Nat.le_of_ble_eq_true rfl⟩) (g5_preV hPc hK hDc hN hT hS hFc (ci := 12) (q0 := 0) rfl rfl) rfl rfl hl.1 rfl (lv_room (Nat.le_of_ble_eq_true rfl)) dX12_force_31 ⟨Nat.le_of_ble_eq_true rfl, Nat.le_of_ble_eq_true rfl⟩) hS (fun q _ h => hFc q h) hFc (fun r u t H1 locs ht hvm hw hB hz1 hk1 hS => ?_)
    obtain ⟨hP1, hD1⟩ := hB
    rw [ht] at hP1
    obtain ⟨z6, z7, z8, z9, i_2, i_3, i_4, i_5, y10, rfl⟩ := hw
    have i_2 : MI z9 := i_2
    have i_3 : 0 ≤ z8.toInt ∧ z8.toInt ≤ 1 := i_3
    have i_4 : z9 = upd v_ro (3 : Int32).toNatClampNeg p_1 := i_4
    have i_5 : z6 = v_ro (3 : Int32).toNatClampNeg := i_5
    obtain ⟨hP, hD⟩ := va_join (wr := [(b_rf, (arI G 7 v_rf))]) hP hD [0, 2] [1] rfl rfl (by decide) (by decide) hk1 hFc hP1 hD1
    generalize H1 = H at hP hS ⊢
    refine g5_rs [(b_rf, (arI G 7 v_rf)), (b_o, (oc12 0 z7 b_rf b_ro b_im b_ke u_fd b_tp u_td u_fr u_to u_so u_wo u_fa u_bd u_nc b_nl u_co b_op b_ar u_le b_pi b_pa u_pd u_od b_ws b_hw u_la b_se b_re u_bk u_va u_su u_ce u_ho u_wy u_bt u_ps b_pt u_tg u_sn b_ip z8 b_ah b_be b_me u_wd b_tr b_ld u_st b_wn u_id)), (b_ro, (arI G 5740 z9))] hP hD (fun hP hD => ?_)
    refine g5_ti (v := z6) y10 ?_
    refine lv_goto (tgt := 43) hx hb dX12_force_34 (by decide) ?_
    exact W.iret (v := z6) hx hb hr (fun t ht hW => ⟨⟨z6, [(b_o, (oc12 0 z7 b_rf b_ro b_im b_ke u_fd b_tp u_td u_fr u_to u_so u_wo u_fa u_bd u_nc b_nl u_co b_op b_ar u_le b_pi b_pa u_pd u_od b_ws b_hw u_la b_se b_re u_bk u_va u_su u_ce u_ho u_wy u_bt u_ps b_pt u_tg u_sn b_ip z8 b_ah b_be b_me u_wd b_tr b_ld u_st b_wn u_id)), (b_rf, (arI G 7 v_rf)), (b_ro, (arI G 5740 z9))], rfl, ⟨z6, 0, z7, z8, v_rf, z9, i_2, i_3, fun j hj => by rw [i_4]; exact upd_ne (by have zz : (3 : Int32).toNatClampNeg = 3 := (by decide); omega), rfl, rfl⟩, by rw [ht]; exact hP.sub [1, 0, 2] rfl, hD.sub [1, 0, 2] (by decide) rfl⟩, hS.F ht⟩) hS.2.2 dX12_force_43
  ·
    have n_1 : gNe (p_1.toInt) ((-1)) := by have z := g5_eqN (a := p_1.toInt) (b := (-1)) (by rfl) (by decide) c_1; unfold gNe; omega
    refine lv_iload_n hx hb dX12_force_10 rfl (lv_at hl 1 rfl) ?_
    refine lv_i2l (v := p_1.toInt64) hx hb dX12_force_11 rfl ?_
    refine lv_lconst (v := 0) hx hb dX12_force_12 (by decide) ?_
    refine lv_aload_n hx hb dX12_force_13 rfl (lv_at hl 0 rfl) ?_
    refine va_get (D := G.1) (ci := 12) (v := .ref b_ro) (C := RX12) (T := TX12) (N := 52) hx hb hts inG_X12 hown hK hP 0 rfl rfl 3 (by decide) (hts _ fl_X12_13) (fun _ h9 => h9) rfl dX12_force_14 ?_
    refine lv_iconst (v := 2) hx hb dX12_force_17 (by decide) ?_
    refine va_iald hx hb hK hP 2 0 rfl rfl (i := 2) (by unfold vp_in; decide) dX12_force_18 ?_
    refine g5_ti (v := (v_ro 2)) rfl ?_
    have hr_11 : 0 ≤ (v_ro 2).toInt ∧ (v_ro 2).toInt ≤ 6 := mi_2 r_ro
    refine lv_i2l (v := (v_ro 2).toInt64) hx hb dX12_force_19 rfl ?_
    refine lv_lconst (v := 1) hx hb dX12_force_20 (by decide) ?_
    refine lv_lsub hx hb dX12_force_21 ?_
    obtain ⟨hPc, hDc, hFc⟩ := g5_sub3 (wc := []) hP hD hS hA [] (by decide) rfl
    refine va_calli (va_runS (As := [.long p_1.toInt64, .long 0, .long (((v_ro 2).toInt64) - 1)]) (rest := []) ⟨hx, hb, hml, hown, hts⟩ (n_in_n l G H.size p_1 (v_ro 2) ⟨by omega, by omega⟩) (va_cwS 3 hts gS_X12_121 rfl rfl rfl hs_X12_in ⟨Nat.le_of_ble_eq_true rfl, Nat.le_of_ble_eq_true rfl⟩) (g5_preS hPc hK hDc hN hT hS hFc) rfl rfl hl.1 rfl (lv_room (Nat.le_of_ble_eq_true rfl)) dX12_force_22 ⟨Nat.le_of_ble_eq_true rfl, Nat.le_of_ble_eq_true rfl⟩) hS (fun q _ h => hFc q h) hFc (fun r u t H1 locs ht hvm hw hB hz1 hk1 hS => ?_)
    obtain ⟨hP1, hD1⟩ := hB
    rw [ht] at hP1
    rcases hw with ⟨i_12, rfl, rfl⟩ | ⟨i_13, rfl, rfl⟩
    ·
      have i_12 : p_1.toInt < 0 ∨ (v_ro 2).toInt ≤ p_1.toInt := i_12
      have hP := g5_same hP hk1
      generalize H1 = H at hP hS ⊢
      refine lv_if_eq (tgt := 37) hx hb dX12_force_25 (by decide) (fun c_14 => ?_) (fun c_14 => ?_)
      ·
        refine lv_aload_n hx hb dX12_force_37 rfl (lv_at hl 0 rfl) ?_
        refine lv_bipush (v := (-2)) hx hb dX12_force_38 (by decide) ?_
        obtain ⟨hPc, hDc, hFc⟩ := g5_sub3 (wc := [(b_o, (oc12 0 u_sa b_rf b_ro b_im b_ke u_fd b_tp u_td u_fr u_to u_so u_wo u_fa u_bd u_nc b_nl u_co b_op b_ar u_le b_pi b_pa u_pd u_od b_ws b_hw u_la b_se b_re u_bk u_va u_su u_ce u_ho u_wy u_bt u_ps b_pt u_tg u_sn b_ip u_ic b_ah b_be b_me u_wd b_tr b_ld u_st b_wn u_id)), (b_rf, (arI G 7 v_rf))]) hP hD hS hA [0, 1] (by decide) rfl
        refine va_calli (va_runV (As := [.int (-2)]) (rest := []) ⟨hx, hb, hml, hown, hts⟩ (n_tell2 l G b_o b_rf b_ro b_im b_ke b_tp b_nl b_op b_ar b_pi b_pa b_ws b_hw b_se b_re b_pt b_ip b_ah b_be b_me b_tr b_ld b_wn H.size 0 u_sa u_fd u_td u_fr u_to u_so u_fa u_bd u_nc u_co u_le u_pd u_od u_la u_bk u_ce u_ho u_wy u_bt u_ps u_tg u_sn u_ic u_wd u_id u_wo u_va u_su u_st v_rf h_u_td h_u_fr h_u_to h_u_bd h_u_nc h_u_co h_u_pd h_u_la h_u_bk h_u_ce h_u_ho h_u_wy h_u_bt h_u_ps h_u_ic h_u_id) (cwV 1 hts gV_X12_125 rfl rfl rfl hv_X12_tell ⟨Nat.le_of_ble_eq_true rfl, Nat.le_of_ble_eq_true rfl⟩) (g5_preV hPc hK hDc hN hT hS hFc (ci := 12) (q0 := 0) rfl rfl) rfl rfl hl.1 rfl (lv_room (Nat.le_of_ble_eq_true rfl)) dX12_force_40 ⟨Nat.le_of_ble_eq_true rfl, Nat.le_of_ble_eq_true rfl⟩) hS (fun q _ h => hFc q h) hFc (fun r u t H1 locs ht hvm hw hB hz1 hk1 hS => ?_)
        obtain ⟨hP1, hD1⟩ := hB
        rw [ht] at hP1
        obtain ⟨z16, z17, z18, i_15, rfl, rfl⟩ := hw
        have i_15 : 0 ≤ z17.toInt ∧ z17.toInt ≤ 1 := i_15
        obtain ⟨hP, hD⟩ := va_join (wr := [(b_ro, (arI G 5740 v_ro))]) hP hD [0, 1] [2] rfl rfl (by decide) (by decide) hk1 hFc hP1 hD1
        generalize H1 = H at hP hS ⊢
        refine g5_rs [(b_ro, (arI G 5740 v_ro)), (b_o, (oc12 0 z16 b_rf b_ro b_im b_ke u_fd b_tp u_td u_fr u_to u_so u_wo u_fa u_bd u_nc b_nl u_co b_op b_ar u_le b_pi b_pa u_pd u_od b_ws b_hw u_la b_se b_re u_bk u_va u_su u_ce u_ho u_wy u_bt u_ps b_pt u_tg u_sn b_ip z17 b_ah b_be b_me u_wd b_tr b_ld u_st b_wn u_id)), (b_rf, (arI G 7 z18))] hP hD (fun hP hD => ?_)
        exact W.iret (v := (-2)) hx hb hr (fun t ht hW => ⟨⟨(-2), [(b_o, (oc12 0 z16 b_rf b_ro b_im b_ke u_fd b_tp u_td u_fr u_to u_so u_wo u_fa u_bd u_nc b_nl u_co b_op b_ar u_le b_pi b_pa u_pd u_od b_ws b_hw u_la b_se b_re u_bk u_va u_su u_ce u_ho u_wy u_bt u_ps b_pt u_tg u_sn b_ip z17 b_ah b_be b_me u_wd b_tr b_ld u_st b_wn u_id)), (b_rf, (arI G 7 z18)), (b_ro, (arI G 5740 v_ro))], rfl, ⟨(-2), 0, z16, z17, z18, v_ro, r_ro, i_15, fun _ _ => rfl, rfl, rfl⟩, by rw [ht]; exact hP.sub [1, 2, 0] rfl, hD.sub [1, 2, 0] (by decide) rfl⟩, hS.F ht⟩) hS.2.2 dX12_force_43
      ·
        exact absurd c_14 (by decide)
    ·
      have i_13 : 0 ≤ p_1.toInt ∧ p_1.toInt < (v_ro 2).toInt := i_13
      have hP := g5_same hP hk1
      generalize H1 = H at hP hS ⊢
      refine lv_if_eq (tgt := 37) hx hb dX12_force_25 (by decide) (fun c_19 => ?_) (fun c_19 => ?_)
      ·
        exact absurd c_19 (by decide)
      ·
        refine lv_aload_n hx hb dX12_force_28 rfl (lv_at hl 0 rfl) ?_
        refine lv_iconst (v := 3) hx hb dX12_force_29 (by decide) ?_
        refine lv_iload_n hx hb dX12_force_30 rfl (lv_at hl 1 rfl) ?_
        obtain ⟨hPc, hDc, hFc⟩ := g5_sub3 (wc := [(b_o, (oc12 0 u_sa b_rf b_ro b_im b_ke u_fd b_tp u_td u_fr u_to u_so u_wo u_fa u_bd u_nc b_nl u_co b_op b_ar u_le b_pi b_pa u_pd u_od b_ws b_hw u_la b_se b_re u_bk u_va u_su u_ce u_ho u_wy u_bt u_ps b_pt u_tg u_sn b_ip u_ic b_ah b_be b_me u_wd b_tr b_ld u_st b_wn u_id)), (b_ro, (arI G 5740 v_ro))]) hP hD hS hA [0, 2] (by decide) rfl
        refine va_calli (va_runV (As := [.int 3, .int p_1]) (rest := []) ⟨hx, hb, hml, hown, hts⟩ (n_changeE l G b_o b_ro b_rf b_im b_ke b_tp b_nl b_op b_ar b_pi b_pa b_ws b_hw b_se b_re b_pt b_ip b_ah b_be b_me b_tr b_ld b_wn H.size 0 u_sa u_fd u_td u_fr u_to u_so u_fa u_bd u_nc u_co u_le u_pd u_od u_la u_bk u_ce u_ho u_wy u_bt u_ps u_tg u_sn u_ic u_wd u_id 3 p_1 u_wo u_va u_su u_st v_ro h_u_td h_u_fr h_u_to h_u_bd h_u_nc h_u_co h_u_pd h_u_la h_u_bk h_u_ce h_u_ho h_u_wy h_u_bt h_u_ps h_u_ic h_u_id ⟨by decide, by decide⟩ (r_ro) (mi_upd3 r_ro (by omega) (by have z9 := mi_2 r_ro; omega))) (cwV 2 hts gV_X12_151 rfl rfl rfl hv_X12_change ⟨Nat.le_of_ble_eq_true rfl, Nat.le_of_ble_eq_true rfl⟩) (g5_preV hPc hK hDc hN hT hS hFc (ci := 12) (q0 := 0) rfl rfl) rfl rfl hl.1 rfl (lv_room (Nat.le_of_ble_eq_true rfl)) dX12_force_31 ⟨Nat.le_of_ble_eq_true rfl, Nat.le_of_ble_eq_true rfl⟩) hS (fun q _ h => hFc q h) hFc (fun r u t H1 locs ht hvm hw hB hz1 hk1 hS => ?_)
        obtain ⟨hP1, hD1⟩ := hB
        rw [ht] at hP1
        obtain ⟨z24, z25, z26, z27, i_20, i_21, i_22, i_23, y28, rfl⟩ := hw
        have i_20 : MI z27 := i_20
        have i_21 : 0 ≤ z26.toInt ∧ z26.toInt ≤ 1 := i_21
        have i_22 : z27 = upd v_ro (3 : Int32).toNatClampNeg p_1 := i_22
        have i_23 : z24 = v_ro (3 : Int32).toNatClampNeg := i_23
        obtain ⟨hP, hD⟩ := va_join (wr := [(b_rf, (arI G 7 v_rf))]) hP hD [0, 2] [1] rfl rfl (by decide) (by decide) hk1 hFc hP1 hD1
        generalize H1 = H at hP hS ⊢
        refine g5_rs [(b_rf, (arI G 7 v_rf)), (b_o, (oc12 0 z25 b_rf b_ro b_im b_ke u_fd b_tp u_td u_fr u_to u_so u_wo u_fa u_bd u_nc b_nl u_co b_op b_ar u_le b_pi b_pa u_pd u_od b_ws b_hw u_la b_se b_re u_bk u_va u_su u_ce u_ho u_wy u_bt u_ps b_pt u_tg u_sn b_ip z26 b_ah b_be b_me u_wd b_tr b_ld u_st b_wn u_id)), (b_ro, (arI G 5740 z27))] hP hD (fun hP hD => ?_)
        refine g5_ti (v := z24) y28 ?_
        refine lv_goto (tgt := 43) hx hb dX12_force_34 (by decide) ?_
        exact W.iret (v := z24) hx hb hr (fun t ht hW => ⟨⟨z24, [(b_o, (oc12 0 z25 b_rf b_ro b_im b_ke u_fd b_tp u_td u_fr u_to u_so u_wo u_fa u_bd u_nc b_nl u_co b_op b_ar u_le b_pi b_pa u_pd u_od b_ws b_hw u_la b_se b_re u_bk u_va u_su u_ce u_ho u_wy u_bt u_ps b_pt u_tg u_sn b_ip z26 b_ah b_be b_me u_wd b_tr b_ld u_st b_wn u_id)), (b_rf, (arI G 7 v_rf)), (b_ro, (arI G 5740 z27))], rfl, ⟨z24, 0, z25, z26, v_rf, z27, i_20, i_21, fun j hj => by rw [i_22]; exact upd_ne (by have zz : (3 : Int32).toNatClampNeg = 3 := (by decide); omega), rfl, rfl⟩, by rw [ht]; exact hP.sub [1, 0, 2] rfl, hD.sub [1, 0, 2] (by decide) rfl⟩, hS.F ht⟩) hS.2.2 dX12_force_43
