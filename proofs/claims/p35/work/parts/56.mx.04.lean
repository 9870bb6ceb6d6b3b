set_option maxHeartbeats 4000000 in
set_option maxRecDepth 100000 in
theorem n_leastE (l : Launch) (G : g5_G) (b_o b_rf b_ro b_im b_ke b_tp b_nl b_op b_ar b_pi b_pa b_ws b_hw b_se b_re b_pt b_ip b_ah b_be b_me b_tr b_ld b_wn : Nat) (sz : Nat) (u_th : Int32) (u_sa : Int32) (u_fd : Int32) (u_td : Int32) (u_fr : Int32) (u_to : Int32) (u_so : Int32) (u_fa : Int32) (u_bd : Int32) (u_nc : Int32) (u_co : Int32) (u_le : Int32) (u_pd : Int32) (u_od : Int32) (u_la : Int32) (u_bk : Int32) (u_ce : Int32) (u_ho : Int32) (u_wy : Int32) (u_bt : Int32) (u_ps : Int32) (u_tg : Int32) (u_sn : Int32) (u_ic : Int32) (u_wd : Int32) (u_id : Int32) (p_1 : Int32) (u_wo : Int64) (u_va : Int64) (u_su : Int64) (u_st : Int64) (v_rf : Nat → Int32) (v_ro : Nat → Int32) (h_u_td : 0 ≤ u_td.toInt ∧ u_td.toInt ≤ 400) (h_u_fr : 0 ≤ u_fr.toInt ∧ u_fr.toInt ≤ 400) (h_u_to : 0 ≤ u_to.toInt ∧ u_to.toInt ≤ 400) (h_u_bd : 0 ≤ u_bd.toInt ∧ u_bd.toInt ≤ 1) (h_u_nc : 0 ≤ u_nc.toInt ∧ u_nc.toInt ≤ 12) (h_u_co : 0 ≤ u_co.toInt ∧ u_co.toInt ≤ 400) (h_u_pd : 0 ≤ u_pd.toInt ∧ u_pd.toInt ≤ 400) (h_u_la : 0 ≤ u_la.toInt ∧ u_la.toInt ≤ 4840) (h_u_bk : 0 ≤ u_bk.toInt ∧ u_bk.toInt ≤ 1) (h_u_ce : 0 ≤ u_ce.toInt ∧ u_ce.toInt ≤ 63) (h_u_ho : 0 ≤ u_ho.toInt ∧ u_ho.toInt ≤ 23) (h_u_wy : 0 ≤ u_wy.toInt ∧ u_wy.toInt ≤ 3) (h_u_bt : 0 ≤ u_bt.toInt ∧ u_bt.toInt ≤ 1000000) (h_u_ps : 0 ≤ u_ps.toInt ∧ u_ps.toInt ≤ 200) (h_u_ic : 0 ≤ u_ic.toInt ∧ u_ic.toInt ≤ 1) (h_u_id : 0 ≤ u_id.toInt ∧ u_id.toInt ≤ 1) (r_ro : MI v_ro) : Met l yX12_least (wsG yX12_least cX12_least 2 (some .int)) ({ frames := 2, cells := 0, slots := 0, locals := 44 }) (va_Pc [.ref b_o, .int p_1] (g5_P G [(b_o, (oc12 u_th u_sa b_rf b_ro b_im b_ke u_fd b_tp u_td u_fr u_to u_so u_wo u_fa u_bd u_nc b_nl u_co b_op b_ar u_le b_pi b_pa u_pd u_od b_ws b_hw u_la b_se b_re u_bk u_va u_su u_ce u_ho u_wy u_bt u_ps b_pt u_tg u_sn b_ip u_ic b_ah b_be b_me u_wd b_tr b_ld u_st b_wn u_id)), (b_rf, (arI G 7 v_rf)), (b_ro, (arI G 5740 v_ro))] sz)) (va_Qi (fun (r : Int32) (u : va_W) => (∃ (o_r : Int32) (o_th : Int32) (o_sa : Int32) (o_ic : Int32) (o_rf : Nat → Int32) (o_ro : Nat → Int32), (MI o_ro) ∧ (0 ≤ o_ic.toInt ∧ o_ic.toInt ≤ 1) ∧ (o_r = aleast v_ro p_1) ∧ (o_ro = sleast v_ro p_1) ∧ (r = o_r) ∧ (u = [(b_o, (oc12 o_th o_sa b_rf b_ro b_im b_ke u_fd b_tp u_td u_fr u_to u_so u_wo u_fa u_bd u_nc b_nl u_co b_op b_ar u_le b_pi b_pa u_pd u_od b_ws b_hw u_la b_se b_re u_bk u_va u_su u_ce u_ho u_wy u_bt u_ps b_pt u_tg u_sn b_ip o_ic b_ah b_be b_me u_wd b_tr b_ld u_st b_wn u_id)), (b_rf, (arI G 7 o_rf)), (b_ro, (arI G 5740 o_ro))]))) (g5_B G (va_A [(b_o, (oc12 u_th u_sa b_rf b_ro b_im b_ke u_fd b_tp u_td u_fr u_to u_so u_wo u_fa u_bd u_nc b_nl u_co b_op b_ar u_le b_pi b_pa u_pd u_od b_ws b_hw u_la b_se b_re u_bk u_va u_su u_ce u_ho u_wy u_bt u_ps b_pt u_tg u_sn b_ip u_ic b_ah b_be b_me u_wd b_tr b_ld u_st b_wn u_id)), (b_rf, (arI G 7 v_rf)), (b_ro, (arI G 5740 v_ro))] sz)) (va_A [(b_o, (oc12 u_th u_sa b_rf b_ro b_im b_ke u_fd b_tp u_td u_fr u_to u_so u_wo u_fa u_bd u_nc b_nl u_co b_op b_ar u_le b_pi b_pa u_pd u_od b_ws b_hw u_la b_se b_re u_bk u_va u_su u_ce u_ho u_wy u_bt u_ps b_pt u_tg u_sn b_ip u_ic b_ah b_be b_me u_wd b_tr b_ld u_st b_wn u_id)), (b_rf, (arI G 7 v_rf)), (b_ro, (arI G 5740 v_ro))] sz)) 0 0 (va_A [(b_o, (oc12 u_th u_sa b_rf b_ro b_im b_ke u_fd b_tp u_td u_fr u_to u_so u_wo u_fa u_bd u_nc b_nl u_co b_op b_ar u_le b_pi b_pa u_pd u_od b_ws b_hw u_la b_se b_re u_bk u_va u_su u_ce u_ho u_wy u_bt u_ps b_pt u_tg u_sn b_ip u_ic b_ah b_be b_me u_wd b_tr b_ld u_st b_wn u_id)), (b_rf, (arI G 7 v_rf)), (b_ro, (arI G 5740 v_ro))] sz) := by
  refine Met.ofW (cc := cX12_least) (maxL := 2) (ret := (some .int)) (by decide +kernel) rfl ?_
  intro p e s m args below meth c s₁ B hml hv
  obtain ⟨rfl, hsz, hP, hK, hD0, hN, hT⟩ := hv
  have hx := B.exec
  have hb := B.bytes
  have hr := B.returns
  have hts : ∀ w ∈ tblG, w.before _ s = true := fun w h => atoms_spec (ws := (wsG yX12_least cX12_least 2 (some .int))) B.pre w (List.mem_cons_of_mem _ h)
  have hown : s.vm.findClass RX12 = some m.cls := findClass_of_methodNamed B.named
  have hlocks := B.notSynchronized
  subst hsz
  have hD := hD0.self (sz := s.heap.size)
  generalize hAe : va_A [(b_o, (oc12 u_th u_sa b_rf b_ro b_im b_ke u_fd b_tp u_td u_fr u_to u_so u_wo u_fa u_bd u_nc b_nl u_co b_op b_ar u_le b_pi b_pa u_pd u_od b_ws b_hw u_la b_se b_re u_bk u_va u_su u_ce u_ho u_wy u_bt u_ps b_pt u_tg u_sn b_ip u_ic b_ah b_be b_me u_wd b_tr b_ld u_st b_wn u_id)), (b_rf, (arI G 7 v_rf)), (b_ro, (arI G 5740 v_ro))] s.heap.size = A at hD hT ⊢
  have hA : ∀ q : Nat, s.heap.size ≤ q → A q := fun q h => by rw [← hAe]; exact Or.inr h
  have hS : va_S A s.heap s.heap [] := va_S.rf
  replace hP : va_P G.1 vwCl [(b_o, (oc12 u_th u_sa b_rf b_ro b_im b_ke u_fd b_tp u_td u_fr u_to u_so u_wo u_fa u_bd u_nc b_nl u_co b_op b_ar u_le b_pi b_pa u_pd u_od b_ws b_hw u_la b_se b_re u_bk u_va u_su u_ce u_ho u_wy u_bt u_ps b_pt u_tg u_sn b_ip u_ic b_ah b_be b_me u_wd b_tr b_ld u_st b_wn u_id)), (b_rf, (arI G 7 v_rf)), (b_ro, (arI G 5740 v_ro))] s.heap := hP
  have hl := lv_entry ([.ref b_o, .int p_1]) (n := 2) (Nat.le_of_ble_eq_true rfl)
  rw [lg_entry_eq]
  generalize (lg_sl ([.ref b_o, .int p_1]) ++ List.replicate (2 - (lg_sl ([.ref b_o, .int p_1])).length) Slot.unset).toArray = ls at hl ⊢
  replace hl : lv_has ls 2 [(0, .ref b_o), (1, .int p_1)] := hl
  refine lv_aload_n hx hb dX12_least_0 rfl (lv_at hl 0 rfl) ?_
  refine lv_iconst (v := 0) hx hb dX12_least_1 (by decide +kernel) ?_
  refine va_put (D := G.1) (ci := 12) (v := .int 0) (ty := .int) (C := RX12) (T := TX12) (N := 52) hx hb hts inG_X12 tyX12 tyX12_ok nmX12 hown hK hP hD hS 0 rfl rfl 0 (by decide +kernel) (hts _ fl_X12_107) (fun _ h9 => h9) rfl (by decide +kernel) rfl rfl (Nat.le_of_ble_eq_true rfl) dX12_least_2 ?_
  clear hP hD hS
  intro H locs hP hD hS
  refine g5_rs [(b_o, (oc12 0 u_sa b_rf b_ro b_im b_ke u_fd b_tp u_td u_fr u_to u_so u_wo u_fa u_bd u_nc b_nl u_co b_op b_ar u_le b_pi b_pa u_pd u_od b_ws b_hw u_la b_se b_re u_bk u_va u_su u_ce u_ho u_wy u_bt u_ps b_pt u_tg u_sn b_ip u_ic b_ah b_be b_me u_wd b_tr b_ld u_st b_wn u_id)), (b_rf, (arI G 7 v_rf)), (b_ro, (arI G 5740 v_ro))] hP hD ?_
  clear hP hD
  intro hP hD
  refine lv_iload_n hx hb dX12_least_5 rfl (lv_at hl 1 rfl) ?_
  refine W.eq (g2 := F0 m 6 ls [.int p_1]) rfl ?_
  refine lv_i2l (v := p_1.toInt64) hx hb dX12_least_6 rfl ?_
  refine lv_lconst (v := 0) hx hb dX12_least_7 (by decide +kernel) ?_
  refine lv_ldc2 (v := 1000000) hx hb hown (hts _ kl_X12_190) dX12_least_8 ?_
  obtain ⟨hPc, hDc, hFc⟩ := g5_sub3 (wc := []) hP hD hS hA [] (by decide +kernel) rfl
  refine va_calli (va_runS (As := [.long p_1.toInt64, .long 0, .long 1000000]) (rest := []) ⟨hx, hb, hml, hown, hts⟩ (n_in_0_1000000 l G H.size p_1) (va_cwS 3 hts gS_X12_121 rfl rfl rfl hs_X12_in ⟨Nat.le_of_ble_eq_true rfl, Nat.le_of_ble_eq_true rfl⟩) (g5_preS hPc hK hDc hN hT hS hFc) rfl rfl hl.1 rfl (lv_room (Nat.le_of_ble_eq_true rfl)) dX12_least_11 ⟨Nat.le_of_ble_eq_true rfl, Nat.le_of_ble_eq_true rfl⟩) hS (fun q _ h => hFc q h) hFc (fun r u t H locs ht hvm hw hB hz1 hk1 hS => ?_)
  obtain ⟨hP1, hD1⟩ := hB
  have hP1 := g5_ht ht hP1
  rcases hw with ⟨(i_1 : p_1.toInt < 0 ∨ 1000000 < p_1.toInt), rfl, rfl⟩ | ⟨(i_2 : 0 ≤ p_1.toInt ∧ p_1.toInt ≤ 1000000), rfl, rfl⟩
  ·
    have hJ9 := g5_same hP hk1
    clear hP hPc hDc hFc ht hvm hz1 hk1 hP1 hD1
    have hP := hJ9
    clear hJ9
    refine lv_if_eq (tgt := 26) hx hb dX12_least_14 (by decide +kernel) (fun c_3 => ?_) (fun c_3 => ?_)
    ·
      refine lv_aload_n hx hb dX12_least_26 rfl (lv_at hl 0 rfl) ?_
      refine lv_iconst (v := (-1)) hx hb dX12_least_27 (by decide +kernel) ?_
      obtain ⟨hPc, hDc, hFc⟩ := g5_sub3 (wc := [(b_o, (oc12 0 u_sa b_rf b_ro b_im b_ke u_fd b_tp u_td u_fr u_to u_so u_wo u_fa u_bd u_nc b_nl u_co b_op b_ar u_le b_pi b_pa u_pd u_od b_ws b_hw u_la b_se b_re u_bk u_va u_su u_ce u_ho u_wy u_bt u_ps b_pt u_tg u_sn b_ip u_ic b_ah b_be b_me u_wd b_tr b_ld u_st b_wn u_id)), (b_rf, (arI G 7 v_rf))]) hP hD hS hA [0, 1] (by decide +kernel) rfl
      refine va_calli (va_runV (As := [.int (-1)]) (rest := []) ⟨hx, hb, hml, hown, hts⟩ (n_tell1 l G b_o b_rf b_ro b_im b_ke b_tp b_nl b_op b_ar b_pi b_pa b_ws b_hw b_se b_re b_pt b_ip b_ah b_be b_me b_tr b_ld b_wn H.size 0 u_sa u_fd u_td u_fr u_to u_so u_fa u_bd u_nc u_co u_le u_pd u_od u_la u_bk u_ce u_ho u_wy u_bt u_ps u_tg u_sn u_ic u_wd u_id u_wo u_va u_su u_st v_rf h_u_td h_u_fr h_u_to h_u_bd h_u_nc h_u_co h_u_pd h_u_la h_u_bk h_u_ce h_u_ho h_u_wy h_u_bt h_u_ps h_u_ic h_u_id) (cwV 1 hts gV_X12_125 rfl rfl rfl hv_X12_tell ⟨Nat.le_of_ble_eq_true rfl, Nat.le_of_ble_eq_true rfl⟩) (g5_preV hPc hK hDc hN hT hS hFc (ci := 12) (q0 := 0) rfl rfl) rfl rfl hl.1 rfl (lv_room (Nat.le_of_ble_eq_true rfl)) dX12_least_28 ⟨Nat.le_of_ble_eq_true rfl, Nat.le_of_ble_eq_true rfl⟩) hS (fun q _ h => hFc q h) hFc (fun r u t H locs ht hvm hw hB hz1 hk1 hS => ?_)
      obtain ⟨hP1, hD1⟩ := hB
      have hP1 := g5_ht ht hP1
      obtain ⟨z5, z6, z7, (i_4 : 0 ≤ z6.toInt ∧ z6.toInt ≤ 1), rfl, rfl⟩ := hw
      have hJ9 := va_join (wr := [(b_ro, (arI G 5740 v_ro))]) hP hD [0, 1] [2] rfl rfl (by decide +kernel) (by decide +kernel) hk1 hFc hP1 hD1
      clear hP hD hPc hDc hFc ht hvm hz1 hk1 hP1 hD1
      obtain ⟨hP, hD⟩ := hJ9
      refine g5_rs [(b_ro, (arI G 5740 v_ro)), (b_o, (oc12 0 z5 b_rf b_ro b_im b_ke u_fd b_tp u_td u_fr u_to u_so u_wo u_fa u_bd u_nc b_nl u_co b_op b_ar u_le b_pi b_pa u_pd u_od b_ws b_hw u_la b_se b_re u_bk u_va u_su u_ce u_ho u_wy u_bt u_ps b_pt u_tg u_sn b_ip z6 b_ah b_be b_me u_wd b_tr b_ld u_st b_wn u_id)), (b_rf, (arI G 7 z7))] hP hD ?_
      clear hP hD
      intro hP hD
      exact W.iret (v := (-1)) hx hb hr (fun t ht hW => ⟨⟨(-1), [(b_o, (oc12 0 z5 b_rf b_ro b_im b_ke u_fd b_tp u_td u_fr u_to u_so u_wo u_fa u_bd u_nc b_nl u_co b_op b_ar u_le b_pi b_pa u_pd u_od b_ws b_hw u_la b_se b_re u_bk u_va u_su u_ce u_ho u_wy u_bt u_ps b_pt u_tg u_sn b_ip z6 b_ah b_be b_me u_wd b_tr b_ld u_st b_wn u_id)), (b_rf, (arI G 7 z7)), (b_ro, (arI G 5740 v_ro))], rfl, ⟨(-1), 0, z5, z6, z7, v_ro, r_ro, i_4, (least_1 (f := v_ro) (v := p_1) (by omega)).1.symm, (least_1 (f := v_ro) (v := p_1) (by omega)).2.symm, rfl, rfl⟩, by rw [ht]; exact hP.sub [1, 2, 0] rfl, hD.sub [1, 2, 0] (by decide +kernel) rfl⟩, hS.F ht⟩) hS.2.2 dX12_least_31
    ·
      exact absurd c_3 (by decide +kernel)
  ·
    have hJ9 := g5_same hP hk1
    clear hP hPc hDc hFc ht hvm hz1 hk1 hP1 hD1
    have hP := hJ9
    clear hJ9
    refine lv_if_eq (tgt := 26) hx hb dX12_least_14 (by decide +kernel) (fun c_8 => ?_) (fun c_8 => ?_)
    ·
      exact absurd c_8 (by decide +kernel)
    ·
      refine lv_aload_n hx hb dX12_least_17 rfl (lv_at hl 0 rfl) ?_
      refine lv_iconst (v := 4) hx hb dX12_least_18 (by decide +kernel) ?_
      refine lv_iload_n hx hb dX12_least_19 rfl (lv_at hl 1 rfl) ?_
      obtain ⟨hPc, hDc, hFc⟩ := g5_sub3 (wc := [(b_o, (oc12 0 u_sa b_rf b_ro b_im b_ke u_fd b_tp u_td u_fr u_to u_so u_wo u_fa u_bd u_nc b_nl u_co b_op b_ar u_le b_pi b_pa u_pd u_od b_ws b_hw u_la b_se b_re u_bk u_va u_su u_ce u_ho u_wy u_bt u_ps b_pt u_tg u_sn b_ip u_ic b_ah b_be b_me u_wd b_tr b_ld u_st b_wn u_id)), (b_ro, (arI G 5740 v_ro))]) hP hD hS hA [0, 2] (by decide +kernel) rfl
      refine va_calli (va_runV (As := [.int 4, .int p_1]) (rest := []) ⟨hx, hb, hml, hown, hts⟩ (n_changeE l G b_o b_ro b_rf b_im b_ke b_tp b_nl b_op b_ar b_pi b_pa b_ws b_hw b_se b_re b_pt b_ip b_ah b_be b_me b_tr b_ld b_wn H.size 0 u_sa u_fd u_td u_fr u_to u_so u_fa u_bd u_nc u_co u_le u_pd u_od u_la u_bk u_ce u_ho u_wy u_bt u_ps u_tg u_sn u_ic u_wd u_id 4 p_1 u_wo u_va u_su u_st v_ro h_u_td h_u_fr h_u_to h_u_bd h_u_nc h_u_co h_u_pd h_u_la h_u_bk h_u_ce h_u_ho h_u_wy h_u_bt h_u_ps h_u_ic h_u_id ⟨by decide, by decide⟩ (r_ro) (mi_upd r_ro (by have zz : (4 : Int32).toNatClampNeg = 4 := (by decide +kernel); unfold rOK; refine ⟨?_, ?_, ?_, ?_, ?_, ?_, ?_, ?_, ?_, ?_, ?_, ?_, ?_, ?_, ?_, ?_, ?_, ?_, ?_, ?_, ?_, ?_, ?_⟩ <;> (intros; omega)) (by have zz : (4 : Int32).toNatClampNeg = 4 := (by decide +kernel); omega) (by have zz : (4 : Int32).toNatClampNeg = 4 := (by decide +kernel); omega) (by have zz : (4 : Int32).toNatClampNeg = 4 := (by decide +kernel); omega) (by have zz : (4 : Int32).toNatClampNeg = 4 := (by decide +kernel); omega) (by have zz : (4 : Int32).toNatClampNeg = 4 := (by decide +kernel); omega))) (cwV 2 hts gV_X12_151 rfl rfl rfl hv_X12_change ⟨Nat.le_of_ble_eq_true rfl, Nat.le_of_ble_eq_true rfl⟩) (g5_preV hPc hK hDc hN hT hS hFc (ci := 12) (q0 := 0) rfl rfl) rfl rfl hl.1 rfl (lv_room (Nat.le_of_ble_eq_true rfl)) dX12_least_20 ⟨Nat.le_of_ble_eq_true rfl, Nat.le_of_ble_eq_true rfl⟩) hS (fun q _ h => hFc q h) hFc (fun r u t H locs ht hvm hw hB hz1 hk1 hS => ?_)
      obtain ⟨hP1, hD1⟩ := hB
      have hP1 := g5_ht ht hP1
      obtain ⟨z13, z14, z15, z16, (i_9 : MI z16), (i_10 : 0 ≤ z15.toInt ∧ z15.toInt ≤ 1), (i_11 : z16 = upd v_ro (4 : Int32).toNatClampNeg p_1), (i_12 : z13 = v_ro (4 : Int32).toNatClampNeg), y17, rfl⟩ := hw
      have hJ9 := va_join (wr := [(b_rf, (arI G 7 v_rf))]) hP hD [0, 2] [1] rfl rfl (by decide +kernel) (by decide +kernel) hk1 hFc hP1 hD1
      clear hP hD hPc hDc hFc ht hvm hz1 hk1 hP1 hD1
      obtain ⟨hP, hD⟩ := hJ9
      refine g5_rs [(b_rf, (arI G 7 v_rf)), (b_o, (oc12 0 z14 b_rf b_ro b_im b_ke u_fd b_tp u_td u_fr u_to u_so u_wo u_fa u_bd u_nc b_nl u_co b_op b_ar u_le b_pi b_pa u_pd u_od b_ws b_hw u_la b_se b_re u_bk u_va u_su u_ce u_ho u_wy u_bt u_ps b_pt u_tg u_sn b_ip z15 b_ah b_be b_me u_wd b_tr b_ld u_st b_wn u_id)), (b_ro, (arI G 5740 z16))] hP hD ?_
      clear hP hD
      intro hP hD
      refine g5_ti (v := z13) y17 ?_
      refine W.eq (g2 := F0 m 23 ls [.int z13]) rfl ?_
      refine lv_goto (tgt := 31) hx hb dX12_least_23 (by decide +kernel) ?_
      exact W.iret (v := z13) hx hb hr (fun t ht hW => ⟨⟨z13, [(b_o, (oc12 0 z14 b_rf b_ro b_im b_ke u_fd b_tp u_td u_fr u_to u_so u_wo u_fa u_bd u_nc b_nl u_co b_op b_ar u_le b_pi b_pa u_pd u_od b_ws b_hw u_la b_se b_re u_bk u_va u_su u_ce u_ho u_wy u_bt u_ps b_pt u_tg u_sn b_ip z15 b_ah b_be b_me u_wd b_tr b_ld u_st b_wn u_id)), (b_rf, (arI G 7 v_rf)), (b_ro, (arI G 5740 z16))], rfl, ⟨z13, 0, z14, z15, v_rf, z16, i_9, i_10, (i_12.trans (by congr 1)).trans (least_0 (f := v_ro) (v := p_1) ⟨by omega, by omega⟩).1.symm, (i_11.trans (by congr 1)).trans (least_0 (f := v_ro) (v := p_1) ⟨by omega, by omega⟩).2.symm, rfl, rfl⟩, by rw [ht]; exact hP.sub [1, 0, 2] rfl, hD.sub [1, 0, 2] (by decide +kernel) rfl⟩, hS.F ht⟩) hS.2.2 dX12_least_31
set_option maxHeartbeats 4000000 in
set_option maxRecDepth 100000 in
theorem n_startE (l : Launch) (G : g5_G) (b_o b_rf b_ro b_im b_ke b_tp b_nl b_op b_ar b_pi b_pa b_ws b_hw b_se b_re b_pt b_ip b_ah b_be b_me b_tr b_ld b_wn : Nat) (sz : Nat) (u_th : Int32) (u_sa : Int32) (u_fd : Int32) (u_td : Int32) (u_fr : Int32) (u_to : Int32) (u_so : Int32) (u_fa : Int32) (u_bd : Int32) (u_nc : Int32) (u_co : Int32) (u_le : Int32) (u_pd : Int32) (u_od : Int32) (u_la : Int32) (u_bk : Int32) (u_ce : Int32) (u_ho : Int32) (u_wy : Int32) (u_bt : Int32) (u_ps : Int32) (u_tg : Int32) (u_sn : Int32) (u_ic : Int32) (u_wd : Int32) (u_id : Int32) (p_1 : Int32) (u_wo : Int64) (u_va : Int64) (u_su : Int64) (u_st : Int64) (v_rf : Nat → Int32) (v_ro : Nat → Int32) (h_u_td : 0 ≤ u_td.toInt ∧ u_td.toInt ≤ 400) (h_u_fr : 0 ≤ u_fr.toInt ∧ u_fr.toInt ≤ 400) (h_u_to : 0 ≤ u_to.toInt ∧ u_to.toInt ≤ 400) (h_u_bd : 0 ≤ u_bd.toInt ∧ u_bd.toInt ≤ 1) (h_u_nc : 0 ≤ u_nc.toInt ∧ u_nc.toInt ≤ 12) (h_u_co : 0 ≤ u_co.toInt ∧ u_co.toInt ≤ 400) (h_u_pd : 0 ≤ u_pd.toInt ∧ u_pd.toInt ≤ 400) (h_u_la : 0 ≤ u_la.toInt ∧ u_la.toInt ≤ 4840) (h_u_bk : 0 ≤ u_bk.toInt ∧ u_bk.toInt ≤ 1) (h_u_ce : 0 ≤ u_ce.toInt ∧ u_ce.toInt ≤ 63) (h_u_ho : 0 ≤ u_ho.toInt ∧ u_ho.toInt ≤ 23) (h_u_wy : 0 ≤ u_wy.toInt ∧ u_wy.toInt ≤ 3) (h_u_bt : 0 ≤ u_bt.toInt ∧ u_bt.toInt ≤ 1000000) (h_u_ps : 0 ≤ u_ps.toInt ∧ u_ps.toInt ≤ 200) (h_u_ic : 0 ≤ u_ic.toInt ∧ u_ic.toInt ≤ 1) (h_u_id : 0 ≤ u_id.toInt ∧ u_id.toInt ≤ 1) (r_ro : MI v_ro) : Met l yX12_start (wsG yX12_start cX12_start 2 (some .int)) ({ frames := 2, cells := 0, slots := 0, locals := 44 }) (va_Pc [.ref b_o, .int p_1] (g5_P G [(b_o, (oc12 u_th u_sa b_rf b_ro b_im b_ke u_fd b_tp u_td u_fr u_to u_so u_wo u_fa u_bd u_nc b_nl u_co b_op b_ar u_le b_pi b_pa u_pd u_od b_ws b_hw u_la b_se b_re u_bk u_va u_su u_ce u_ho u_wy u_bt u_ps b_pt u_tg u_sn b_ip u_ic b_ah b_be b_me u_wd b_tr b_ld u_st b_wn u_id)), (b_rf, (arI G 7 v_rf)), (b_ro, (arI G 5740 v_ro))] sz)) (va_Qi (fun (r : Int32) (u : va_W) => (∃ (o_r : Int32) (o_th : Int32) (o_sa : Int32) (o_ic : Int32) (o_rf : Nat → Int32) (o_ro : Nat → Int32), (MI o_ro) ∧ (0 ≤ o_ic.toInt ∧ o_ic.toInt ≤ 1) ∧ (o_r = astart v_ro p_1) ∧ (o_ro = sstart v_ro p_1) ∧ (r = o_r) ∧ (u = [(b_o, (oc12 o_th o_sa b_rf b_ro b_im b_ke u_fd b_tp u_td u_fr u_to u_so u_wo u_fa u_bd u_nc b_nl u_co b_op b_ar u_le b_pi b_pa u_pd u_od b_ws b_hw u_la b_se b_re u_bk u_va u_su u_ce u_ho u_wy u_bt u_ps b_pt u_tg u_sn b_ip o_ic b_ah b_be b_me u_wd b_tr b_ld u_st b_wn u_id)), (b_rf, (arI G 7 o_rf)), (b_ro, (arI G 5740 o_ro))]))) (g5_B G (va_A [(b_o, (oc12 u_th u_sa b_rf b_ro b_im b_ke u_fd b_tp u_td u_fr u_to u_so u_wo u_fa u_bd u_nc b_nl u_co b_op b_ar u_le b_pi b_pa u_pd u_od b_ws b_hw u_la b_se b_re u_bk u_va u_su u_ce u_ho u_wy u_bt u_ps b_pt u_tg u_sn b_ip u_ic b_ah b_be b_me u_wd b_tr b_ld u_st b_wn u_id)), (b_rf, (arI G 7 v_rf)), (b_ro, (arI G 5740 v_ro))] sz)) (va_A [(b_o, (oc12 u_th u_sa b_rf b_ro b_im b_ke u_fd b_tp u_td u_fr u_to u_so u_wo u_fa u_bd u_nc b_nl u_co b_op b_ar u_le b_pi b_pa u_pd u_od b_ws b_hw u_la b_se b_re u_bk u_va u_su u_ce u_ho u_wy u_bt u_ps b_pt u_tg u_sn b_ip u_ic b_ah b_be b_me u_wd b_tr b_ld u_st b_wn u_id)), (b_rf, (arI G 7 v_rf)), (b_ro, (arI G 5740 v_ro))] sz)) 0 0 (va_A [(b_o, (oc12 u_th u_sa b_rf b_ro b_im b_ke u_fd b_tp u_td u_fr u_to u_so u_wo u_fa u_bd u_nc b_nl u_co b_op b_ar u_le b_pi b_pa u_pd u_od b_ws b_hw u_la b_se b_re u_bk u_va u_su u_ce u_ho u_wy u_bt u_ps b_pt u_tg u_sn b_ip u_ic b_ah b_be b_me u_wd b_tr b_ld u_st b_wn u_id)), (b_rf, (arI G 7 v_rf)), (b_ro, (arI G 5740 v_ro))] sz) := by
  refine Met.ofW (cc := cX12_start) (maxL := 2) (ret := (some .int)) (by decide +kernel) rfl ?_
  intro p e s m args below meth c s₁ B hml hv
  obtain ⟨rfl, hsz, hP, hK, hD0, hN, hT⟩ := hv
  have hx := B.exec
  have hb := B.bytes
  have hr := B.returns
  have hts : ∀ w ∈ tblG, w.before _ s = true := fun w h => atoms_spec (ws := (wsG yX12_start cX12_start 2 (some .int))) B.pre w (List.mem_cons_of_mem _ h)
  have hown : s.vm.findClass RX12 = some m.cls := findClass_of_methodNamed B.named
  have hlocks := B.notSynchronized
  subst hsz
  have hD := hD0.self (sz := s.heap.size)
  generalize hAe : va_A [(b_o, (oc12 u_th u_sa b_rf b_ro b_im b_ke u_fd b_tp u_td u_fr u_to u_so u_wo u_fa u_bd u_nc b_nl u_co b_op b_ar u_le b_pi b_pa u_pd u_od b_ws b_hw u_la b_se b_re u_bk u_va u_su u_ce u_ho u_wy u_bt u_ps b_pt u_tg u_sn b_ip u_ic b_ah b_be b_me u_wd b_tr b_ld u_st b_wn u_id)), (b_rf, (arI G 7 v_rf)), (b_ro, (arI G 5740 v_ro))] s.heap.size = A at hD hT ⊢
  have hA : ∀ q : Nat, s.heap.size ≤ q → A q := fun q h => by rw [← hAe]; exact Or.inr h
  have hS : va_S A s.heap s.heap [] := va_S.rf
  replace hP : va_P G.1 vwCl [(b_o, (oc12 u_th u_sa b_rf b_ro b_im b_ke u_fd b_tp u_td u_fr u_to u_so u_wo u_fa u_bd u_nc b_nl u_co b_op b_ar u_le b_pi b_pa u_pd u_od b_ws b_hw u_la b_se b_re u_bk u_va u_su u_ce u_ho u_wy u_bt u_ps b_pt u_tg u_sn b_ip u_ic b_ah b_be b_me u_wd b_tr b_ld u_st b_wn u_id)), (b_rf, (arI G 7 v_rf)), (b_ro, (arI G 5740 v_ro))] s.heap := hP
  have hl := lv_entry ([.ref b_o, .int p_1]) (n := 2) (Nat.le_of_ble_eq_true rfl)
  rw [lg_entry_eq]
  generalize (lg_sl ([.ref b_o, .int p_1]) ++ List.replicate (2 - (lg_sl ([.ref b_o, .int p_1])).length) Slot.unset).toArray = ls at hl ⊢
  replace hl : lv_has ls 2 [(0, .ref b_o), (1, .int p_1)] := hl
  refine lv_aload_n hx hb dX12_start_0 rfl (lv_at hl 0 rfl) ?_
  refine lv_iconst (v := 0) hx hb dX12_start_1 (by decide +kernel) ?_
  refine va_put (D := G.1) (ci := 12) (v := .int 0) (ty := .int) (C := RX12) (T := TX12) (N := 52) hx hb hts inG_X12 tyX12 tyX12_ok nmX12 hown hK hP hD hS 0 rfl rfl 0 (by decide +kernel) (hts _ fl_X12_107) (fun _ h9 => h9) rfl (by decide +kernel) rfl rfl (Nat.le_of_ble_eq_true rfl) dX12_start_2 ?_
  clear hP hD hS
  intro H locs hP hD hS
  refine g5_rs [(b_o, (oc12 0 u_sa b_rf b_ro b_im b_ke u_fd b_tp u_td u_fr u_to u_so u_wo u_fa u_bd u_nc b_nl u_co b_op b_ar u_le b_pi b_pa u_pd u_od b_ws b_hw u_la b_se b_re u_bk u_va u_su u_ce u_ho u_wy u_bt u_ps b_pt u_tg u_sn b_ip u_ic b_ah b_be b_me u_wd b_tr b_ld u_st b_wn u_id)), (b_rf, (arI G 7 v_rf)), (b_ro, (arI G 5740 v_ro))] hP hD ?_
  clear hP hD
  intro hP hD
  refine lv_iload_n hx hb dX12_start_5 rfl (lv_at hl 1 rfl) ?_
  refine W.eq (g2 := F0 m 6 ls [.int p_1]) rfl ?_
  refine lv_i2l (v := p_1.toInt64) hx hb dX12_start_6 rfl ?_
  refine lv_ldc2 (v := (-1)) hx hb hown (hts _ kl_X12_178) dX12_start_7 ?_
  refine lv_ldc2 (v := 63) hx hb hown (hts _ kl_X12_128) dX12_start_10 ?_
  obtain ⟨hPc, hDc, hFc⟩ := g5_sub3 (wc := []) hP hD hS hA [] (by decide +kernel) rfl
  refine va_calli (va_runS (As := [.long p_1.toInt64, .long (-1), .long 63]) (rest := []) ⟨hx, hb, hml, hown, hts⟩ (n_in_m1_63 l G H.size p_1) (va_cwS 3 hts gS_X12_121 rfl rfl rfl hs_X12_in ⟨Nat.le_of_ble_eq_true rfl, Nat.le_of_ble_eq_true rfl⟩) (g5_preS hPc hK hDc hN hT hS hFc) rfl rfl hl.1 rfl (lv_room (Nat.le_of_ble_eq_true rfl)) dX12_start_13 ⟨Nat.le_of_ble_eq_true rfl, Nat.le_of_ble_eq_true rfl⟩) hS (fun q _ h => hFc q h) hFc (fun r u t H locs ht hvm hw hB hz1 hk1 hS => ?_)
  obtain ⟨hP1, hD1⟩ := hB
  have hP1 := g5_ht ht hP1
  rcases hw with ⟨(i_1 : p_1.toInt < (-1) ∨ 63 < p_1.toInt), rfl, rfl⟩ | ⟨(i_2 : (-1) ≤ p_1.toInt ∧ p_1.toInt ≤ 63), rfl, rfl⟩
  ·
    have hJ9 := g5_same hP hk1
    clear hP hPc hDc hFc ht hvm hz1 hk1 hP1 hD1
    have hP := hJ9
    clear hJ9
    refine lv_if_ne (tgt := 25) hx hb dX12_start_16 (by decide +kernel) (fun c_3 => ?_) (fun c_3 => ?_)
    ·
      exact absurd c_3 (by decide +kernel)
    ·
      refine lv_aload_n hx hb dX12_start_19 rfl (lv_at hl 0 rfl) ?_
      refine lv_iconst (v := (-1)) hx hb dX12_start_20 (by decide +kernel) ?_
      obtain ⟨hPc, hDc, hFc⟩ := g5_sub3 (wc := [(b_o, (oc12 0 u_sa b_rf b_ro b_im b_ke u_fd b_tp u_td u_fr u_to u_so u_wo u_fa u_bd u_nc b_nl u_co b_op b_ar u_le b_pi b_pa u_pd u_od b_ws b_hw u_la b_se b_re u_bk u_va u_su u_ce u_ho u_wy u_bt u_ps b_pt u_tg u_sn b_ip u_ic b_ah b_be b_me u_wd b_tr b_ld u_st b_wn u_id)), (b_rf, (arI G 7 v_rf))]) hP hD hS hA [0, 1] (by decide +kernel) rfl
      refine va_calli (va_runV (As := [.int (-1)]) (rest := []) ⟨hx, hb, hml, hown, hts⟩ (n_tell1 l G b_o b_rf b_ro b_im b_ke b_tp b_nl b_op b_ar b_pi b_pa b_ws b_hw b_se b_re b_pt b_ip b_ah b_be b_me b_tr b_ld b_wn H.size 0 u_sa u_fd u_td u_fr u_to u_so u_fa u_bd u_nc u_co u_le u_pd u_od u_la u_bk u_ce u_ho u_wy u_bt u_ps u_tg u_sn u_ic u_wd u_id u_wo u_va u_su u_st v_rf h_u_td h_u_fr h_u_to h_u_bd h_u_nc h_u_co h_u_pd h_u_la h_u_bk h_u_ce h_u_ho h_u_wy h_u_bt h_u_ps h_u_ic h_u_id) (cwV 1 hts gV_X12_125 rfl rfl rfl hv_X12_tell ⟨Nat.le_of_ble_eq_true rfl, Nat.le_of_ble_eq_true rfl⟩) (g5_preV hPc hK hDc hN hT hS hFc (ci := 12) (q0 := 0) rfl rfl) rfl rfl hl.1 rfl (lv_room (Nat.le_of_ble_eq_true rfl)) dX12_start_21 ⟨Nat.le_of_ble_eq_true rfl, Nat.le_of_ble_eq_true rfl⟩) hS (fun q _ h => hFc q h) hFc (fun r u t H locs ht hvm hw hB hz1 hk1 hS => ?_)
      obtain ⟨hP1, hD1⟩ := hB
      have hP1 := g5_ht ht hP1
      obtain ⟨z5, z6, z7, (i_4 : 0 ≤ z6.toInt ∧ z6.toInt ≤ 1), rfl, rfl⟩ := hw
      have hJ9 := va_join (wr := [(b_ro, (arI G 5740 v_ro))]) hP hD [0, 1] [2] rfl rfl (by decide +kernel) (by decide +kernel) hk1 hFc hP1 hD1
      clear hP hD hPc hDc hFc ht hvm hz1 hk1 hP1 hD1
      obtain ⟨hP, hD⟩ := hJ9
      refine g5_rs [(b_ro, (arI G 5740 v_ro)), (b_o, (oc12 0 z5 b_rf b_ro b_im b_ke u_fd b_tp u_td u_fr u_to u_so u_wo u_fa u_bd u_nc b_nl u_co b_op b_ar u_le b_pi b_pa u_pd u_od b_ws b_hw u_la b_se b_re u_bk u_va u_su u_ce u_ho u_wy u_bt u_ps b_pt u_tg u_sn b_ip z6 b_ah b_be b_me u_wd b_tr b_ld u_st b_wn u_id)), (b_rf, (arI G 7 z7))] hP hD ?_
      clear hP hD
      intro hP hD
      exact W.iret (v := (-1)) hx hb hr (fun t ht hW => ⟨⟨(-1), [(b_o, (oc12 0 z5 b_rf b_ro b_im b_ke u_fd b_tp u_td u_fr u_to u_so u_wo u_fa u_bd u_nc b_nl u_co b_op b_ar u_le b_pi b_pa u_pd u_od b_ws b_hw u_la b_se b_re u_bk u_va u_su u_ce u_ho u_wy u_bt u_ps b_pt u_tg u_sn b_ip z6 b_ah b_be b_me u_wd b_tr b_ld u_st b_wn u_id)), (b_rf, (arI G 7 z7)), (b_ro, (arI G 5740 v_ro))], rfl, ⟨(-1), 0, z5, z6, z7, v_ro, r_ro, i_4, (start_1 (f := v_ro) (c := p_1) (by omega)).1.symm, (start_1 (f := v_ro) (c := p_1) (by omega)).2.symm, rfl, rfl⟩, by rw [ht]; exact hP.sub [1, 2, 0] rfl, hD.sub [1, 2, 0] (by decide +kernel) rfl⟩, hS.F ht⟩) hS.2.2 dX12_start_24
  ·
    have hJ9 := g5_same hP hk1
    clear hP hPc hDc hFc ht hvm hz1 hk1 hP1 hD1
    have hP := hJ9
    clear hJ9
    refine lv_if_ne (tgt := 25) hx hb dX12_start_16 (by decide +kernel) (fun c_8 => ?_) (fun c_8 => ?_)
    ·
      refine lv_iload_n hx hb dX12_start_25 rfl (lv_at hl 1 rfl) ?_
      refine lv_iconst (v := (-1)) hx hb dX12_start_26 (by decide +kernel) ?_
      refine lv_icmp_eq (tgt := 56) hx hb dX12_start_27 (by decide +kernel) (fun c_9 => ?_) (fun c_9 => ?_)
      ·
        have i_9 : p_1.toInt = (-1) := g5_eq (a := p_1.toInt) (b := (-1)) rfl (by decide +kernel) c_9
        refine lv_aload_n hx hb dX12_start_56 rfl (lv_at hl 0 rfl) ?_
        refine lv_bipush (v := 6) hx hb dX12_start_57 (by decide +kernel) ?_
        refine lv_iload_n hx hb dX12_start_59 rfl (lv_at hl 1 rfl) ?_
        obtain ⟨hPc, hDc, hFc⟩ := g5_sub3 (wc := [(b_o, (oc12 0 u_sa b_rf b_ro b_im b_ke u_fd b_tp u_td u_fr u_to u_so u_wo u_fa u_bd u_nc b_nl u_co b_op b_ar u_le b_pi b_pa u_pd u_od b_ws b_hw u_la b_se b_re u_bk u_va u_su u_ce u_ho u_wy u_bt u_ps b_pt u_tg u_sn b_ip u_ic b_ah b_be b_me u_wd b_tr b_ld u_st b_wn u_id)), (b_ro, (arI G 5740 v_ro))]) hP hD hS hA [0, 2] (by decide +kernel) rfl
        refine va_calli (va_runV (As := [.int 6, .int p_1]) (rest := []) ⟨hx, hb, hml, hown, hts⟩ (n_changeE l G b_o b_ro b_rf b_im b_ke b_tp b_nl b_op b_ar b_pi b_pa b_ws b_hw b_se b_re b_pt b_ip b_ah b_be b_me b_tr b_ld b_wn H.size 0 u_sa u_fd u_td u_fr u_to u_so u_fa u_bd u_nc u_co u_le u_pd u_od u_la u_bk u_ce u_ho u_wy u_bt u_ps u_tg u_sn u_ic u_wd u_id 6 p_1 u_wo u_va u_su u_st v_ro h_u_td h_u_fr h_u_to h_u_bd h_u_nc h_u_co h_u_pd h_u_la h_u_bk h_u_ce h_u_ho h_u_wy h_u_bt h_u_ps h_u_ic h_u_id ⟨by decide, by decide⟩ (r_ro) (mi_upd r_ro (by have zz : (6 : Int32).toNatClampNeg = 6 := (by decide +kernel); unfold rOK; refine ⟨?_, ?_, ?_, ?_, ?_, ?_, ?_, ?_, ?_, ?_, ?_, ?_, ?_, ?_, ?_, ?_, ?_, ?_, ?_, ?_, ?_, ?_, ?_⟩ <;> (intros; omega)) (by have zz : (6 : Int32).toNatClampNeg = 6 := (by decide +kernel); omega) (by have zz : (6 : Int32).toNatClampNeg = 6 := (by decide +kernel); omega) (by have zz : (6 : Int32).toNatClampNeg = 6 := (by decide +kernel); omega) (by have zz : (6 : Int32).toNatClampNeg = 6 := (by decide +kernel); omega) (by have zz : (6 : Int32).toNatClampNeg = 6 := (by decide +kernel); omega))) (cwV 2 hts gV_X12_151 rfl rfl rfl hv_X12_change ⟨Nat.le_of_ble_eq_true rfl, Nat.le_of_ble_eq_true rfl⟩) (g5_preV hPc hK hDc hN hT hS hFc (ci := 12) (q0 := 0) rfl rfl) rfl rfl hl.1 rfl (lv_room (Nat.le_of_ble_eq_true rfl)) dX12_start_60 ⟨Nat.le_of_ble_eq_true rfl, Nat.le_of_ble_eq_true rfl⟩) hS (fun q _ h => hFc q h) hFc (fun r u t H locs ht hvm hw hB hz1 hk1 hS => ?_)
        obtain ⟨hP1, hD1⟩ := hB
        have hP1 := g5_ht ht hP1
        obtain ⟨z14, z15, z16, z17, (i_10 : MI z17), (i_11 : 0 ≤ z16.toInt ∧ z16.toInt ≤ 1), (i_12 : z17 = upd v_ro (6 : Int32).toNatClampNeg p_1), (i_13 : z14 = v_ro (6 : Int32).toNatClampNeg), y18, rfl⟩ := hw
        have hJ9 := va_join (wr := [(b_rf, (arI G 7 v_rf))]) hP hD [0, 2] [1] rfl rfl (by decide +kernel) (by decide +kernel) hk1 hFc hP1 hD1
        clear hP hD hPc hDc hFc ht hvm hz1 hk1 hP1 hD1
        obtain ⟨hP, hD⟩ := hJ9
        refine g5_rs [(b_rf, (arI G 7 v_rf)), (b_o, (oc12 0 z15 b_rf b_ro b_im b_ke u_fd b_tp u_td u_fr u_to u_so u_wo u_fa u_bd u_nc b_nl u_co b_op b_ar u_le b_pi b_pa u_pd u_od b_ws b_hw u_la b_se b_re u_bk u_va u_su u_ce u_ho u_wy u_bt u_ps b_pt u_tg u_sn b_ip z16 b_ah b_be b_me u_wd b_tr b_ld u_st b_wn u_id)), (b_ro, (arI G 5740 z17))] hP hD ?_
        clear hP hD
        intro hP hD
        refine g5_ti (v := z14) y18 ?_
        refine W.eq (g2 := F0 m 63 ls [.int z14]) rfl ?_
        exact W.iret (v := z14) hx hb hr (fun t ht hW => ⟨⟨z14, [(b_o, (oc12 0 z15 b_rf b_ro b_im b_ke u_fd b_tp u_td u_fr u_to u_so u_wo u_fa u_bd u_nc b_nl u_co b_op b_ar u_le b_pi b_pa u_pd u_od b_ws b_hw u_la b_se b_re u_bk u_va u_su u_ce u_ho u_wy u_bt u_ps b_pt u_tg u_sn b_ip z16 b_ah b_be b_me u_wd b_tr b_ld u_st b_wn u_id)), (b_rf, (arI G 7 v_rf)), (b_ro, (arI G 5740 z17))], rfl, ⟨z14, 0, z15, z16, v_rf, z17, i_10, i_11, (i_13.trans (by congr 1)).trans (start_0 (f := v_ro) (c := p_1) ⟨by omega, by omega⟩ (fun q => by have q1 := q.1; omega)).1.symm, (i_12.trans (by congr 1)).trans (start_0 (f := v_ro) (c := p_1) ⟨by omega, by omega⟩ (fun q => by have q1 := q.1; omega)).2.symm, rfl, rfl⟩, by rw [ht]; exact hP.sub [1, 0, 2] rfl, hD.sub [1, 0, 2] (by decide +kernel) rfl⟩, hS.F ht⟩) hS.2.2 dX12_start_63
      ·
        have n_9 : gNe (p_1.toInt) ((-1)) := g5_eqN (a := p_1.toInt) (b := (-1)) rfl (by decide +kernel) c_9
        have i_9 : p_1.toInt ≥ 0 := by have z := g5_eqN (a := p_1.toInt) (b := (-1)) (by rfl) (by decide +kernel) c_9; omega
        refine lv_aload_n hx hb dX12_start_30 rfl (lv_at hl 0 rfl) ?_
        refine lv_iload_n hx hb dX12_start_31 rfl (lv_at hl 1 rfl) ?_
        refine lv_iconst (v := (-1)) hx hb dX12_start_32 (by decide +kernel) ?_
        refine lv_icmp_ne (tgt := 40) hx hb dX12_start_33 (by decide +kernel) (fun c_19 => ?_) (fun c_19 => ?_)
        ·
          have n_19 : gNe (p_1.toInt) ((-1)) := g5_ne (a := p_1.toInt) (b := (-1)) rfl (by decide +kernel) c_19
          refine lv_iload_n hx hb dX12_start_40 rfl (lv_at hl 1 rfl) ?_
          obtain ⟨hPc, hDc, hFc⟩ := g5_sub3 (wc := [(b_o, (oc12 0 u_sa b_rf b_ro b_im b_ke u_fd b_tp u_td u_fr u_to u_so u_wo u_fa u_bd u_nc b_nl u_co b_op b_ar u_le b_pi b_pa u_pd u_od b_ws b_hw u_la b_se b_re u_bk u_va u_su u_ce u_ho u_wy u_bt u_ps b_pt u_tg u_sn b_ip u_ic b_ah b_be b_me u_wd b_tr b_ld u_st b_wn u_id)), (b_ro, (arI G 5740 v_ro))]) hP hD hS hA [0, 2] (by decide +kernel) rfl
          refine va_calli (va_runV (As := [.int p_1]) (rest := []) ⟨hx, hb, hml, hown, hts⟩ (n_isWallE l G b_o b_ro b_rf b_im b_ke b_tp b_nl b_op b_ar b_pi b_pa b_ws b_hw b_se b_re b_pt b_ip b_ah b_be b_me b_tr b_ld b_wn H.size 0 u_sa u_fd u_td u_fr u_to u_so u_fa u_bd u_nc u_co u_le u_pd u_od u_la u_bk u_ce u_ho u_wy u_bt u_ps u_tg u_sn u_ic u_wd u_id p_1 u_wo u_va u_su u_st v_ro h_u_td h_u_fr h_u_to h_u_bd h_u_nc h_u_co h_u_pd h_u_la h_u_bk h_u_ce h_u_ho h_u_wy h_u_bt h_u_ps h_u_ic h_u_id ⟨by omega, by omega⟩ (r_ro)) (cwV 1 hts gV_X12_160 rfl rfl rfl hv_X12_isWall ⟨Nat.le_of_ble_eq_true rfl, Nat.le_of_ble_eq_true rfl⟩) (g5_preV hPc hK hDc hN hT hS hFc (ci := 12) (q0 := 0) rfl rfl) rfl rfl hl.1 rfl (lv_room (Nat.le_of_ble_eq_true rfl)) dX12_start_41 ⟨Nat.le_of_ble_eq_true rfl, Nat.le_of_ble_eq_true rfl⟩) hS (fun q _ h => hFc q h) hFc (fun r u t H locs ht hvm hw hB hz1 hk1 hS => ?_)
          obtain ⟨hP1, hD1⟩ := hB
          have hP1 := g5_ht ht hP1
          rcases hw with ⟨(i_20 : wallAt v_ro p_1.toInt), rfl, rfl⟩ | ⟨(i_21 : ¬ wallAt v_ro p_1.toInt), rfl, rfl⟩
          ·
            have hJ9 := va_join (wr := [(b_rf, (arI G 7 v_rf))]) hP hD [0, 2] [1] rfl rfl (by decide +kernel) (by decide +kernel) hk1 hFc hP1 hD1
            clear hP hD hPc hDc hFc ht hvm hz1 hk1 hP1 hD1
            obtain ⟨hP, hD⟩ := hJ9
            refine g5_rs [(b_rf, (arI G 7 v_rf)), (b_o, (oc12 0 u_sa b_rf b_ro b_im b_ke u_fd b_tp u_td u_fr u_to u_so u_wo u_fa u_bd u_nc b_nl u_co b_op b_ar u_le b_pi b_pa u_pd u_od b_ws b_hw u_la b_se b_re u_bk u_va u_su u_ce u_ho u_wy u_bt u_ps b_pt u_tg u_sn b_ip u_ic b_ah b_be b_me u_wd b_tr b_ld u_st b_wn u_id)), (b_ro, (arI G 5740 v_ro))] hP hD ?_
            clear hP hD
            intro hP hD
            refine lv_if_eq (tgt := 56) hx hb dX12_start_44 (by decide +kernel) (fun c_22 => ?_) (fun c_22 => ?_)
            ·
              exact absurd c_22 (by decide +kernel)
            ·
              refine lv_aload_n hx hb dX12_start_47 rfl (lv_at hl 0 rfl) ?_
              refine lv_bipush (v := (-3)) hx hb dX12_start_48 (by decide +kernel) ?_
              obtain ⟨hPc, hDc, hFc⟩ := g5_sub3 (wc := [(b_o, (oc12 0 u_sa b_rf b_ro b_im b_ke u_fd b_tp u_td u_fr u_to u_so u_wo u_fa u_bd u_nc b_nl u_co b_op b_ar u_le b_pi b_pa u_pd u_od b_ws b_hw u_la b_se b_re u_bk u_va u_su u_ce u_ho u_wy u_bt u_ps b_pt u_tg u_sn b_ip u_ic b_ah b_be b_me u_wd b_tr b_ld u_st b_wn u_id)), (b_rf, (arI G 7 v_rf))]) hP hD hS hA [1, 0] (by decide +kernel) rfl
              refine va_calli (va_runV (As := [.int (-3)]) (rest := []) ⟨hx, hb, hml, hown, hts⟩ (n_tell3 l G b_o b_rf b_ro b_im b_ke b_tp b_nl b_op b_ar b_pi b_pa b_ws b_hw b_se b_re b_pt b_ip b_ah b_be b_me b_tr b_ld b_wn H.size 0 u_sa u_fd u_td u_fr u_to u_so u_fa u_bd u_nc u_co u_le u_pd u_od u_la u_bk u_ce u_ho u_wy u_bt u_ps u_tg u_sn u_ic u_wd u_id u_wo u_va u_su u_st v_rf h_u_td h_u_fr h_u_to h_u_bd h_u_nc h_u_co h_u_pd h_u_la h_u_bk h_u_ce h_u_ho h_u_wy h_u_bt h_u_ps h_u_ic h_u_id) (cwV 1 hts gV_X12_125 rfl rfl rfl hv_X12_tell ⟨Nat.le_of_ble_eq_true rfl, Nat.le_of_ble_eq_true rfl⟩) (g5_preV hPc hK hDc hN hT hS hFc (ci := 12) (q0 := 0) rfl rfl) rfl rfl hl.1 rfl (lv_room (Nat.le_of_ble_eq_true rfl)) dX12_start_50 ⟨Nat.le_of_ble_eq_true rfl, Nat.le_of_ble_eq_true rfl⟩) hS (fun q _ h => hFc q h) hFc (fun r u t H locs ht hvm hw hB hz1 hk1 hS => ?_)
              obtain ⟨hP1, hD1⟩ := hB
              have hP1 := g5_ht ht hP1
              obtain ⟨z24, z25, z26, (i_23 : 0 ≤ z25.toInt ∧ z25.toInt ≤ 1), rfl, rfl⟩ := hw
              have hJ9 := va_join (wr := [(b_ro, (arI G 5740 v_ro))]) hP hD [1, 0] [2] rfl rfl (by decide +kernel) (by decide +kernel) hk1 hFc hP1 hD1
              clear hP hD hPc hDc hFc ht hvm hz1 hk1 hP1 hD1
              obtain ⟨hP, hD⟩ := hJ9
              refine g5_rs [(b_ro, (arI G 5740 v_ro)), (b_o, (oc12 0 z24 b_rf b_ro b_im b_ke u_fd b_tp u_td u_fr u_to u_so u_wo u_fa u_bd u_nc b_nl u_co b_op b_ar u_le b_pi b_pa u_pd u_od b_ws b_hw u_la b_se b_re u_bk u_va u_su u_ce u_ho u_wy u_bt u_ps b_pt u_tg u_sn b_ip z25 b_ah b_be b_me u_wd b_tr b_ld u_st b_wn u_id)), (b_rf, (arI G 7 z26))] hP hD ?_
              clear hP hD
              intro hP hD
              refine lv_goto (tgt := 63) hx hb dX12_start_53 (by decide +kernel) ?_
              refine W.eq (g2 := F0 m 63 ls [.int (-3)]) rfl ?_
              exact W.iret (v := (-3)) hx hb hr (fun t ht hW => ⟨⟨(-3), [(b_o, (oc12 0 z24 b_rf b_ro b_im b_ke u_fd b_tp u_td u_fr u_to u_so u_wo u_fa u_bd u_nc b_nl u_co b_op b_ar u_le b_pi b_pa u_pd u_od b_ws b_hw u_la b_se b_re u_bk u_va u_su u_ce u_ho u_wy u_bt u_ps b_pt u_tg u_sn b_ip z25 b_ah b_be b_me u_wd b_tr b_ld u_st b_wn u_id)), (b_rf, (arI G 7 z26)), (b_ro, (arI G 5740 v_ro))], rfl, ⟨(-3), 0, z24, z25, z26, v_ro, r_ro, i_23, (start_3 (f := v_ro) (c := p_1) ⟨by omega, by omega⟩ i_20).1.symm, (start_3 (f := v_ro) (c := p_1) ⟨by omega, by omega⟩ i_20).2.symm, rfl, rfl⟩, by rw [ht]; exact hP.sub [1, 2, 0] rfl, hD.sub [1, 2, 0] (by decide +kernel) rfl⟩, hS.F ht⟩) hS.2.2 dX12_start_63
          ·
            have hJ9 := va_join (wr := [(b_rf, (arI G 7 v_rf))]) hP hD [0, 2] [1] rfl rfl (by decide +kernel) (by decide +kernel) hk1 hFc hP1 hD1
            clear hP hD hPc hDc hFc ht hvm hz1 hk1 hP1 hD1
            obtain ⟨hP, hD⟩ := hJ9
            refine g5_rs [(b_rf, (arI G 7 v_rf)), (b_o, (oc12 0 u_sa b_rf b_ro b_im b_ke u_fd b_tp u_td u_fr u_to u_so u_wo u_fa u_bd u_nc b_nl u_co b_op b_ar u_le b_pi b_pa u_pd u_od b_ws b_hw u_la b_se b_re u_bk u_va u_su u_ce u_ho u_wy u_bt u_ps b_pt u_tg u_sn b_ip u_ic b_ah b_be b_me u_wd b_tr b_ld u_st b_wn u_id)), (b_ro, (arI G 5740 v_ro))] hP hD ?_
            clear hP hD
            intro hP hD
            refine lv_if_eq (tgt := 56) hx hb dX12_start_44 (by decide +kernel) (fun c_27 => ?_) (fun c_27 => ?_)
            ·
              refine lv_aload_n hx hb dX12_start_56 rfl (lv_at hl 0 rfl) ?_
              refine lv_bipush (v := 6) hx hb dX12_start_57 (by decide +kernel) ?_
              refine lv_iload_n hx hb dX12_start_59 rfl (lv_at hl 1 rfl) ?_
              obtain ⟨hPc, hDc, hFc⟩ := g5_sub3 (wc := [(b_o, (oc12 0 u_sa b_rf b_ro b_im b_ke u_fd b_tp u_td u_fr u_to u_so u_wo u_fa u_bd u_nc b_nl u_co b_op b_ar u_le b_pi b_pa u_pd u_od b_ws b_hw u_la b_se b_re u_bk u_va u_su u_ce u_ho u_wy u_bt u_ps b_pt u_tg u_sn b_ip u_ic b_ah b_be b_me u_wd b_tr b_ld u_st b_wn u_id)), (b_ro, (arI G 5740 v_ro))]) hP hD hS hA [1, 2] (by decide +kernel) rfl
              refine va_calli (va_runV (As := [.int 6, .int p_1]) (rest := []) ⟨hx, hb, hml, hown, hts⟩ (n_changeE l G b_o b_ro b_rf b_im b_ke b_tp b_nl b_op b_ar b_pi b_pa b_ws b_hw b_se b_re b_pt b_ip b_ah b_be b_me b_tr b_ld b_wn H.size 0 u_sa u_fd u_td u_fr u_to u_so u_fa u_bd u_nc u_co u_le u_pd u_od u_la u_bk u_ce u_ho u_wy u_bt u_ps u_tg u_sn u_ic u_wd u_id 6 p_1 u_wo u_va u_su u_st v_ro h_u_td h_u_fr h_u_to h_u_bd h_u_nc h_u_co h_u_pd h_u_la h_u_bk h_u_ce h_u_ho h_u_wy h_u_bt h_u_ps h_u_ic h_u_id ⟨by decide, by decide⟩ (r_ro) (mi_upd r_ro (by have zz : (6 : Int32).toNatClampNeg = 6 := (by decide +kernel); unfold rOK; refine ⟨?_, ?_, ?_, ?_, ?_, ?_, ?_, ?_, ?_, ?_, ?_, ?_, ?_, ?_, ?_, ?_, ?_, ?_, ?_, ?_, ?_, ?_, ?_⟩ <;> (intros; omega)) (by have zz : (6 : Int32).toNatClampNeg = 6 := (by decide +kernel); omega) (by have zz : (6 : Int32).toNatClampNeg = 6 := (by decide +kernel); omega) (by have zz : (6 : Int32).toNatClampNeg = 6 := (by decide +kernel); omega) (by have zz : (6 : Int32).toNatClampNeg = 6 := (by decide +kernel); omega) (by have zz : (6 : Int32).toNatClampNeg = 6 := (by decide +kernel); omega))) (cwV 2 hts gV_X12_151 rfl rfl rfl hv_X12_change ⟨Nat.le_of_ble_eq_true rfl, Nat.le_of_ble_eq_true rfl⟩) (g5_preV hPc hK hDc hN hT hS hFc (ci := 12) (q0 := 0) rfl rfl) rfl rfl hl.1 rfl (lv_room (Nat.le_of_ble_eq_true rfl)) dX12_start_60 ⟨Nat.le_of_ble_eq_true rfl, Nat.le_of_ble_eq_true rfl⟩) hS (fun q _ h => hFc q h) hFc (fun r u t H locs ht hvm hw hB hz1 hk1 hS => ?_)
              obtain ⟨hP1, hD1⟩ := hB
              have hP1 := g5_ht ht hP1
              obtain ⟨z32, z33, z34, z35, (i_28 : MI z35), (i_29 : 0 ≤ z34.toInt ∧ z34.toInt ≤ 1), (i_30 : z35 = upd v_ro (6 : Int32).toNatClampNeg p_1), (i_31 : z32 = v_ro (6 : Int32).toNatClampNeg), y36, rfl⟩ := hw
              have hJ9 := va_join (wr := [(b_rf, (arI G 7 v_rf))]) hP hD [1, 2] [0] rfl rfl (by decide +kernel) (by decide +kernel) hk1 hFc hP1 hD1
              clear hP hD hPc hDc hFc ht hvm hz1 hk1 hP1 hD1
              obtain ⟨hP, hD⟩ := hJ9
              refine g5_rs [(b_rf, (arI G 7 v_rf)), (b_o, (oc12 0 z33 b_rf b_ro b_im b_ke u_fd b_tp u_td u_fr u_to u_so u_wo u_fa u_bd u_nc b_nl u_co b_op b_ar u_le b_pi b_pa u_pd u_od b_ws b_hw u_la b_se b_re u_bk u_va u_su u_ce u_ho u_wy u_bt u_ps b_pt u_tg u_sn b_ip z34 b_ah b_be b_me u_wd b_tr b_ld u_st b_wn u_id)), (b_ro, (arI G 5740 z35))] hP hD ?_
              clear hP hD
              intro hP hD
              refine g5_ti (v := z32) y36 ?_
              refine W.eq (g2 := F0 m 63 ls [.int z32]) rfl ?_
              exact W.iret (v := z32) hx hb hr (fun t ht hW => ⟨⟨z32, [(b_o, (oc12 0 z33 b_rf b_ro b_im b_ke u_fd b_tp u_td u_fr u_to u_so u_wo u_fa u_bd u_nc b_nl u_co b_op b_ar u_le b_pi b_pa u_pd u_od b_ws b_hw u_la b_se b_re u_bk u_va u_su u_ce u_ho u_wy u_bt u_ps b_pt u_tg u_sn b_ip z34 b_ah b_be b_me u_wd b_tr b_ld u_st b_wn u_id)), (b_rf, (arI G 7 v_rf)), (b_ro, (arI G 5740 z35))], rfl, ⟨z32, 0, z33, z34, v_rf, z35, i_28, i_29, (i_31.trans (by congr 1)).trans (start_0 (f := v_ro) (c := p_1) ⟨by omega, by omega⟩ i_21).1.symm, (i_30.trans (by congr 1)).trans (start_0 (f := v_ro) (c := p_1) ⟨by omega, by omega⟩ i_21).2.symm, rfl, rfl⟩, by rw [ht]; exact hP.sub [1, 0, 2] rfl, hD.sub [1, 0, 2] (by decide +kernel) rfl⟩, hS.F ht⟩) hS.2.2 dX12_start_63
            ·
              exact absurd c_27 (by decide +kernel)
        ·
          have i_19 : p_1.toInt = (-1) := g5_neN (a := p_1.toInt) (b := (-1)) rfl (by decide +kernel) c_19
          omega
    ·
      exact absurd c_8 (by decide +kernel)
set_option maxHeartbeats 4000000 in
set_option maxRecDepth 100000 in
theorem n_fourE (l : Launch) (G : g5_G) (b_o b_tp b_rf b_ro b_im b_ke b_nl b_op b_ar b_pi b_pa b_ws b_hw b_se b_re b_pt b_ip b_ah b_be b_me b_tr b_ld b_wn : Nat) (sz : Nat) (u_th : Int32) (u_sa : Int32) (u_fd : Int32) (u_td : Int32) (u_fr : Int32) (u_to : Int32) (u_so : Int32) (u_fa : Int32) (u_bd : Int32) (u_nc : Int32) (u_co : Int32) (u_le : Int32) (u_pd : Int32) (u_od : Int32) (u_la : Int32) (u_bk : Int32) (u_ce : Int32) (u_ho : Int32) (u_wy : Int32) (u_bt : Int32) (u_ps : Int32) (u_tg : Int32) (u_sn : Int32) (u_ic : Int32) (u_wd : Int32) (u_id : Int32) (p_1 : Int32) (u_wo : Int64) (u_va : Int64) (u_su : Int64) (u_st : Int64) (v_tp : Nat → Int32) (h_u_td : 0 ≤ u_td.toInt ∧ u_td.toInt ≤ 400) (h_u_fr : 0 ≤ u_fr.toInt ∧ u_fr.toInt ≤ 400) (h_u_to : 0 ≤ u_to.toInt ∧ u_to.toInt ≤ 400) (h_u_bd : 0 ≤ u_bd.toInt ∧ u_bd.toInt ≤ 1) (h_u_nc : 0 ≤ u_nc.toInt ∧ u_nc.toInt ≤ 12) (h_u_co : 0 ≤ u_co.toInt ∧ u_co.toInt ≤ 400) (h_u_pd : 0 ≤ u_pd.toInt ∧ u_pd.toInt ≤ 400) (h_u_la : 0 ≤ u_la.toInt ∧ u_la.toInt ≤ 4840) (h_u_bk : 0 ≤ u_bk.toInt ∧ u_bk.toInt ≤ 1) (h_u_ce : 0 ≤ u_ce.toInt ∧ u_ce.toInt ≤ 63) (h_u_ho : 0 ≤ u_ho.toInt ∧ u_ho.toInt ≤ 23) (h_u_wy : 0 ≤ u_wy.toInt ∧ u_wy.toInt ≤ 3) (h_u_bt : 0 ≤ u_bt.toInt ∧ u_bt.toInt ≤ 1000000) (h_u_ps : 0 ≤ u_ps.toInt ∧ u_ps.toInt ≤ 200) (h_u_ic : 0 ≤ u_ic.toInt ∧ u_ic.toInt ≤ 1) (h_u_id : 0 ≤ u_id.toInt ∧ u_id.toInt ≤ 1) (r_tp : TPI v_tp) (e_tf : u_td.toInt ≤ 396) (e_t0 : 0 ≤ u_td.toInt) : Met l yX12_four (wsG yX12_four cX12_four 3 none) ({ frames := 0, cells := 0, slots := 0, locals := 0 }) (va_Pc [.ref b_o, .int p_1] (g5_P G [(b_o, (oc12 u_th u_sa b_rf b_ro b_im b_ke u_fd b_tp u_td u_fr u_to u_so u_wo u_fa u_bd u_nc b_nl u_co b_op b_ar u_le b_pi b_pa u_pd u_od b_ws b_hw u_la b_se b_re u_bk u_va u_su u_ce u_ho u_wy u_bt u_ps b_pt u_tg u_sn b_ip u_ic b_ah b_be b_me u_wd b_tr b_ld u_st b_wn u_id)), (b_tp, (arI G 400 v_tp))] sz)) (va_Qv (fun (u : va_W) => (∃ (o_td : Int32) (o_tp : Nat → Int32), (TPI o_tp) ∧ (0 ≤ o_td.toInt ∧ o_td.toInt ≤ 400) ∧ (o_td.toInt = u_td.toInt + 4) ∧ (o_tp = wr4 v_tp u_td.toInt.toNat p_1 4) ∧ (u = [(b_o, (oc12 u_th u_sa b_rf b_ro b_im b_ke u_fd b_tp o_td u_fr u_to u_so u_wo u_fa u_bd u_nc b_nl u_co b_op b_ar u_le b_pi b_pa u_pd u_od b_ws b_hw u_la b_se b_re u_bk u_va u_su u_ce u_ho u_wy u_bt u_ps b_pt u_tg u_sn b_ip u_ic b_ah b_be b_me u_wd b_tr b_ld u_st b_wn u_id)), (b_tp, (arI G 400 o_tp))]))) (g5_B G (va_A [(b_o, (oc12 u_th u_sa b_rf b_ro b_im b_ke u_fd b_tp u_td u_fr u_to u_so u_wo u_fa u_bd u_nc b_nl u_co b_op b_ar u_le b_pi b_pa u_pd u_od b_ws b_hw u_la b_se b_re u_bk u_va u_su u_ce u_ho u_wy u_bt u_ps b_pt u_tg u_sn b_ip u_ic b_ah b_be b_me u_wd b_tr b_ld u_st b_wn u_id)), (b_tp, (arI G 400 v_tp))] sz)) (va_A [(b_o, (oc12 u_th u_sa b_rf b_ro b_im b_ke u_fd b_tp u_td u_fr u_to u_so u_wo u_fa u_bd u_nc b_nl u_co b_op b_ar u_le b_pi b_pa u_pd u_od b_ws b_hw u_la b_se b_re u_bk u_va u_su u_ce u_ho u_wy u_bt u_ps b_pt u_tg u_sn b_ip u_ic b_ah b_be b_me u_wd b_tr b_ld u_st b_wn u_id)), (b_tp, (arI G 400 v_tp))] sz)) 0 0 (va_A [(b_o, (oc12 u_th u_sa b_rf b_ro b_im b_ke u_fd b_tp u_td u_fr u_to u_so u_wo u_fa u_bd u_nc b_nl u_co b_op b_ar u_le b_pi b_pa u_pd u_od b_ws b_hw u_la b_se b_re u_bk u_va u_su u_ce u_ho u_wy u_bt u_ps b_pt u_tg u_sn b_ip u_ic b_ah b_be b_me u_wd b_tr b_ld u_st b_wn u_id)), (b_tp, (arI G 400 v_tp))] sz) := by
  refine Met.ofW (cc := cX12_four) (maxL := 3) (ret := none) (by decide +kernel) rfl ?_
  intro p e s m args below meth c s₁ B hml hv
  obtain ⟨rfl, hsz, hP, hK, hD0, hN, hT⟩ := hv
  have hx := B.exec
  have hb := B.bytes
  have hr := B.returns
  have hts : ∀ w ∈ tblG, w.before _ s = true := fun w h => atoms_spec (ws := (wsG yX12_four cX12_four 3 none)) B.pre w (List.mem_cons_of_mem _ h)
  have hown : s.vm.findClass RX12 = some m.cls := findClass_of_methodNamed B.named
  have hlocks := B.notSynchronized
  subst hsz
  have hD := hD0.self (sz := s.heap.size)
  generalize hAe : va_A [(b_o, (oc12 u_th u_sa b_rf b_ro b_im b_ke u_fd b_tp u_td u_fr u_to u_so u_wo u_fa u_bd u_nc b_nl u_co b_op b_ar u_le b_pi b_pa u_pd u_od b_ws b_hw u_la b_se b_re u_bk u_va u_su u_ce u_ho u_wy u_bt u_ps b_pt u_tg u_sn b_ip u_ic b_ah b_be b_me u_wd b_tr b_ld u_st b_wn u_id)), (b_tp, (arI G 400 v_tp))] s.heap.size = A at hD hT ⊢
  have hA : ∀ q : Nat, s.heap.size ≤ q → A q := fun q h => by rw [← hAe]; exact Or.inr h
  have hS : va_S A s.heap s.heap [] := va_S.rf
  replace hP : va_P G.1 vwCl [(b_o, (oc12 u_th u_sa b_rf b_ro b_im b_ke u_fd b_tp u_td u_fr u_to u_so u_wo u_fa u_bd u_nc b_nl u_co b_op b_ar u_le b_pi b_pa u_pd u_od b_ws b_hw u_la b_se b_re u_bk u_va u_su u_ce u_ho u_wy u_bt u_ps b_pt u_tg u_sn b_ip u_ic b_ah b_be b_me u_wd b_tr b_ld u_st b_wn u_id)), (b_tp, (arI G 400 v_tp))] s.heap := hP
  have hl := lv_entry ([.ref b_o, .int p_1]) (n := 3) (Nat.le_of_ble_eq_true rfl)
  rw [lg_entry_eq]
  generalize (lg_sl ([.ref b_o, .int p_1]) ++ List.replicate (3 - (lg_sl ([.ref b_o, .int p_1])).length) Slot.unset).toArray = ls at hl ⊢
  replace hl : lv_has ls 3 [(0, .ref b_o), (1, .int p_1)] := hl
  refine lv_bipush (v := 24) hx hb dX12_four_0 (by decide +kernel) ?_
  refine lv_istore_n (lv' := [(2, .int 24), (0, .ref b_o), (1, .int p_1)]) hx hb dX12_four_2 rfl hl (by decide +kernel) rfl ?_
  clear hl
  intro ls hl
  refine g5_loop (α := (Int32) × (Int32) × (Nat → Int32)) (fun (q : (Int32) × (Int32) × (Nat → Int32)) (ls : Array Slot) (H : Heap) (locs : List Loc) => match q with | (k3_2, k3_td, k3_tp) => lv_has ls 3 [(2, .int k3_2), (0, .ref b_o), (1, .int p_1)] ∧ va_P G.1 vwCl [(b_o, (oc12 u_th u_sa b_rf b_ro b_im b_ke u_fd b_tp k3_td u_fr u_to u_so u_wo u_fa u_bd u_nc b_nl u_co b_op b_ar u_le b_pi b_pa u_pd u_od b_ws b_hw u_la b_se b_re u_bk u_va u_su u_ce u_ho u_wy u_bt u_ps b_pt u_tg u_sn b_ip u_ic b_ah b_be b_me u_wd b_tr b_ld u_st b_wn u_id)), (b_tp, (arI G 400 k3_tp))] H ∧ va_D A [(b_o, (oc12 u_th u_sa b_rf b_ro b_im b_ke u_fd b_tp k3_td u_fr u_to u_so u_wo u_fa u_bd u_nc b_nl u_co b_op b_ar u_le b_pi b_pa u_pd u_od b_ws b_hw u_la b_se b_re u_bk u_va u_su u_ce u_ho u_wy u_bt u_ps b_pt u_tg u_sn b_ip u_ic b_ah b_be b_me u_wd b_tr b_ld u_st b_wn u_id)), (b_tp, (arI G 400 k3_tp))] ∧ va_S A s.heap H locs ∧ ((-8) ≤ k3_2.toInt ∧ k3_2.toInt ≤ 24) ∧ (0 ≤ k3_td.toInt ∧ k3_td.toInt ≤ 400) ∧ (TPI k3_tp) ∧ (8 * (k3_td.toInt - u_td.toInt) = 24 - k3_2.toInt) ∧ (k3_tp = wr4 v_tp u_td.toInt.toNat p_1 (k3_td.toInt - u_td.toInt).toNat)) (fun (q : (Int32) × (Int32) × (Nat → Int32)) => match q with | (k3_2, k3_td, k3_tp) => Int.toNat (k3_2.toInt + 8)) (24, u_td, v_tp) ⟨lv_sub hl [0, 1, 2] rfl, hP, hD, hS, ⟨by decide, by decide⟩, h_u_td, r_tp, by have z24 : (24 : Int32).toInt = 24 := (by decide +kernel); omega, by rw [Int.sub_self]; exact rfl⟩ ?_
  rintro ⟨k3_2, k3_td, k3_tp⟩ ls H locs ⟨hl, hP, hD, hS, (i_1 : (-8) ≤ k3_2.toInt ∧ k3_2.toInt ≤ 24), (i_2 : 0 ≤ k3_td.toInt ∧ k3_td.toInt ≤ 400), (i_3 : TPI k3_tp), (i_4 : 8 * (k3_td.toInt - u_td.toInt) = 24 - k3_2.toInt), (i_5 : k3_tp = wr4 v_tp u_td.toInt.toNat p_1 (k3_td.toInt - u_td.toInt).toNat)⟩ ih_3_6
  replace hl : lv_has ls 3 [(2, .int k3_2), (0, .ref b_o), (1, .int p_1)] := hl
  refine g5_rs [(b_o, (oc12 u_th u_sa b_rf b_ro b_im b_ke u_fd b_tp k3_td u_fr u_to u_so u_wo u_fa u_bd u_nc b_nl u_co b_op b_ar u_le b_pi b_pa u_pd u_od b_ws b_hw u_la b_se b_re u_bk u_va u_su u_ce u_ho u_wy u_bt u_ps b_pt u_tg u_sn b_ip u_ic b_ah b_be b_me u_wd b_tr b_ld u_st b_wn u_id)), (b_tp, (arI G 400 k3_tp))] hP hD ?_
  clear hP hD
  intro hP hD
  refine lv_iload_n hx hb dX12_four_3 rfl (lv_at hl 0 rfl) ?_
  refine lv_if_lt (tgt := 39) hx hb dX12_four_4 (by decide +kernel) (fun c_7 => ?_) (fun c_7 => ?_)
  ·
    have i_7 : k3_2.toInt < 0 := g5_lt (a := k3_2.toInt) (b := 0) rfl (by decide +kernel) c_7
    exact W.vret hx hb hr (fun t ht hW => ⟨⟨[(b_o, (oc12 u_th u_sa b_rf b_ro b_im b_ke u_fd b_tp k3_td u_fr u_to u_so u_wo u_fa u_bd u_nc b_nl u_co b_op b_ar u_le b_pi b_pa u_pd u_od b_ws b_hw u_la b_se b_re u_bk u_va u_su u_ce u_ho u_wy u_bt u_ps b_pt u_tg u_sn b_ip u_ic b_ah b_be b_me u_wd b_tr b_ld u_st b_wn u_id)), (b_tp, (arI G 400 k3_tp))], rfl, ⟨k3_td, k3_tp, i_3, i_2, by omega, by rw [i_5, show (k3_td.toInt - u_td.toInt).toNat = 4 by omega], rfl⟩, by rw [ht]; exact hP.sub [0, 1] rfl, hD.sub [0, 1] (by decide +kernel) rfl⟩, hS.F ht⟩) hS.2.2 dX12_four_39
  ·
    have i_7 : k3_2.toInt ≥ 0 := g5_ltN (a := k3_2.toInt) (b := 0) rfl (by decide +kernel) c_7
    refine lv_aload_n hx hb dX12_four_7 rfl (lv_at hl 1 rfl) ?_
    refine va_get (D := G.1) (ci := 12) (v := .ref b_tp) (C := RX12) (T := TX12) (N := 52) hx hb hts inG_X12 hown hK hP 0 rfl rfl 7 (by decide +kernel) (hts _ fl_X12_23) (fun _ h9 => h9) rfl dX12_four_8 ?_
    refine lv_aload_n hx hb dX12_four_11 rfl (lv_at hl 1 rfl) ?_
    refine va_get (D := G.1) (ci := 12) (v := .int k3_td) (C := RX12) (T := TX12) (N := 52) hx hb hts inG_X12 hown hK hP 0 rfl rfl 8 (by decide +kernel) (hts _ fl_X12_192) (fun _ h9 => h9) rfl dX12_four_12 ?_
    refine W.eq (g2 := F0 m 15 ls [.int k3_td, .ref b_tp]) rfl ?_
    refine lv_iload_n hx hb dX12_four_15 rfl (lv_at hl 2 rfl) ?_
    refine lv_iload_n hx hb dX12_four_16 rfl (lv_at hl 0 rfl) ?_
    refine lv_ishr hx hb dX12_four_17 ?_
    refine lv_sipush (v := 255) hx hb dX12_four_18 (by decide +kernel) ?_
    refine lv_iand hx hb dX12_four_21 ?_
    refine W.eq (g2 := F0 m 22 ls [.int ((p_1 >>> (k3_2 &&& 31)) &&& 255), .int k3_td, .ref b_tp]) rfl ?_
    refine va_iast hx hb hK hP hD hS 1 0 rfl rfl (i := k3_td) (x := ((p_1 >>> (k3_2 &&& 31)) &&& 255)) (vp_in_iff.mpr ⟨by omega, by omega⟩) dX12_four_22 ?_
    clear hP hD hS
    intro H locs hP hD hS
    refine g5_rs [(b_o, (oc12 u_th u_sa b_rf b_ro b_im b_ke u_fd b_tp k3_td u_fr u_to u_so u_wo u_fa u_bd u_nc b_nl u_co b_op b_ar u_le b_pi b_pa u_pd u_od b_ws b_hw u_la b_se b_re u_bk u_va u_su u_ce u_ho u_wy u_bt u_ps b_pt u_tg u_sn b_ip u_ic b_ah b_be b_me u_wd b_tr b_ld u_st b_wn u_id)), (b_tp, (arI G 400 (upd k3_tp k3_td.toNatClampNeg ((p_1 >>> (k3_2 &&& 31)) &&& 255))))] hP hD ?_
    clear hP hD
    intro hP hD
    refine lv_aload_n hx hb dX12_four_23 rfl (lv_at hl 1 rfl) ?_
    refine lv_dup hx hb dX12_four_24 rfl ?_
    refine va_get (D := G.1) (ci := 12) (v := .int k3_td) (C := RX12) (T := TX12) (N := 52) hx hb hts inG_X12 hown hK hP 0 rfl rfl 8 (by decide +kernel) (hts _ fl_X12_192) (fun _ h9 => h9) rfl dX12_four_25 ?_
    refine lv_iconst (v := 1) hx hb dX12_four_28 (by decide +kernel) ?_
    refine W.eq (g2 := F0 m 29 ls [.int 1, .int k3_td, .ref b_o]) rfl ?_
    refine lv_iadd hx hb dX12_four_29 ?_
    have t_8 : (k3_td + 1).toInt = k3_td.toInt + 1 := g5_iadd (a := k3_td.toInt) (b := 1) (by rfl) (by decide +kernel) (by omega) (by omega)
    refine va_put (D := G.1) (ci := 12) (v := .int (k3_td + 1)) (ty := .int) (C := RX12) (T := TX12) (N := 52) hx hb hts inG_X12 tyX12 tyX12_ok nmX12 hown hK hP hD hS 0 rfl rfl 8 (by decide +kernel) (hts _ fl_X12_192) (fun _ h9 => h9) rfl (by decide +kernel) rfl rfl (Nat.le_of_ble_eq_true rfl) dX12_four_30 ?_
    clear hP hD hS
    intro H locs hP hD hS
    refine g5_rs [(b_o, (oc12 u_th u_sa b_rf b_ro b_im b_ke u_fd b_tp (k3_td + 1) u_fr u_to u_so u_wo u_fa u_bd u_nc b_nl u_co b_op b_ar u_le b_pi b_pa u_pd u_od b_ws b_hw u_la b_se b_re u_bk u_va u_su u_ce u_ho u_wy u_bt u_ps b_pt u_tg u_sn b_ip u_ic b_ah b_be b_me u_wd b_tr b_ld u_st b_wn u_id)), (b_tp, (arI G 400 (upd k3_tp k3_td.toNatClampNeg ((p_1 >>> (k3_2 &&& 31)) &&& 255))))] hP hD ?_
    clear hP hD
    intro hP hD
    obtain ⟨y9, hy_9, t_9⟩ := g_incN k3_2 (-8) (by decide +kernel) (by omega) (by omega)
    have t_9 : y9.toInt = k3_2.toInt + (-8) := t_9
    refine lv_iinc (v := y9) (lv' := [(2, .int y9), (0, .ref b_o), (1, .int p_1)]) hx hb dX12_four_33 hl (k := 0) rfl hy_9 (by decide +kernel) rfl ?_
    clear hl
    intro ls hl
    refine lv_goto (tgt := 3) hx hb dX12_four_36 (by decide +kernel) ?_
    exact ih_3_6 (y9, (k3_td + 1), (upd k3_tp k3_td.toNatClampNeg ((p_1 >>> (k3_2 &&& 31)) &&& 255))) ls H locs (show Int.toNat (y9.toInt + 8) < Int.toNat (k3_2.toInt + 8) by omega) ⟨lv_sub hl [0, 1, 2] rfl, hP, hD, hS, ⟨by omega, by omega⟩, ⟨by omega, by omega⟩, tp_upd i_3 (g_a255 _), by omega, by rw [show ((k3_td + 1).toInt - u_td.toInt).toNat = (k3_td.toInt - u_td.toInt).toNat + 1 by omega]; exact wr_S i_5 (by have zz := g5_clamp k3_td; omega) (byte_s p_1 _ (by omega) (by omega))⟩
set_option maxHeartbeats 4000000 in
set_option maxRecDepth 100000 in
theorem n_feedE (l : Launch) (G : g5_G) (b_o b_tp b_rf b_ro b_im b_ke b_nl b_op b_ar b_pi b_pa b_ws b_hw b_se b_re b_pt b_ip b_ah b_be b_me b_tr b_ld b_wn : Nat) (sz : Nat) (u_th : Int32) (u_sa : Int32) (u_fd : Int32) (u_td : Int32) (u_fr : Int32) (u_to : Int32) (u_so : Int32) (u_fa : Int32) (u_bd : Int32) (u_nc : Int32) (u_co : Int32) (u_le : Int32) (u_pd : Int32) (u_od : Int32) (u_la : Int32) (u_bk : Int32) (u_ce : Int32) (u_ho : Int32) (u_wy : Int32) (u_bt : Int32) (u_ps : Int32) (u_tg : Int32) (u_sn : Int32) (u_ic : Int32) (u_wd : Int32) (u_id : Int32) (p_1 : Int32) (p_2 : Int32) (p_3 : Int32) (p_4 : Int32) (p_5 : Int32) (u_wo : Int64) (u_va : Int64) (u_su : Int64) (u_st : Int64) (v_tp : Nat → Int32) (h_u_td : 0 ≤ u_td.toInt ∧ u_td.toInt ≤ 400) (h_u_fr : 0 ≤ u_fr.toInt ∧ u_fr.toInt ≤ 400) (h_u_to : 0 ≤ u_to.toInt ∧ u_to.toInt ≤ 400) (h_u_bd : 0 ≤ u_bd.toInt ∧ u_bd.toInt ≤ 1) (h_u_nc : 0 ≤ u_nc.toInt ∧ u_nc.toInt ≤ 12) (h_u_co : 0 ≤ u_co.toInt ∧ u_co.toInt ≤ 400) (h_u_pd : 0 ≤ u_pd.toInt ∧ u_pd.toInt ≤ 400) (h_u_la : 0 ≤ u_la.toInt ∧ u_la.toInt ≤ 4840) (h_u_bk : 0 ≤ u_bk.toInt ∧ u_bk.toInt ≤ 1) (h_u_ce : 0 ≤ u_ce.toInt ∧ u_ce.toInt ≤ 63) (h_u_ho : 0 ≤ u_ho.toInt ∧ u_ho.toInt ≤ 23) (h_u_wy : 0 ≤ u_wy.toInt ∧ u_wy.toInt ≤ 3) (h_u_bt : 0 ≤ u_bt.toInt ∧ u_bt.toInt ≤ 1000000) (h_u_ps : 0 ≤ u_ps.toInt ∧ u_ps.toInt ≤ 200) (h_u_ic : 0 ≤ u_ic.toInt ∧ u_ic.toInt ≤ 1) (h_u_id : 0 ≤ u_id.toInt ∧ u_id.toInt ≤ 1) (r_tp : TPI v_tp) : Met l yX12_feed (wsG yX12_feed cX12_feed 6 (some .int)) ({ frames := 1, cells := 0, slots := 0, locals := 22 }) (va_Pc [.ref b_o, .int p_1, .int p_2, .int p_3, .int p_4, .int p_5] (g5_P G [(b_o, (oc12 u_th u_sa b_rf b_ro b_im b_ke u_fd b_tp u_td u_fr u_to u_so u_wo u_fa u_bd u_nc b_nl u_co b_op b_ar u_le b_pi b_pa u_pd u_od b_ws b_hw u_la b_se b_re u_bk u_va u_su u_ce u_ho u_wy u_bt u_ps b_pt u_tg u_sn b_ip u_ic b_ah b_be b_me u_wd b_tr b_ld u_st b_wn u_id)), (b_tp, (arI G 400 v_tp))] sz)) (va_Qi (fun (r : Int32) (u : va_W) => (∃ (o_r : Int32) (o_th : Int32) (o_td : Int32) (o_tp : Nat → Int32), (TPI o_tp) ∧ (0 ≤ o_td.toInt ∧ o_td.toInt ≤ 400) ∧ (o_tp = sfeedT v_tp u_td p_1 p_2 p_3 p_4 p_5) ∧ (o_td = sfeedN u_td) ∧ (o_r = afeed u_td) ∧ (r = o_r) ∧ (u = [(b_o, (oc12 o_th u_sa b_rf b_ro b_im b_ke u_fd b_tp o_td u_fr u_to u_so u_wo u_fa u_bd u_nc b_nl u_co b_op b_ar u_le b_pi b_pa u_pd u_od b_ws b_hw u_la b_se b_re u_bk u_va u_su u_ce u_ho u_wy u_bt u_ps b_pt u_tg u_sn b_ip u_ic b_ah b_be b_me u_wd b_tr b_ld u_st b_wn u_id)), (b_tp, (arI G 400 o_tp))]))) (g5_B G (va_A [(b_o, (oc12 u_th u_sa b_rf b_ro b_im b_ke u_fd b_tp u_td u_fr u_to u_so u_wo u_fa u_bd u_nc b_nl u_co b_op b_ar u_le b_pi b_pa u_pd u_od b_ws b_hw u_la b_se b_re u_bk u_va u_su u_ce u_ho u_wy u_bt u_ps b_pt u_tg u_sn b_ip u_ic b_ah b_be b_me u_wd b_tr b_ld u_st b_wn u_id)), (b_tp, (arI G 400 v_tp))] sz)) (va_A [(b_o, (oc12 u_th u_sa b_rf b_ro b_im b_ke u_fd b_tp u_td u_fr u_to u_so u_wo u_fa u_bd u_nc b_nl u_co b_op b_ar u_le b_pi b_pa u_pd u_od b_ws b_hw u_la b_se b_re u_bk u_va u_su u_ce u_ho u_wy u_bt u_ps b_pt u_tg u_sn b_ip u_ic b_ah b_be b_me u_wd b_tr b_ld u_st b_wn u_id)), (b_tp, (arI G 400 v_tp))] sz)) 0 0 (va_A [(b_o, (oc12 u_th u_sa b_rf b_ro b_im b_ke u_fd b_tp u_td u_fr u_to u_so u_wo u_fa u_bd u_nc b_nl u_co b_op b_ar u_le b_pi b_pa u_pd u_od b_ws b_hw u_la b_se b_re u_bk u_va u_su u_ce u_ho u_wy u_bt u_ps b_pt u_tg u_sn b_ip u_ic b_ah b_be b_me u_wd b_tr b_ld u_st b_wn u_id)), (b_tp, (arI G 400 v_tp))] sz) := by
  refine Met.ofW (cc := cX12_feed) (maxL := 6) (ret := (some .int)) (by decide +kernel) rfl ?_
  intro p e s m args below meth c s₁ B hml hv
  obtain ⟨rfl, hsz, hP, hK, hD0, hN, hT⟩ := hv
  have hx := B.exec
  have hb := B.bytes
  have hr := B.returns
  have hts : ∀ w ∈ tblG, w.before _ s = true := fun w h => atoms_spec (ws := (wsG yX12_feed cX12_feed 6 (some .int))) B.pre w (List.mem_cons_of_mem _ h)
  have hown : s.vm.findClass RX12 = some m.cls := findClass_of_methodNamed B.named
  have hlocks := B.notSynchronized
  subst hsz
  have hD := hD0.self (sz := s.heap.size)
  generalize hAe : va_A [(b_o, (oc12 u_th u_sa b_rf b_ro b_im b_ke u_fd b_tp u_td u_fr u_to u_so u_wo u_fa u_bd u_nc b_nl u_co b_op b_ar u_le b_pi b_pa u_pd u_od b_ws b_hw u_la b_se b_re u_bk u_va u_su u_ce u_ho u_wy u_bt u_ps b_pt u_tg u_sn b_ip u_ic b_ah b_be b_me u_wd b_tr b_ld u_st b_wn u_id)), (b_tp, (arI G 400 v_tp))] s.heap.size = A at hD hT ⊢
  have hA : ∀ q : Nat, s.heap.size ≤ q → A q := fun q h => by rw [← hAe]; exact Or.inr h
  have hS : va_S A s.heap s.heap [] := va_S.rf
  replace hP : va_P G.1 vwCl [(b_o, (oc12 u_th u_sa b_rf b_ro b_im b_ke u_fd b_tp u_td u_fr u_to u_so u_wo u_fa u_bd u_nc b_nl u_co b_op b_ar u_le b_pi b_pa u_pd u_od b_ws b_hw u_la b_se b_re u_bk u_va u_su u_ce u_ho u_wy u_bt u_ps b_pt u_tg u_sn b_ip u_ic b_ah b_be b_me u_wd b_tr b_ld u_st b_wn u_id)), (b_tp, (arI G 400 v_tp))] s.heap := hP
  have hl := lv_entry ([.ref b_o, .int p_1, .int p_2, .int p_3, .int p_4, .int p_5]) (n := 6) (Nat.le_of_ble_eq_true rfl)
  rw [lg_entry_eq]
  generalize (lg_sl ([.ref b_o, .int p_1, .int p_2, .int p_3, .int p_4, .int p_5]) ++ List.replicate (6 - (lg_sl ([.ref b_o, .int p_1, .int p_2, .int p_3, .int p_4, .int p_5])).length) Slot.unset).toArray = ls at hl ⊢
  replace hl : lv_has ls 6 [(0, .ref b_o), (1, .int p_1), (2, .int p_2), (3, .int p_3), (4, .int p_4), (5, .int p_5)] := hl
  refine lv_aload_n hx hb dX12_feed_0 rfl (lv_at hl 0 rfl) ?_
  refine lv_iconst (v := 0) hx hb dX12_feed_1 (by decide +kernel) ?_
  refine va_put (D := G.1) (ci := 12) (v := .int 0) (ty := .int) (C := RX12) (T := TX12) (N := 52) hx hb hts inG_X12 tyX12 tyX12_ok nmX12 hown hK hP hD hS 0 rfl rfl 0 (by decide +kernel) (hts _ fl_X12_107) (fun _ h9 => h9) rfl (by decide +kernel) rfl rfl (Nat.le_of_ble_eq_true rfl) dX12_feed_2 ?_
  clear hP hD hS
  intro H locs hP hD hS
  refine g5_rs [(b_o, (oc12 0 u_sa b_rf b_ro b_im b_ke u_fd b_tp u_td u_fr u_to u_so u_wo u_fa u_bd u_nc b_nl u_co b_op b_ar u_le b_pi b_pa u_pd u_od b_ws b_hw u_la b_se b_re u_bk u_va u_su u_ce u_ho u_wy u_bt u_ps b_pt u_tg u_sn b_ip u_ic b_ah b_be b_me u_wd b_tr b_ld u_st b_wn u_id)), (b_tp, (arI G 400 v_tp))] hP hD ?_
  clear hP hD
  intro hP hD
  refine lv_aload_n hx hb dX12_feed_5 rfl (lv_at hl 0 rfl) ?_
  refine W.eq (g2 := F0 m 6 ls [.ref b_o]) rfl ?_
  refine va_get (D := G.1) (ci := 12) (v := .int u_td) (C := RX12) (T := TX12) (N := 52) hx hb hts inG_X12 hown hK hP 0 rfl rfl 8 (by decide +kernel) (hts _ fl_X12_192) (fun _ h9 => h9) rfl dX12_feed_6 ?_
  refine lv_bipush (v := 20) hx hb dX12_feed_9 (by decide +kernel) ?_
  refine lv_iadd hx hb dX12_feed_11 ?_
  have t_1 : (u_td + 20).toInt = u_td.toInt + 20 := g5_iadd (a := u_td.toInt) (b := 20) (by rfl) (by decide +kernel) (by omega) (by omega)
  refine lv_sipush (v := 400) hx hb dX12_feed_12 (by decide +kernel) ?_
  refine lv_icmp_le (tgt := 20) hx hb dX12_feed_15 (by decide +kernel) (fun c_2 => ?_) (fun c_2 => ?_)
  ·
    have i_2 : (u_td.toInt + 20) ≤ 400 := by have z := g5_le (a := (u_td + 20).toInt) (b := 400) (by rfl) (by decide +kernel) c_2; omega
    refine lv_aload_n hx hb dX12_feed_20 rfl (lv_at hl 0 rfl) ?_
    refine lv_iload_n hx hb dX12_feed_21 rfl (lv_at hl 1 rfl) ?_
    obtain ⟨hPc, hDc, hFc⟩ := g5_sub3 (wc := [(b_o, (oc12 0 u_sa b_rf b_ro b_im b_ke u_fd b_tp u_td u_fr u_to u_so u_wo u_fa u_bd u_nc b_nl u_co b_op b_ar u_le b_pi b_pa u_pd u_od b_ws b_hw u_la b_se b_re u_bk u_va u_su u_ce u_ho u_wy u_bt u_ps b_pt u_tg u_sn b_ip u_ic b_ah b_be b_me u_wd b_tr b_ld u_st b_wn u_id)), (b_tp, (arI G 400 v_tp))]) hP hD hS hA [0, 1] (by decide +kernel) rfl
    refine va_callv (va_runV (As := [.int p_1]) (rest := []) ⟨hx, hb, hml, hown, hts⟩ (n_fourE l G b_o b_tp b_rf b_ro b_im b_ke b_nl b_op b_ar b_pi b_pa b_ws b_hw b_se b_re b_pt b_ip b_ah b_be b_me b_tr b_ld b_wn H.size 0 u_sa u_fd u_td u_fr u_to u_so u_fa u_bd u_nc u_co u_le u_pd u_od u_la u_bk u_ce u_ho u_wy u_bt u_ps u_tg u_sn u_ic u_wd u_id p_1 u_wo u_va u_su u_st v_tp h_u_td h_u_fr h_u_to h_u_bd h_u_nc h_u_co h_u_pd h_u_la h_u_bk h_u_ce h_u_ho h_u_wy h_u_bt h_u_ps h_u_ic h_u_id (r_tp) (by omega) (by omega)) (cwV 1 hts gV_X12_198 rfl rfl rfl hv_X12_four ⟨Nat.le_of_ble_eq_true rfl, Nat.le_of_ble_eq_true rfl⟩) (g5_preV hPc hK hDc hN hT hS hFc (ci := 12) (q0 := 0) rfl rfl) rfl rfl hl.1 rfl (lv_room (Nat.le_of_ble_eq_true rfl)) dX12_feed_22 ⟨Nat.le_of_ble_eq_true rfl, Nat.le_of_ble_eq_true rfl⟩) hS (fun q _ h => hFc q h) hFc (fun u t H locs ht hvm hw hB hz1 hk1 hS => ?_)
    obtain ⟨hP1, hD1⟩ := hB
    have hP1 := g5_ht ht hP1
    obtain ⟨z7, z8, (i_3 : TPI z8), (i_4 : 0 ≤ z7.toInt ∧ z7.toInt ≤ 400), (i_5 : z7.toInt = u_td.toInt + 4), (i_6 : z8 = wr4 v_tp u_td.toInt.toNat p_1 4), rfl⟩ := hw
    have hJ9 := va_join (wr := []) hP hD [0, 1] [] rfl rfl (by decide +kernel) (by decide +kernel) hk1 hFc hP1 hD1
    clear hP hD hPc hDc hFc ht hvm hz1 hk1 hP1 hD1
    obtain ⟨hP, hD⟩ := hJ9
    refine g5_rs [(b_o, (oc12 0 u_sa b_rf b_ro b_im b_ke u_fd b_tp z7 u_fr u_to u_so u_wo u_fa u_bd u_nc b_nl u_co b_op b_ar u_le b_pi b_pa u_pd u_od b_ws b_hw u_la b_se b_re u_bk u_va u_su u_ce u_ho u_wy u_bt u_ps b_pt u_tg u_sn b_ip u_ic b_ah b_be b_me u_wd b_tr b_ld u_st b_wn u_id)), (b_tp, (arI G 400 z8))] hP hD ?_
    clear hP hD
    intro hP hD
    refine lv_aload_n hx hb dX12_feed_25 rfl (lv_at hl 0 rfl) ?_
    refine W.eq (g2 := F0 m 26 ls [.ref b_o]) rfl ?_
    refine lv_iload_n hx hb dX12_feed_26 rfl (lv_at hl 2 rfl) ?_
    obtain ⟨hPc, hDc, hFc⟩ := g5_sub3 (wc := [(b_o, (oc12 0 u_sa b_rf b_ro b_im b_ke u_fd b_tp z7 u_fr u_to u_so u_wo u_fa u_bd u_nc b_nl u_co b_op b_ar u_le b_pi b_pa u_pd u_od b_ws b_hw u_la b_se b_re u_bk u_va u_su u_ce u_ho u_wy u_bt u_ps b_pt u_tg u_sn b_ip u_ic b_ah b_be b_me u_wd b_tr b_ld u_st b_wn u_id)), (b_tp, (arI G 400 z8))]) hP hD hS hA [0, 1] (by decide +kernel) rfl
    refine va_callv (va_runV (As := [.int p_2]) (rest := []) ⟨hx, hb, hml, hown, hts⟩ (n_fourE l G b_o b_tp b_rf b_ro b_im b_ke b_nl b_op b_ar b_pi b_pa b_ws b_hw b_se b_re b_pt b_ip b_ah b_be b_me b_tr b_ld b_wn H.size 0 u_sa u_fd z7 u_fr u_to u_so u_fa u_bd u_nc u_co u_le u_pd u_od u_la u_bk u_ce u_ho u_wy u_bt u_ps u_tg u_sn u_ic u_wd u_id p_2 u_wo u_va u_su u_st z8 i_4 h_u_fr h_u_to h_u_bd h_u_nc h_u_co h_u_pd h_u_la h_u_bk h_u_ce h_u_ho h_u_wy h_u_bt h_u_ps h_u_ic h_u_id (i_3) (by omega) (by omega)) (cwV 1 hts gV_X12_198 rfl rfl rfl hv_X12_four ⟨Nat.le_of_ble_eq_true rfl, Nat.le_of_ble_eq_true rfl⟩) (g5_preV hPc hK hDc hN hT hS hFc (ci := 12) (q0 := 0) rfl rfl) rfl rfl hl.1 rfl (lv_room (Nat.le_of_ble_eq_true rfl)) dX12_feed_27 ⟨Nat.le_of_ble_eq_true rfl, Nat.le_of_ble_eq_true rfl⟩) hS (fun q _ h => hFc q h) hFc (fun u t H locs ht hvm hw hB hz1 hk1 hS => ?_)
    obtain ⟨hP1, hD1⟩ := hB
    have hP1 := g5_ht ht hP1
    obtain ⟨z13, z14, (i_9 : TPI z14), (i_10 : 0 ≤ z13.toInt ∧ z13.toInt ≤ 400), (i_11 : z13.toInt = z7.toInt + 4), (i_12 : z14 = wr4 z8 z7.toInt.toNat p_2 4), rfl⟩ := hw
    have hJ9 := va_join (wr := []) hP hD [0, 1] [] rfl rfl (by decide +kernel) (by decide +kernel) hk1 hFc hP1 hD1
    clear hP hD hPc hDc hFc ht hvm hz1 hk1 hP1 hD1
    obtain ⟨hP, hD⟩ := hJ9
    refine g5_rs [(b_o, (oc12 0 u_sa b_rf b_ro b_im b_ke u_fd b_tp z13 u_fr u_to u_so u_wo u_fa u_bd u_nc b_nl u_co b_op b_ar u_le b_pi b_pa u_pd u_od b_ws b_hw u_la b_se b_re u_bk u_va u_su u_ce u_ho u_wy u_bt u_ps b_pt u_tg u_sn b_ip u_ic b_ah b_be b_me u_wd b_tr b_ld u_st b_wn u_id)), (b_tp, (arI G 400 z14))] hP hD ?_
    clear hP hD
    intro hP hD
    refine lv_aload_n hx hb dX12_feed_30 rfl (lv_at hl 0 rfl) ?_
    refine lv_iload_n hx hb dX12_feed_31 rfl (lv_at hl 3 rfl) ?_
    obtain ⟨hPc, hDc, hFc⟩ := g5_sub3 (wc := [(b_o, (oc12 0 u_sa b_rf b_ro b_im b_ke u_fd b_tp z13 u_fr u_to u_so u_wo u_fa u_bd u_nc b_nl u_co b_op b_ar u_le b_pi b_pa u_pd u_od b_ws b_hw u_la b_se b_re u_bk u_va u_su u_ce u_ho u_wy u_bt u_ps b_pt u_tg u_sn b_ip u_ic b_ah b_be b_me u_wd b_tr b_ld u_st b_wn u_id)), (b_tp, (arI G 400 z14))]) hP hD hS hA [0, 1] (by decide +kernel) rfl
    refine va_callv (va_runV (As := [.int p_3]) (rest := []) ⟨hx, hb, hml, hown, hts⟩ (n_fourE l G b_o b_tp b_rf b_ro b_im b_ke b_nl b_op b_ar b_pi b_pa b_ws b_hw b_se b_re b_pt b_ip b_ah b_be b_me b_tr b_ld b_wn H.size 0 u_sa u_fd z13 u_fr u_to u_so u_fa u_bd u_nc u_co u_le u_pd u_od u_la u_bk u_ce u_ho u_wy u_bt u_ps u_tg u_sn u_ic u_wd u_id p_3 u_wo u_va u_su u_st z14 i_10 h_u_fr h_u_to h_u_bd h_u_nc h_u_co h_u_pd h_u_la h_u_bk h_u_ce h_u_ho h_u_wy h_u_bt h_u_ps h_u_ic h_u_id (i_9) (by omega) (by omega)) (cwV 1 hts gV_X12_198 rfl rfl rfl hv_X12_four ⟨Nat.le_of_ble_eq_true rfl, Nat.le_of_ble_eq_true rfl⟩) (g5_preV hPc hK hDc hN hT hS hFc (ci := 12) (q0 := 0) rfl rfl) rfl rfl hl.1 rfl (lv_room (Nat.le_of_ble_eq_true rfl)) dX12_feed_32 ⟨Nat.le_of_ble_eq_true rfl, Nat.le_of_ble_eq_true rfl⟩) hS (fun q _ h => hFc q h) hFc (fun u t H locs ht hvm hw hB hz1 hk1 hS => ?_)
    obtain ⟨hP1, hD1⟩ := hB
    have hP1 := g5_ht ht hP1
    obtain ⟨z19, z20, (i_15 : TPI z20), (i_16 : 0 ≤ z19.toInt ∧ z19.toInt ≤ 400), (i_17 : z19.toInt = z13.toInt + 4), (i_18 : z20 = wr4 z14 z13.toInt.toNat p_3 4), rfl⟩ := hw
    have hJ9 := va_join (wr := []) hP hD [0, 1] [] rfl rfl (by decide +kernel) (by decide +kernel) hk1 hFc hP1 hD1
    clear hP hD hPc hDc hFc ht hvm hz1 hk1 hP1 hD1
    obtain ⟨hP, hD⟩ := hJ9
    refine g5_rs [(b_o, (oc12 0 u_sa b_rf b_ro b_im b_ke u_fd b_tp z19 u_fr u_to u_so u_wo u_fa u_bd u_nc b_nl u_co b_op b_ar u_le b_pi b_pa u_pd u_od b_ws b_hw u_la b_se b_re u_bk u_va u_su u_ce u_ho u_wy u_bt u_ps b_pt u_tg u_sn b_ip u_ic b_ah b_be b_me u_wd b_tr b_ld u_st b_wn u_id)), (b_tp, (arI G 400 z20))] hP hD ?_
    clear hP hD
    intro hP hD
    refine W.eq (g2 := F0 m 35 ls []) rfl ?_
    refine lv_aload_n hx hb dX12_feed_35 rfl (lv_at hl 0 rfl) ?_
    refine lv_iload hx hb dX12_feed_36 (lv_at hl 4 rfl) ?_
    obtain ⟨hPc, hDc, hFc⟩ := g5_sub3 (wc := [(b_o, (oc12 0 u_sa b_rf b_ro b_im b_ke u_fd b_tp z19 u_fr u_to u_so u_wo u_fa u_bd u_nc b_nl u_co b_op b_ar u_le b_pi b_pa u_pd u_od b_ws b_hw u_la b_se b_re u_bk u_va u_su u_ce u_ho u_wy u_bt u_ps b_pt u_tg u_sn b_ip u_ic b_ah b_be b_me u_wd b_tr b_ld u_st b_wn u_id)), (b_tp, (arI G 400 z20))]) hP hD hS hA [0, 1] (by decide +kernel) rfl
    refine va_callv (va_runV (As := [.int p_4]) (rest := []) ⟨hx, hb, hml, hown, hts⟩ (n_fourE l G b_o b_tp b_rf b_ro b_im b_ke b_nl b_op b_ar b_pi b_pa b_ws b_hw b_se b_re b_pt b_ip b_ah b_be b_me b_tr b_ld b_wn H.size 0 u_sa u_fd z19 u_fr u_to u_so u_fa u_bd u_nc u_co u_le u_pd u_od u_la u_bk u_ce u_ho u_wy u_bt u_ps u_tg u_sn u_ic u_wd u_id p_4 u_wo u_va u_su u_st z20 i_16 h_u_fr h_u_to h_u_bd h_u_nc h_u_co h_u_pd h_u_la h_u_bk h_u_ce h_u_ho h_u_wy h_u_bt h_u_ps h_u_ic h_u_id (i_15) (by omega) (by omega)) (cwV 1 hts gV_X12_198 rfl rfl rfl hv_X12_four ⟨Nat.le_of_ble_eq_true rfl, Nat.le_of_ble_eq_true rfl⟩) (g5_preV hPc hK hDc hN hT hS hFc (ci := 12) (q0 := 0) rfl rfl) rfl rfl hl.1 rfl (lv_room (Nat.le_of_ble_eq_true rfl)) dX12_feed_38 ⟨Nat.le_of_ble_eq_true rfl, Nat.le_of_ble_eq_true rfl⟩) hS (fun q _ h => hFc q h) hFc (fun u t H locs ht hvm hw hB hz1 hk1 hS => ?_)
    obtain ⟨hP1, hD1⟩ := hB
    have hP1 := g5_ht ht hP1
    obtain ⟨z25, z26, (i_21 : TPI z26), (i_22 : 0 ≤ z25.toInt ∧ z25.toInt ≤ 400), (i_23 : z25.toInt = z19.toInt + 4), (i_24 : z26 = wr4 z20 z19.toInt.toNat p_4 4), rfl⟩ := hw
    have hJ9 := va_join (wr := []) hP hD [0, 1] [] rfl rfl (by decide +kernel) (by decide +kernel) hk1 hFc hP1 hD1
    clear hP hD hPc hDc hFc ht hvm hz1 hk1 hP1 hD1
    obtain ⟨hP, hD⟩ := hJ9
    refine g5_rs [(b_o, (oc12 0 u_sa b_rf b_ro b_im b_ke u_fd b_tp z25 u_fr u_to u_so u_wo u_fa u_bd u_nc b_nl u_co b_op b_ar u_le b_pi b_pa u_pd u_od b_ws b_hw u_la b_se b_re u_bk u_va u_su u_ce u_ho u_wy u_bt u_ps b_pt u_tg u_sn b_ip u_ic b_ah b_be b_me u_wd b_tr b_ld u_st b_wn u_id)), (b_tp, (arI G 400 z26))] hP hD ?_
    clear hP hD
    intro hP hD
    refine lv_aload_n hx hb dX12_feed_41 rfl (lv_at hl 0 rfl) ?_
    refine lv_iload hx hb dX12_feed_42 (lv_at hl 5 rfl) ?_
    refine W.eq (g2 := F0 m 44 ls [.int p_5, .ref b_o]) rfl ?_
    obtain ⟨hPc, hDc, hFc⟩ := g5_sub3 (wc := [(b_o, (oc12 0 u_sa b_rf b_ro b_im b_ke u_fd b_tp z25 u_fr u_to u_so u_wo u_fa u_bd u_nc b_nl u_co b_op b_ar u_le b_pi b_pa u_pd u_od b_ws b_hw u_la b_se b_re u_bk u_va u_su u_ce u_ho u_wy u_bt u_ps b_pt u_tg u_sn b_ip u_ic b_ah b_be b_me u_wd b_tr b_ld u_st b_wn u_id)), (b_tp, (arI G 400 z26))]) hP hD hS hA [0, 1] (by decide +kernel) rfl
    refine va_callv (va_runV (As := [.int p_5]) (rest := []) ⟨hx, hb, hml, hown, hts⟩ (n_fourE l G b_o b_tp b_rf b_ro b_im b_ke b_nl b_op b_ar b_pi b_pa b_ws b_hw b_se b_re b_pt b_ip b_ah b_be b_me b_tr b_ld b_wn H.size 0 u_sa u_fd z25 u_fr u_to u_so u_fa u_bd u_nc u_co u_le u_pd u_od u_la u_bk u_ce u_ho u_wy u_bt u_ps u_tg u_sn u_ic u_wd u_id p_5 u_wo u_va u_su u_st z26 i_22 h_u_fr h_u_to h_u_bd h_u_nc h_u_co h_u_pd h_u_la h_u_bk h_u_ce h_u_ho h_u_wy h_u_bt h_u_ps h_u_ic h_u_id (i_21) (by omega) (by omega)) (cwV 1 hts gV_X12_198 rfl rfl rfl hv_X12_four ⟨Nat.le_of_ble_eq_true rfl, Nat.le_of_ble_eq_true rfl⟩) (g5_preV hPc hK hDc hN hT hS hFc (ci := 12) (q0 := 0) rfl rfl) rfl rfl hl.1 rfl (lv_room (Nat.le_of_ble_eq_true rfl)) dX12_feed_44 ⟨Nat.le_of_ble_eq_true rfl, Nat.le_of_ble_eq_true rfl⟩) hS (fun q _ h => hFc q h) hFc (fun u t H locs ht hvm hw hB hz1 hk1 hS => ?_)
    obtain ⟨hP1, hD1⟩ := hB
    have hP1 := g5_ht ht hP1
    obtain ⟨z31, z32, (i_27 : TPI z32), (i_28 : 0 ≤ z31.toInt ∧ z31.toInt ≤ 400), (i_29 : z31.toInt = z25.toInt + 4), (i_30 : z32 = wr4 z26 z25.toInt.toNat p_5 4), rfl⟩ := hw
    have hJ9 := va_join (wr := []) hP hD [0, 1] [] rfl rfl (by decide +kernel) (by decide +kernel) hk1 hFc hP1 hD1
    clear hP hD hPc hDc hFc ht hvm hz1 hk1 hP1 hD1
    obtain ⟨hP, hD⟩ := hJ9
    refine g5_rs [(b_o, (oc12 0 u_sa b_rf b_ro b_im b_ke u_fd b_tp z31 u_fr u_to u_so u_wo u_fa u_bd u_nc b_nl u_co b_op b_ar u_le b_pi b_pa u_pd u_od b_ws b_hw u_la b_se b_re u_bk u_va u_su u_ce u_ho u_wy u_bt u_ps b_pt u_tg u_sn b_ip u_ic b_ah b_be b_me u_wd b_tr b_ld u_st b_wn u_id)), (b_tp, (arI G 400 z32))] hP hD ?_
    clear hP hD
    intro hP hD
    refine lv_aload_n hx hb dX12_feed_47 rfl (lv_at hl 0 rfl) ?_
    refine va_get (D := G.1) (ci := 12) (v := .int z31) (C := RX12) (T := TX12) (N := 52) hx hb hts inG_X12 hown hK hP 0 rfl rfl 8 (by decide +kernel) (hts _ fl_X12_192) (fun _ h9 => h9) rfl dX12_feed_48 ?_
    exact W.iret (v := z31) hx hb hr (fun t ht hW => ⟨⟨z31, [(b_o, (oc12 0 u_sa b_rf b_ro b_im b_ke u_fd b_tp z31 u_fr u_to u_so u_wo u_fa u_bd u_nc b_nl u_co b_op b_ar u_le b_pi b_pa u_pd u_od b_ws b_hw u_la b_se b_re u_bk u_va u_su u_ce u_ho u_wy u_bt u_ps b_pt u_tg u_sn b_ip u_ic b_ah b_be b_me u_wd b_tr b_ld u_st b_wn u_id)), (b_tp, (arI G 400 z32))], rfl, ⟨z31, 0, z31, z32, i_27, i_28, by rw [(feed_0 (t := v_tp) (td := u_td) (a := p_1) (b := p_2) (c := p_3) (d := p_4) (e := p_5) (by omega)).1]; exact w20_of (by omega) i_6 i_5 i_12 i_11 i_18 i_17 i_24 i_23 i_30, by rw [(feed_0 (t := v_tp) (td := u_td) (a := p_1) (b := p_2) (c := p_3) (d := p_4) (e := p_5) (by omega)).2.1]; exact Int32.toInt_inj.mp (by rw [g5_iadd (a := u_td.toInt) (b := 20) rfl (by decide +kernel) (by omega) (by omega)]; omega), by rw [(feed_0 (t := v_tp) (td := u_td) (a := p_1) (b := p_2) (c := p_3) (d := p_4) (e := p_5) (by omega)).2.2]; exact Int32.toInt_inj.mp (by rw [g5_iadd (a := u_td.toInt) (b := 20) rfl (by decide +kernel) (by omega) (by omega)]; omega), rfl, rfl⟩, by rw [ht]; exact hP.sub [0, 1] rfl, hD.sub [0, 1] (by decide +kernel) rfl⟩, hS.F ht⟩) hS.2.2 dX12_feed_51
  ·
    have i_2 : (u_td.toInt + 20) > 400 := by have z := g5_leN (a := (u_td + 20).toInt) (b := 400) (by rfl) (by decide +kernel) c_2; omega
    refine lv_iconst (v := (-1)) hx hb dX12_feed_18 (by decide +kernel) ?_
    exact W.iret (v := (-1)) hx hb hr (fun t ht hW => ⟨⟨(-1), [(b_o, (oc12 0 u_sa b_rf b_ro b_im b_ke u_fd b_tp u_td u_fr u_to u_so u_wo u_fa u_bd u_nc b_nl u_co b_op b_ar u_le b_pi b_pa u_pd u_od b_ws b_hw u_la b_se b_re u_bk u_va u_su u_ce u_ho u_wy u_bt u_ps b_pt u_tg u_sn b_ip u_ic b_ah b_be b_me u_wd b_tr b_ld u_st b_wn u_id)), (b_tp, (arI G 400 v_tp))], rfl, ⟨(-1), 0, u_td, v_tp, r_tp, h_u_td, (feed_1 (t := v_tp) (td := u_td) (a := p_1) (b := p_2) (c := p_3) (d := p_4) (e := p_5) (by omega)).1.symm, (feed_1 (t := v_tp) (td := u_td) (a := p_1) (b := p_2) (c := p_3) (d := p_4) (e := p_5) (by omega)).2.1.symm, (feed_1 (t := v_tp) (td := u_td) (a := p_1) (b := p_2) (c := p_3) (d := p_4) (e := p_5) (by omega)).2.2.symm, rfl, rfl⟩, by rw [ht]; exact hP.sub [0, 1] rfl, hD.sub [0, 1] (by decide +kernel) rfl⟩, hS.F ht⟩) hS.2.2 dX12_feed_19
set_option maxHeartbeats 4000000 in
set_option maxRecDepth 100000 in
theorem n_endE (l : Launch) (G : g5_G) (b_o b_rf b_ro b_im b_ke b_tp b_nl b_op b_ar b_pi b_pa b_ws b_hw b_se b_re b_pt b_ip b_ah b_be b_me b_tr b_ld b_wn : Nat) (sz : Nat) (u_th : Int32) (u_sa : Int32) (u_fd : Int32) (u_td : Int32) (u_fr : Int32) (u_to : Int32) (u_so : Int32) (u_fa : Int32) (u_bd : Int32) (u_nc : Int32) (u_co : Int32) (u_le : Int32) (u_pd : Int32) (u_od : Int32) (u_la : Int32) (u_bk : Int32) (u_ce : Int32) (u_ho : Int32) (u_wy : Int32) (u_bt : Int32) (u_ps : Int32) (u_tg : Int32) (u_sn : Int32) (u_ic : Int32) (u_wd : Int32) (u_id : Int32) (p_1 : Int32) (u_wo : Int64) (u_va : Int64) (u_su : Int64) (u_st : Int64) (h_u_td : 0 ≤ u_td.toInt ∧ u_td.toInt ≤ 400) (h_u_fr : 0 ≤ u_fr.toInt ∧ u_fr.toInt ≤ 400) (h_u_to : 0 ≤ u_to.toInt ∧ u_to.toInt ≤ 400) (h_u_bd : 0 ≤ u_bd.toInt ∧ u_bd.toInt ≤ 1) (h_u_nc : 0 ≤ u_nc.toInt ∧ u_nc.toInt ≤ 12) (h_u_co : 0 ≤ u_co.toInt ∧ u_co.toInt ≤ 400) (h_u_pd : 0 ≤ u_pd.toInt ∧ u_pd.toInt ≤ 400) (h_u_la : 0 ≤ u_la.toInt ∧ u_la.toInt ≤ 4840) (h_u_bk : 0 ≤ u_bk.toInt ∧ u_bk.toInt ≤ 1) (h_u_ce : 0 ≤ u_ce.toInt ∧ u_ce.toInt ≤ 63) (h_u_ho : 0 ≤ u_ho.toInt ∧ u_ho.toInt ≤ 23) (h_u_wy : 0 ≤ u_wy.toInt ∧ u_wy.toInt ≤ 3) (h_u_bt : 0 ≤ u_bt.toInt ∧ u_bt.toInt ≤ 1000000) (h_u_ps : 0 ≤ u_ps.toInt ∧ u_ps.toInt ≤ 200) (h_u_ic : 0 ≤ u_ic.toInt ∧ u_ic.toInt ≤ 1) (h_u_id : 0 ≤ u_id.toInt ∧ u_id.toInt ≤ 1) : Met l yX12_end (wsG yX12_end cX12_end 2 (some .int)) ({ frames := 0, cells := 0, slots := 0, locals := 0 }) (va_Pc [.ref b_o, .int p_1] (g5_P G [(b_o, (oc12 u_th u_sa b_rf b_ro b_im b_ke u_fd b_tp u_td u_fr u_to u_so u_wo u_fa u_bd u_nc b_nl u_co b_op b_ar u_le b_pi b_pa u_pd u_od b_ws b_hw u_la b_se b_re u_bk u_va u_su u_ce u_ho u_wy u_bt u_ps b_pt u_tg u_sn b_ip u_ic b_ah b_be b_me u_wd b_tr b_ld u_st b_wn u_id))] sz)) (va_Qi (fun (r : Int32) (u : va_W) => (∃ (o_r : Int32) (o_th : Int32) (o_td : Int32), (0 ≤ o_td.toInt ∧ o_td.toInt ≤ 400) ∧ (o_td = sendN u_td p_1) ∧ (o_r = aend u_td p_1) ∧ (r = o_r) ∧ (u = [(b_o, (oc12 o_th u_sa b_rf b_ro b_im b_ke u_fd b_tp o_td u_fr u_to u_so u_wo u_fa u_bd u_nc b_nl u_co b_op b_ar u_le b_pi b_pa u_pd u_od b_ws b_hw u_la b_se b_re u_bk u_va u_su u_ce u_ho u_wy u_bt u_ps b_pt u_tg u_sn b_ip u_ic b_ah b_be b_me u_wd b_tr b_ld u_st b_wn u_id))]))) (g5_B G (va_A [(b_o, (oc12 u_th u_sa b_rf b_ro b_im b_ke u_fd b_tp u_td u_fr u_to u_so u_wo u_fa u_bd u_nc b_nl u_co b_op b_ar u_le b_pi b_pa u_pd u_od b_ws b_hw u_la b_se b_re u_bk u_va u_su u_ce u_ho u_wy u_bt u_ps b_pt u_tg u_sn b_ip u_ic b_ah b_be b_me u_wd b_tr b_ld u_st b_wn u_id))] sz)) (va_A [(b_o, (oc12 u_th u_sa b_rf b_ro b_im b_ke u_fd b_tp u_td u_fr u_to u_so u_wo u_fa u_bd u_nc b_nl u_co b_op b_ar u_le b_pi b_pa u_pd u_od b_ws b_hw u_la b_se b_re u_bk u_va u_su u_ce u_ho u_wy u_bt u_ps b_pt u_tg u_sn b_ip u_ic b_ah b_be b_me u_wd b_tr b_ld u_st b_wn u_id))] sz)) 0 0 (va_A [(b_o, (oc12 u_th u_sa b_rf b_ro b_im b_ke u_fd b_tp u_td u_fr u_to u_so u_wo u_fa u_bd u_nc b_nl u_co b_op b_ar u_le b_pi b_pa u_pd u_od b_ws b_hw u_la b_se b_re u_bk u_va u_su u_ce u_ho u_wy u_bt u_ps b_pt u_tg u_sn b_ip u_ic b_ah b_be b_me u_wd b_tr b_ld u_st b_wn u_id))] sz) := by
  refine Met.ofW (cc := cX12_end) (maxL := 2) (ret := (some .int)) (by decide +kernel) rfl ?_
  intro p e s m args below meth c s₁ B hml hv
  obtain ⟨rfl, hsz, hP, hK, hD0, hN, hT⟩ := hv
  have hx := B.exec
  have hb := B.bytes
  have hr := B.returns
  have hts : ∀ w ∈ tblG, w.before _ s = true := fun w h => atoms_spec (ws := (wsG yX12_end cX12_end 2 (some .int))) B.pre w (List.mem_cons_of_mem _ h)
  have hown : s.vm.findClass RX12 = some m.cls := findClass_of_methodNamed B.named
  have hlocks := B.notSynchronized
  subst hsz
  have hD := hD0.self (sz := s.heap.size)
  generalize hAe : va_A [(b_o, (oc12 u_th u_sa b_rf b_ro b_im b_ke u_fd b_tp u_td u_fr u_to u_so u_wo u_fa u_bd u_nc b_nl u_co b_op b_ar u_le b_pi b_pa u_pd u_od b_ws b_hw u_la b_se b_re u_bk u_va u_su u_ce u_ho u_wy u_bt u_ps b_pt u_tg u_sn b_ip u_ic b_ah b_be b_me u_wd b_tr b_ld u_st b_wn u_id))] s.heap.size = A at hD hT ⊢
  have hA : ∀ q : Nat, s.heap.size ≤ q → A q := fun q h => by rw [← hAe]; exact Or.inr h
  have hS : va_S A s.heap s.heap [] := va_S.rf
  replace hP : va_P G.1 vwCl [(b_o, (oc12 u_th u_sa b_rf b_ro b_im b_ke u_fd b_tp u_td u_fr u_to u_so u_wo u_fa u_bd u_nc b_nl u_co b_op b_ar u_le b_pi b_pa u_pd u_od b_ws b_hw u_la b_se b_re u_bk u_va u_su u_ce u_ho u_wy u_bt u_ps b_pt u_tg u_sn b_ip u_ic b_ah b_be b_me u_wd b_tr b_ld u_st b_wn u_id))] s.heap := hP
  have hl := lv_entry ([.ref b_o, .int p_1]) (n := 2) (Nat.le_of_ble_eq_true rfl)
  rw [lg_entry_eq]
  generalize (lg_sl ([.ref b_o, .int p_1]) ++ List.replicate (2 - (lg_sl ([.ref b_o, .int p_1])).length) Slot.unset).toArray = ls at hl ⊢
  replace hl : lv_has ls 2 [(0, .ref b_o), (1, .int p_1)] := hl
  refine lv_aload_n hx hb dX12_end_0 rfl (lv_at hl 0 rfl) ?_
  refine lv_iconst (v := 0) hx hb dX12_end_1 (by decide +kernel) ?_
  refine va_put (D := G.1) (ci := 12) (v := .int 0) (ty := .int) (C := RX12) (T := TX12) (N := 52) hx hb hts inG_X12 tyX12 tyX12_ok nmX12 hown hK hP hD hS 0 rfl rfl 0 (by decide +kernel) (hts _ fl_X12_107) (fun _ h9 => h9) rfl (by decide +kernel) rfl rfl (Nat.le_of_ble_eq_true rfl) dX12_end_2 ?_
  clear hP hD hS
  intro H locs hP hD hS
  refine g5_rs [(b_o, (oc12 0 u_sa b_rf b_ro b_im b_ke u_fd b_tp u_td u_fr u_to u_so u_wo u_fa u_bd u_nc b_nl u_co b_op b_ar u_le b_pi b_pa u_pd u_od b_ws b_hw u_la b_se b_re u_bk u_va u_su u_ce u_ho u_wy u_bt u_ps b_pt u_tg u_sn b_ip u_ic b_ah b_be b_me u_wd b_tr b_ld u_st b_wn u_id))] hP hD ?_
  clear hP hD
  intro hP hD
  refine lv_iload_n hx hb dX12_end_5 rfl (lv_at hl 1 rfl) ?_
  refine W.eq (g2 := F0 m 6 ls [.int p_1]) rfl ?_
  refine lv_if_lt (tgt := 17) hx hb dX12_end_6 (by decide +kernel) (fun c_1 => ?_) (fun c_1 => ?_)
  ·
    have i_1 : p_1.toInt < 0 := g5_lt (a := p_1.toInt) (b := 0) rfl (by decide +kernel) c_1
    refine lv_iconst (v := (-1)) hx hb dX12_end_17 (by decide +kernel) ?_
    exact W.iret (v := (-1)) hx hb hr (fun t ht hW => ⟨⟨(-1), [(b_o, (oc12 0 u_sa b_rf b_ro b_im b_ke u_fd b_tp u_td u_fr u_to u_so u_wo u_fa u_bd u_nc b_nl u_co b_op b_ar u_le b_pi b_pa u_pd u_od b_ws b_hw u_la b_se b_re u_bk u_va u_su u_ce u_ho u_wy u_bt u_ps b_pt u_tg u_sn b_ip u_ic b_ah b_be b_me u_wd b_tr b_ld u_st b_wn u_id))], rfl, ⟨(-1), 0, u_td, h_u_td, (tend_1 (td := u_td) (n := p_1) (by omega)).1.symm, (tend_1 (td := u_td) (n := p_1) (by omega)).2.symm, rfl, rfl⟩, by rw [ht]; exact hP.sub [0] rfl, hD.sub [0] (by decide +kernel) rfl⟩, hS.F ht⟩) hS.2.2 dX12_end_18
  ·
    have i_1 : p_1.toInt ≥ 0 := g5_ltN (a := p_1.toInt) (b := 0) rfl (by decide +kernel) c_1
    refine lv_iload_n hx hb dX12_end_9 rfl (lv_at hl 1 rfl) ?_
    refine lv_aload_n hx hb dX12_end_10 rfl (lv_at hl 0 rfl) ?_
    refine va_get (D := G.1) (ci := 12) (v := .int u_td) (C := RX12) (T := TX12) (N := 52) hx hb hts inG_X12 hown hK hP 0 rfl rfl 8 (by decide +kernel) (hts _ fl_X12_192) (fun _ h9 => h9) rfl dX12_end_11 ?_
    refine lv_icmp_le (tgt := 19) hx hb dX12_end_14 (by decide +kernel) (fun c_2 => ?_) (fun c_2 => ?_)
    ·
      have i_2 : p_1.toInt ≤ u_td.toInt := g5_le (a := p_1.toInt) (b := u_td.toInt) rfl rfl c_2
      refine lv_aload_n hx hb dX12_end_19 rfl (lv_at hl 0 rfl) ?_
      refine lv_iload_n hx hb dX12_end_20 rfl (lv_at hl 1 rfl) ?_
      refine va_put (D := G.1) (ci := 12) (v := .int p_1) (ty := .int) (C := RX12) (T := TX12) (N := 52) hx hb hts inG_X12 tyX12 tyX12_ok nmX12 hown hK hP hD hS 0 rfl rfl 8 (by decide +kernel) (hts _ fl_X12_192) (fun _ h9 => h9) rfl (by decide +kernel) rfl rfl (Nat.le_of_ble_eq_true rfl) dX12_end_21 ?_
      clear hP hD hS
      intro H locs hP hD hS
      refine g5_rs [(b_o, (oc12 0 u_sa b_rf b_ro b_im b_ke u_fd b_tp p_1 u_fr u_to u_so u_wo u_fa u_bd u_nc b_nl u_co b_op b_ar u_le b_pi b_pa u_pd u_od b_ws b_hw u_la b_se b_re u_bk u_va u_su u_ce u_ho u_wy u_bt u_ps b_pt u_tg u_sn b_ip u_ic b_ah b_be b_me u_wd b_tr b_ld u_st b_wn u_id))] hP hD ?_
      clear hP hD
      intro hP hD
      refine lv_iload_n hx hb dX12_end_24 rfl (lv_at hl 1 rfl) ?_
      refine W.eq (g2 := F0 m 25 ls [.int p_1]) rfl ?_
      exact W.iret (v := p_1) hx hb hr (fun t ht hW => ⟨⟨p_1, [(b_o, (oc12 0 u_sa b_rf b_ro b_im b_ke u_fd b_tp p_1 u_fr u_to u_so u_wo u_fa u_bd u_nc b_nl u_co b_op b_ar u_le b_pi b_pa u_pd u_od b_ws b_hw u_la b_se b_re u_bk u_va u_su u_ce u_ho u_wy u_bt u_ps b_pt u_tg u_sn b_ip u_ic b_ah b_be b_me u_wd b_tr b_ld u_st b_wn u_id))], rfl, ⟨p_1, 0, p_1, ⟨by omega, by omega⟩, (tend_0 (td := u_td) (n := p_1) ⟨by omega, by omega⟩).1.symm, (tend_0 (td := u_td) (n := p_1) ⟨by omega, by omega⟩).2.symm, rfl, rfl⟩, by rw [ht]; exact hP.sub [0] rfl, hD.sub [0] (by decide +kernel) rfl⟩, hS.F ht⟩) hS.2.2 dX12_end_25
    ·
      have i_2 : p_1.toInt > u_td.toInt := g5_leN (a := p_1.toInt) (b := u_td.toInt) rfl rfl c_2
      refine lv_iconst (v := (-1)) hx hb dX12_end_17 (by decide +kernel) ?_
      exact W.iret (v := (-1)) hx hb hr (fun t ht hW => ⟨⟨(-1), [(b_o, (oc12 0 u_sa b_rf b_ro b_im b_ke u_fd b_tp u_td u_fr u_to u_so u_wo u_fa u_bd u_nc b_nl u_co b_op b_ar u_le b_pi b_pa u_pd u_od b_ws b_hw u_la b_se b_re u_bk u_va u_su u_ce u_ho u_wy u_bt u_ps b_pt u_tg u_sn b_ip u_ic b_ah b_be b_me u_wd b_tr b_ld u_st b_wn u_id))], rfl, ⟨(-1), 0, u_td, h_u_td, (tend_1 (td := u_td) (n := p_1) (by omega)).1.symm, (tend_1 (td := u_td) (n := p_1) (by omega)).2.symm, rfl, rfl⟩, by rw [ht]; exact hP.sub [0] rfl, hD.sub [0] (by decide +kernel) rfl⟩, hS.F ht⟩) hS.2.2 dX12_end_18
set_option maxHeartbeats 4000000 in
set_option maxRecDepth 100000 in
theorem n_fadedE (l : Launch) (G : g5_G) (b_o b_rf b_ro b_im b_ke b_tp b_nl b_op b_ar b_pi b_pa b_ws b_hw b_se b_re b_pt b_ip b_ah b_be b_me b_tr b_ld b_wn : Nat) (sz : Nat) (u_th : Int32) (u_sa : Int32) (u_fd : Int32) (u_td : Int32) (u_fr : Int32) (u_to : Int32) (u_so : Int32) (u_fa : Int32) (u_bd : Int32) (u_nc : Int32) (u_co : Int32) (u_le : Int32) (u_pd : Int32) (u_od : Int32) (u_la : Int32) (u_bk : Int32) (u_ce : Int32) (u_ho : Int32) (u_wy : Int32) (u_bt : Int32) (u_ps : Int32) (u_tg : Int32) (u_sn : Int32) (u_ic : Int32) (u_wd : Int32) (u_id : Int32) (u_wo : Int64) (u_va : Int64) (u_su : Int64) (u_st : Int64) (h_u_td : 0 ≤ u_td.toInt ∧ u_td.toInt ≤ 400) (h_u_fr : 0 ≤ u_fr.toInt ∧ u_fr.toInt ≤ 400) (h_u_to : 0 ≤ u_to.toInt ∧ u_to.toInt ≤ 400) (h_u_bd : 0 ≤ u_bd.toInt ∧ u_bd.toInt ≤ 1) (h_u_nc : 0 ≤ u_nc.toInt ∧ u_nc.toInt ≤ 12) (h_u_co : 0 ≤ u_co.toInt ∧ u_co.toInt ≤ 400) (h_u_pd : 0 ≤ u_pd.toInt ∧ u_pd.toInt ≤ 400) (h_u_la : 0 ≤ u_la.toInt ∧ u_la.toInt ≤ 4840) (h_u_bk : 0 ≤ u_bk.toInt ∧ u_bk.toInt ≤ 1) (h_u_ce : 0 ≤ u_ce.toInt ∧ u_ce.toInt ≤ 63) (h_u_ho : 0 ≤ u_ho.toInt ∧ u_ho.toInt ≤ 23) (h_u_wy : 0 ≤ u_wy.toInt ∧ u_wy.toInt ≤ 3) (h_u_bt : 0 ≤ u_bt.toInt ∧ u_bt.toInt ≤ 1000000) (h_u_ps : 0 ≤ u_ps.toInt ∧ u_ps.toInt ≤ 200) (h_u_ic : 0 ≤ u_ic.toInt ∧ u_ic.toInt ≤ 1) (h_u_id : 0 ≤ u_id.toInt ∧ u_id.toInt ≤ 1) : Met l yX12_faded (wsG yX12_faded cX12_faded 1 (some .int)) ({ frames := 0, cells := 0, slots := 0, locals := 0 }) (va_Pc [.ref b_o] (g5_P G [(b_o, (oc12 u_th u_sa b_rf b_ro b_im b_ke u_fd b_tp u_td u_fr u_to u_so u_wo u_fa u_bd u_nc b_nl u_co b_op b_ar u_le b_pi b_pa u_pd u_od b_ws b_hw u_la b_se b_re u_bk u_va u_su u_ce u_ho u_wy u_bt u_ps b_pt u_tg u_sn b_ip u_ic b_ah b_be b_me u_wd b_tr b_ld u_st b_wn u_id))] sz)) (va_Qi (fun (r : Int32) (u : va_W) => (∃ (o_th : Int32), (r = u_fd) ∧ (u = [(b_o, (oc12 o_th u_sa b_rf b_ro b_im b_ke u_fd b_tp u_td u_fr u_to u_so u_wo u_fa u_bd u_nc b_nl u_co b_op b_ar u_le b_pi b_pa u_pd u_od b_ws b_hw u_la b_se b_re u_bk u_va u_su u_ce u_ho u_wy u_bt u_ps b_pt u_tg u_sn b_ip u_ic b_ah b_be b_me u_wd b_tr b_ld u_st b_wn u_id))]))) (g5_B G (va_A [(b_o, (oc12 u_th u_sa b_rf b_ro b_im b_ke u_fd b_tp u_td u_fr u_to u_so u_wo u_fa u_bd u_nc b_nl u_co b_op b_ar u_le b_pi b_pa u_pd u_od b_ws b_hw u_la b_se b_re u_bk u_va u_su u_ce u_ho u_wy u_bt u_ps b_pt u_tg u_sn b_ip u_ic b_ah b_be b_me u_wd b_tr b_ld u_st b_wn u_id))] sz)) (va_A [(b_o, (oc12 u_th u_sa b_rf b_ro b_im b_ke u_fd b_tp u_td u_fr u_to u_so u_wo u_fa u_bd u_nc b_nl u_co b_op b_ar u_le b_pi b_pa u_pd u_od b_ws b_hw u_la b_se b_re u_bk u_va u_su u_ce u_ho u_wy u_bt u_ps b_pt u_tg u_sn b_ip u_ic b_ah b_be b_me u_wd b_tr b_ld u_st b_wn u_id))] sz)) 0 0 (va_A [(b_o, (oc12 u_th u_sa b_rf b_ro b_im b_ke u_fd b_tp u_td u_fr u_to u_so u_wo u_fa u_bd u_nc b_nl u_co b_op b_ar u_le b_pi b_pa u_pd u_od b_ws b_hw u_la b_se b_re u_bk u_va u_su u_ce u_ho u_wy u_bt u_ps b_pt u_tg u_sn b_ip u_ic b_ah b_be b_me u_wd b_tr b_ld u_st b_wn u_id))] sz) := by
  refine Met.ofW (cc := cX12_faded) (maxL := 1) (ret := (some .int)) (by decide +kernel) rfl ?_
  intro p e s m args below meth c s₁ B hml hv
  obtain ⟨rfl, hsz, hP, hK, hD0, hN, hT⟩ := hv
  have hx := B.exec
  have hb := B.bytes
  have hr := B.returns
  have hts : ∀ w ∈ tblG, w.before _ s = true := fun w h => atoms_spec (ws := (wsG yX12_faded cX12_faded 1 (some .int))) B.pre w (List.mem_cons_of_mem _ h)
  have hown : s.vm.findClass RX12 = some m.cls := findClass_of_methodNamed B.named
  have hlocks := B.notSynchronized
  subst hsz
  have hD := hD0.self (sz := s.heap.size)
  generalize hAe : va_A [(b_o, (oc12 u_th u_sa b_rf b_ro b_im b_ke u_fd b_tp u_td u_fr u_to u_so u_wo u_fa u_bd u_nc b_nl u_co b_op b_ar u_le b_pi b_pa u_pd u_od b_ws b_hw u_la b_se b_re u_bk u_va u_su u_ce u_ho u_wy u_bt u_ps b_pt u_tg u_sn b_ip u_ic b_ah b_be b_me u_wd b_tr b_ld u_st b_wn u_id))] s.heap.size = A at hD hT ⊢
  have hA : ∀ q : Nat, s.heap.size ≤ q → A q := fun q h => by rw [← hAe]; exact Or.inr h
  have hS : va_S A s.heap s.heap [] := va_S.rf
  replace hP : va_P G.1 vwCl [(b_o, (oc12 u_th u_sa b_rf b_ro b_im b_ke u_fd b_tp u_td u_fr u_to u_so u_wo u_fa u_bd u_nc b_nl u_co b_op b_ar u_le b_pi b_pa u_pd u_od b_ws b_hw u_la b_se b_re u_bk u_va u_su u_ce u_ho u_wy u_bt u_ps b_pt u_tg u_sn b_ip u_ic b_ah b_be b_me u_wd b_tr b_ld u_st b_wn u_id))] s.heap := hP
  have hl := lv_entry ([.ref b_o]) (n := 1) (Nat.le_of_ble_eq_true rfl)
  rw [lg_entry_eq]
  generalize (lg_sl ([.ref b_o]) ++ List.replicate (1 - (lg_sl ([.ref b_o])).length) Slot.unset).toArray = ls at hl ⊢
  replace hl : lv_has ls 1 [(0, .ref b_o)] := hl
  refine lv_aload_n hx hb dX12_faded_0 rfl (lv_at hl 0 rfl) ?_
  refine lv_iconst (v := 0) hx hb dX12_faded_1 (by decide +kernel) ?_
  refine va_put (D := G.1) (ci := 12) (v := .int 0) (ty := .int) (C := RX12) (T := TX12) (N := 52) hx hb hts inG_X12 tyX12 tyX12_ok nmX12 hown hK hP hD hS 0 rfl rfl 0 (by decide +kernel) (hts _ fl_X12_107) (fun _ h9 => h9) rfl (by decide +kernel) rfl rfl (Nat.le_of_ble_eq_true rfl) dX12_faded_2 ?_
  clear hP hD hS
  intro H locs hP hD hS
  refine g5_rs [(b_o, (oc12 0 u_sa b_rf b_ro b_im b_ke u_fd b_tp u_td u_fr u_to u_so u_wo u_fa u_bd u_nc b_nl u_co b_op b_ar u_le b_pi b_pa u_pd u_od b_ws b_hw u_la b_se b_re u_bk u_va u_su u_ce u_ho u_wy u_bt u_ps b_pt u_tg u_sn b_ip u_ic b_ah b_be b_me u_wd b_tr b_ld u_st b_wn u_id))] hP hD ?_
  clear hP hD
  intro hP hD
  refine lv_aload_n hx hb dX12_faded_5 rfl (lv_at hl 0 rfl) ?_
  refine W.eq (g2 := F0 m 6 ls [.ref b_o]) rfl ?_
  refine va_get (D := G.1) (ci := 12) (v := .int u_fd) (C := RX12) (T := TX12) (N := 52) hx hb hts inG_X12 hown hK hP 0 rfl rfl 6 (by decide +kernel) (hts _ fl_X12_195) (fun _ h9 => h9) rfl dX12_faded_6 ?_
  exact W.iret (v := u_fd) hx hb hr (fun t ht hW => ⟨⟨u_fd, [(b_o, (oc12 0 u_sa b_rf b_ro b_im b_ke u_fd b_tp u_td u_fr u_to u_so u_wo u_fa u_bd u_nc b_nl u_co b_op b_ar u_le b_pi b_pa u_pd u_od b_ws b_hw u_la b_se b_re u_bk u_va u_su u_ce u_ho u_wy u_bt u_ps b_pt u_tg u_sn b_ip u_ic b_ah b_be b_me u_wd b_tr b_ld u_st b_wn u_id))], rfl, ⟨0, rfl, rfl⟩, by rw [ht]; exact hP.sub [0] rfl, hD.sub [0] (by decide +kernel) rfl⟩, hS.F ht⟩) hS.2.2 dX12_faded_9
set_option maxHeartbeats 4000000 in
set_option maxRecDepth 100000 in
theorem n_rowE (l : Launch) (G : g5_G) (b_o b_rf b_ro b_tp b_im b_ke b_nl b_op b_ar b_pi b_pa b_ws b_hw b_se b_re b_pt b_ip b_ah b_be b_me b_tr b_ld b_wn : Nat) (sz : Nat) (u_th : Int32) (u_sa : Int32) (u_fd : Int32) (u_td : Int32) (u_fr : Int32) (u_to : Int32) (u_so : Int32) (u_fa : Int32) (u_bd : Int32) (u_nc : Int32) (u_co : Int32) (u_le : Int32) (u_pd : Int32) (u_od : Int32) (u_la : Int32) (u_bk : Int32) (u_ce : Int32) (u_ho : Int32) (u_wy : Int32) (u_bt : Int32) (u_ps : Int32) (u_tg : Int32) (u_sn : Int32) (u_ic : Int32) (u_wd : Int32) (u_id : Int32) (u_wo : Int64) (u_va : Int64) (u_su : Int64) (u_st : Int64) (v_rf : Nat → Int32) (v_ro : Nat → Int32) (v_tp : Nat → Int32) (h_u_td : 0 ≤ u_td.toInt ∧ u_td.toInt ≤ 400) (h_u_fr : 0 ≤ u_fr.toInt ∧ u_fr.toInt ≤ 400) (h_u_to : 0 ≤ u_to.toInt ∧ u_to.toInt ≤ 400) (h_u_bd : 0 ≤ u_bd.toInt ∧ u_bd.toInt ≤ 1) (h_u_nc : 0 ≤ u_nc.toInt ∧ u_nc.toInt ≤ 12) (h_u_co : 0 ≤ u_co.toInt ∧ u_co.toInt ≤ 400) (h_u_pd : 0 ≤ u_pd.toInt ∧ u_pd.toInt ≤ 400) (h_u_la : 0 ≤ u_la.toInt ∧ u_la.toInt ≤ 4840) (h_u_bk : 0 ≤ u_bk.toInt ∧ u_bk.toInt ≤ 1) (h_u_ce : 0 ≤ u_ce.toInt ∧ u_ce.toInt ≤ 63) (h_u_ho : 0 ≤ u_ho.toInt ∧ u_ho.toInt ≤ 23) (h_u_wy : 0 ≤ u_wy.toInt ∧ u_wy.toInt ≤ 3) (h_u_bt : 0 ≤ u_bt.toInt ∧ u_bt.toInt ≤ 1000000) (h_u_ps : 0 ≤ u_ps.toInt ∧ u_ps.toInt ≤ 200) (h_u_ic : 0 ≤ u_ic.toInt ∧ u_ic.toInt ≤ 1) (h_u_id : 0 ≤ u_id.toInt ∧ u_id.toInt ≤ 1) (r_ro : MI v_ro) (r_tp : TPI v_tp) : Met l yX12_row (wsG yX12_row cX12_row 5 (some .int)) ({ frames := 2, cells := 0, slots := 0, locals := 46 }) (va_Pc [.ref b_o] (g5_P G [(b_o, (oc12 u_th u_sa b_rf b_ro b_im b_ke u_fd b_tp u_td u_fr u_to u_so u_wo u_fa u_bd u_nc b_nl u_co b_op b_ar u_le b_pi b_pa u_pd u_od b_ws b_hw u_la b_se b_re u_bk u_va u_su u_ce u_ho u_wy u_bt u_ps b_pt u_tg u_sn b_ip u_ic b_ah b_be b_me u_wd b_tr b_ld u_st b_wn u_id)), (b_rf, (arI G 7 v_rf)), (b_ro, (arI G 5740 v_ro)), (b_tp, (arI G 400 v_tp))] sz)) (va_Qi (fun (r : Int32) (u : va_W) => (∃ (o_r : Int32) (o_th : Int32) (o_sa : Int32) (o_fd : Int32) (o_td : Int32) (o_ic : Int32) (o_rf : Nat → Int32) (o_ro : Nat → Int32), (MI o_ro) ∧ (0 ≤ o_td.toInt ∧ o_td.toInt ≤ 400) ∧ (0 ≤ o_ic.toInt ∧ o_ic.toInt ≤ 1) ∧ (o_td.toInt = 0) ∧ (o_td = 0) ∧ (o_r = arow v_tp u_td v_ro) ∧ (o_ro = srow v_tp u_td v_ro) ∧ (o_fd = srowF v_tp u_td u_fd v_ro) ∧ (r = o_r) ∧ (u = [(b_o, (oc12 o_th o_sa b_rf b_ro b_im b_ke o_fd b_tp o_td u_fr u_to u_so u_wo u_fa u_bd u_nc b_nl u_co b_op b_ar u_le b_pi b_pa u_pd u_od b_ws b_hw u_la b_se b_re u_bk u_va u_su u_ce u_ho u_wy u_bt u_ps b_pt u_tg u_sn b_ip o_ic b_ah b_be b_me u_wd b_tr b_ld u_st b_wn u_id)), (b_rf, (arI G 7 o_rf)), (b_ro, (arI G 5740 o_ro)), (b_tp, (arI G 400 v_tp))]))) (g5_B G (va_A [(b_o, (oc12 u_th u_sa b_rf b_ro b_im b_ke u_fd b_tp u_td u_fr u_to u_so u_wo u_fa u_bd u_nc b_nl u_co b_op b_ar u_le b_pi b_pa u_pd u_od b_ws b_hw u_la b_se b_re u_bk u_va u_su u_ce u_ho u_wy u_bt u_ps b_pt u_tg u_sn b_ip u_ic b_ah b_be b_me u_wd b_tr b_ld u_st b_wn u_id)), (b_rf, (arI G 7 v_rf)), (b_ro, (arI G 5740 v_ro)), (b_tp, (arI G 400 v_tp))] sz)) (va_A [(b_o, (oc12 u_th u_sa b_rf b_ro b_im b_ke u_fd b_tp u_td u_fr u_to u_so u_wo u_fa u_bd u_nc b_nl u_co b_op b_ar u_le b_pi b_pa u_pd u_od b_ws b_hw u_la b_se b_re u_bk u_va u_su u_ce u_ho u_wy u_bt u_ps b_pt u_tg u_sn b_ip u_ic b_ah b_be b_me u_wd b_tr b_ld u_st b_wn u_id)), (b_rf, (arI G 7 v_rf)), (b_ro, (arI G 5740 v_ro)), (b_tp, (arI G 400 v_tp))] sz)) 0 0 (va_A [(b_o, (oc12 u_th u_sa b_rf b_ro b_im b_ke u_fd b_tp u_td u_fr u_to u_so u_wo u_fa u_bd u_nc b_nl u_co b_op b_ar u_le b_pi b_pa u_pd u_od b_ws b_hw u_la b_se b_re u_bk u_va u_su u_ce u_ho u_wy u_bt u_ps b_pt u_tg u_sn b_ip u_ic b_ah b_be b_me u_wd b_tr b_ld u_st b_wn u_id)), (b_rf, (arI G 7 v_rf)), (b_ro, (arI G 5740 v_ro)), (b_tp, (arI G 400 v_tp))] sz) := by
  refine Met.ofW (cc := cX12_row) (maxL := 5) (ret := (some .int)) (by decide +kernel) rfl ?_
  intro p e s m args below meth c s₁ B hml hv
  obtain ⟨rfl, hsz, hP, hK, hD0, hN, hT⟩ := hv
  have hx := B.exec
  have hb := B.bytes
  have hr := B.returns
  have hts : ∀ w ∈ tblG, w.before _ s = true := fun w h => atoms_spec (ws := (wsG yX12_row cX12_row 5 (some .int))) B.pre w (List.mem_cons_of_mem _ h)
  have hown : s.vm.findClass RX12 = some m.cls := findClass_of_methodNamed B.named
  have hlocks := B.notSynchronized
  subst hsz
  have hD := hD0.self (sz := s.heap.size)
  generalize hAe : va_A [(b_o, (oc12 u_th u_sa b_rf b_ro b_im b_ke u_fd b_tp u_td u_fr u_to u_so u_wo u_fa u_bd u_nc b_nl u_co b_op b_ar u_le b_pi b_pa u_pd u_od b_ws b_hw u_la b_se b_re u_bk u_va u_su u_ce u_ho u_wy u_bt u_ps b_pt u_tg u_sn b_ip u_ic b_ah b_be b_me u_wd b_tr b_ld u_st b_wn u_id)), (b_rf, (arI G 7 v_rf)), (b_ro, (arI G 5740 v_ro)), (b_tp, (arI G 400 v_tp))] s.heap.size = A at hD hT ⊢
  have hA : ∀ q : Nat, s.heap.size ≤ q → A q := fun q h => by rw [← hAe]; exact Or.inr h
  have hS : va_S A s.heap s.heap [] := va_S.rf
  replace hP : va_P G.1 vwCl [(b_o, (oc12 u_th u_sa b_rf b_ro b_im b_ke u_fd b_tp u_td u_fr u_to u_so u_wo u_fa u_bd u_nc b_nl u_co b_op b_ar u_le b_pi b_pa u_pd u_od b_ws b_hw u_la b_se b_re u_bk u_va u_su u_ce u_ho u_wy u_bt u_ps b_pt u_tg u_sn b_ip u_ic b_ah b_be b_me u_wd b_tr b_ld u_st b_wn u_id)), (b_rf, (arI G 7 v_rf)), (b_ro, (arI G 5740 v_ro)), (b_tp, (arI G 400 v_tp))] s.heap := hP
  have hl := lv_entry ([.ref b_o]) (n := 5) (Nat.le_of_ble_eq_true rfl)
  rw [lg_entry_eq]
  generalize (lg_sl ([.ref b_o]) ++ List.replicate (5 - (lg_sl ([.ref b_o])).length) Slot.unset).toArray = ls at hl ⊢
  replace hl : lv_has ls 5 [(0, .ref b_o)] := hl
  refine lv_aload_n hx hb dX12_row_0 rfl (lv_at hl 0 rfl) ?_
  refine lv_iconst (v := 0) hx hb dX12_row_1 (by decide +kernel) ?_
  refine va_put (D := G.1) (ci := 12) (v := .int 0) (ty := .int) (C := RX12) (T := TX12) (N := 52) hx hb hts inG_X12 tyX12 tyX12_ok nmX12 hown hK hP hD hS 0 rfl rfl 0 (by decide +kernel) (hts _ fl_X12_107) (fun _ h9 => h9) rfl (by decide +kernel) rfl rfl (Nat.le_of_ble_eq_true rfl) dX12_row_2 ?_
  clear hP hD hS
  intro H locs hP hD hS
  refine g5_rs [(b_o, (oc12 0 u_sa b_rf b_ro b_im b_ke u_fd b_tp u_td u_fr u_to u_so u_wo u_fa u_bd u_nc b_nl u_co b_op b_ar u_le b_pi b_pa u_pd u_od b_ws b_hw u_la b_se b_re u_bk u_va u_su u_ce u_ho u_wy u_bt u_ps b_pt u_tg u_sn b_ip u_ic b_ah b_be b_me u_wd b_tr b_ld u_st b_wn u_id)), (b_rf, (arI G 7 v_rf)), (b_ro, (arI G 5740 v_ro)), (b_tp, (arI G 400 v_tp))] hP hD ?_
  clear hP hD
  intro hP hD
  refine lv_aload_n hx hb dX12_row_5 rfl (lv_at hl 0 rfl) ?_
  refine W.eq (g2 := F0 m 6 ls [.ref b_o]) rfl ?_
  refine va_get (D := G.1) (ci := 12) (v := .int u_td) (C := RX12) (T := TX12) (N := 52) hx hb hts inG_X12 hown hK hP 0 rfl rfl 8 (by decide +kernel) (hts _ fl_X12_192) (fun _ h9 => h9) rfl dX12_row_6 ?_
  refine lv_istore_n (lv' := [(1, .int u_td), (0, .ref b_o)]) hx hb dX12_row_9 rfl hl (by decide +kernel) rfl ?_
  clear hl
  intro ls hl
  refine lv_aload_n hx hb dX12_row_10 rfl (lv_at hl 1 rfl) ?_
  refine lv_iconst (v := 0) hx hb dX12_row_11 (by decide +kernel) ?_
  refine va_put (D := G.1) (ci := 12) (v := .int 0) (ty := .int) (C := RX12) (T := TX12) (N := 52) hx hb hts inG_X12 tyX12 tyX12_ok nmX12 hown hK hP hD hS 0 rfl rfl 8 (by decide +kernel) (hts _ fl_X12_192) (fun _ h9 => h9) rfl (by decide +kernel) rfl rfl (Nat.le_of_ble_eq_true rfl) dX12_row_12 ?_
  clear hP hD hS
  intro H locs hP hD hS
  refine g5_rs [(b_o, (oc12 0 u_sa b_rf b_ro b_im b_ke u_fd b_tp 0 u_fr u_to u_so u_wo u_fa u_bd u_nc b_nl u_co b_op b_ar u_le b_pi b_pa u_pd u_od b_ws b_hw u_la b_se b_re u_bk u_va u_su u_ce u_ho u_wy u_bt u_ps b_pt u_tg u_sn b_ip u_ic b_ah b_be b_me u_wd b_tr b_ld u_st b_wn u_id)), (b_rf, (arI G 7 v_rf)), (b_ro, (arI G 5740 v_ro)), (b_tp, (arI G 400 v_tp))] hP hD ?_
  clear hP hD
  intro hP hD
  refine W.eq (g2 := F0 m 15 ls []) rfl ?_
  refine lv_iload_n hx hb dX12_row_15 rfl (lv_at hl 0 rfl) ?_
  refine lv_if_ne (tgt := 26) hx hb dX12_row_16 (by decide +kernel) (fun c_1 => ?_) (fun c_1 => ?_)
  ·
    have n_1 : gNe (u_td.toInt) (0) := g5_ne (a := u_td.toInt) (b := 0) rfl (by decide +kernel) c_1
    have i_1 : u_td.toInt ≥ 1 := by have z := g5_ne (a := u_td.toInt) (b := 0) (by rfl) (by decide +kernel) c_1; omega
    refine lv_aload_n hx hb dX12_row_26 rfl (lv_at hl 1 rfl) ?_
    refine lv_iconst (v := 0) hx hb dX12_row_27 (by decide +kernel) ?_
    refine va_put (D := G.1) (ci := 12) (v := .int 0) (ty := .int) (C := RX12) (T := TX12) (N := 52) hx hb hts inG_X12 tyX12 tyX12_ok nmX12 hown hK hP hD hS 0 rfl rfl 6 (by decide +kernel) (hts _ fl_X12_195) (fun _ h9 => h9) rfl (by decide +kernel) rfl rfl (Nat.le_of_ble_eq_true rfl) dX12_row_28 ?_
    clear hP hD hS
    intro H locs hP hD hS
    refine g5_rs [(b_o, (oc12 0 u_sa b_rf b_ro b_im b_ke 0 b_tp 0 u_fr u_to u_so u_wo u_fa u_bd u_nc b_nl u_co b_op b_ar u_le b_pi b_pa u_pd u_od b_ws b_hw u_la b_se b_re u_bk u_va u_su u_ce u_ho u_wy u_bt u_ps b_pt u_tg u_sn b_ip u_ic b_ah b_be b_me u_wd b_tr b_ld u_st b_wn u_id)), (b_rf, (arI G 7 v_rf)), (b_ro, (arI G 5740 v_ro)), (b_tp, (arI G 400 v_tp))] hP hD ?_
    clear hP hD
    intro hP hD
    refine lv_iconst (v := 0) hx hb dX12_row_31 (by decide +kernel) ?_
    refine W.eq (g2 := F0 m 32 ls [.int 0]) rfl ?_
    refine lv_istore_n (lv' := [(2, .int 0), (1, .int u_td), (0, .ref b_o)]) hx hb dX12_row_32 rfl hl (by decide +kernel) rfl ?_
    clear hl
    intro ls hl
    refine lv_iconst (v := 0) hx hb dX12_row_33 (by decide +kernel) ?_
    refine lv_istore_n (lv' := [(3, .int 0), (2, .int 0), (1, .int u_td), (0, .ref b_o)]) hx hb dX12_row_34 rfl hl (by decide +kernel) rfl ?_
    clear hl
    intro ls hl
    refine g5_loop (α := (Int32) × (Int32) × (Int32) × (Nat → Int32)) (fun (q : (Int32) × (Int32) × (Int32) × (Nat → Int32)) (ls : Array Slot) (H : Heap) (locs : List Loc) => match q with | (k35_3, k35_2, k35_fd, k35_ro) => lv_has ls 5 [(2, .int k35_2), (3, .int k35_3), (1, .int u_td), (0, .ref b_o)] ∧ va_P G.1 vwCl [(b_o, (oc12 0 u_sa b_rf b_ro b_im b_ke k35_fd b_tp 0 u_fr u_to u_so u_wo u_fa u_bd u_nc b_nl u_co b_op b_ar u_le b_pi b_pa u_pd u_od b_ws b_hw u_la b_se b_re u_bk u_va u_su u_ce u_ho u_wy u_bt u_ps b_pt u_tg u_sn b_ip u_ic b_ah b_be b_me u_wd b_tr b_ld u_st b_wn u_id)), (b_rf, (arI G 7 v_rf)), (b_ro, (arI G 5740 k35_ro)), (b_tp, (arI G 400 v_tp))] H ∧ va_D A [(b_o, (oc12 0 u_sa b_rf b_ro b_im b_ke k35_fd b_tp 0 u_fr u_to u_so u_wo u_fa u_bd u_nc b_nl u_co b_op b_ar u_le b_pi b_pa u_pd u_od b_ws b_hw u_la b_se b_re u_bk u_va u_su u_ce u_ho u_wy u_bt u_ps b_pt u_tg u_sn b_ip u_ic b_ah b_be b_me u_wd b_tr b_ld u_st b_wn u_id)), (b_rf, (arI G 7 v_rf)), (b_ro, (arI G 5740 k35_ro)), (b_tp, (arI G 400 v_tp))] ∧ va_S A s.heap H locs ∧ (0 ≤ k35_3.toInt ∧ k35_3.toInt ≤ 403) ∧ (0 ≤ k35_2.toInt ∧ k35_2.toInt ≤ 101) ∧ (MI k35_ro) ∧ (k35_3.toInt % 4 = 0) ∧ (k35_3.toInt ≤ u_td.toInt + 3) ∧ (0 ≤ k35_fd.toInt ∧ k35_fd.toInt ≤ 101) ∧ (k35_2.toInt + k35_fd.toInt = k35_3.toInt / 4) ∧ (k35_2.toInt = rwC v_tp u_td.toInt v_ro (k35_3.toInt / 4).toNat) ∧ (k35_ro = rwS v_tp u_td.toInt v_ro (k35_3.toInt / 4).toNat)) (fun (q : (Int32) × (Int32) × (Int32) × (Nat → Int32)) => match q with | (k35_3, k35_2, k35_fd, k35_ro) => Int.toNat (404 - k35_3.toInt)) (0, 0, 0, v_ro) ⟨lv_sub hl [1, 0, 2, 3] rfl, hP, hD, hS, ⟨by decide, by decide⟩, ⟨by decide, by decide⟩, r_ro, by decide, by have z0 : (0 : Int32).toInt = 0 := (by decide +kernel); omega, ⟨by decide, by decide⟩, by decide, by rw [show ((0 : Int32).toInt / 4).toNat = 0 from by decide]; exact (show (0 : Int32).toInt = 0 by decide), rfl⟩ ?_
    rintro ⟨k35_3, k35_2, k35_fd, k35_ro⟩ ls H locs ⟨hl, hP, hD, hS, (i_2 : 0 ≤ k35_3.toInt ∧ k35_3.toInt ≤ 403), (i_3 : 0 ≤ k35_2.toInt ∧ k35_2.toInt ≤ 101), (i_4 : MI k35_ro), (i_5 : k35_3.toInt % 4 = 0), (i_6 : k35_3.toInt ≤ u_td.toInt + 3), (i_7 : 0 ≤ k35_fd.toInt ∧ k35_fd.toInt ≤ 101), (i_8 : k35_2.toInt + k35_fd.toInt = k35_3.toInt / 4), (i_9 : k35_2.toInt = rwC v_tp u_td.toInt v_ro (k35_3.toInt / 4).toNat), (i_10 : k35_ro = rwS v_tp u_td.toInt v_ro (k35_3.toInt / 4).toNat)⟩ ih_35_11
    replace hl : lv_has ls 5 [(2, .int k35_2), (3, .int k35_3), (1, .int u_td), (0, .ref b_o)] := hl
    refine g5_rs [(b_o, (oc12 0 u_sa b_rf b_ro b_im b_ke k35_fd b_tp 0 u_fr u_to u_so u_wo u_fa u_bd u_nc b_nl u_co b_op b_ar u_le b_pi b_pa u_pd u_od b_ws b_hw u_la b_se b_re u_bk u_va u_su u_ce u_ho u_wy u_bt u_ps b_pt u_tg u_sn b_ip u_ic b_ah b_be b_me u_wd b_tr b_ld u_st b_wn u_id)), (b_rf, (arI G 7 v_rf)), (b_ro, (arI G 5740 k35_ro)), (b_tp, (arI G 400 v_tp))] hP hD ?_
    clear hP hD
    intro hP hD
    refine lv_iload_n hx hb dX12_row_35 rfl (lv_at hl 1 rfl) ?_
    refine lv_iload_n hx hb dX12_row_36 rfl (lv_at hl 2 rfl) ?_
    refine lv_icmp_ge (tgt := 247) hx hb dX12_row_37 (by decide +kernel) (fun c_12 => ?_) (fun c_12 => ?_)
    ·
      have i_12 : k35_3.toInt ≥ u_td.toInt := g5_ge (a := k35_3.toInt) (b := u_td.toInt) rfl rfl c_12
      refine lv_aload_n hx hb dX12_row_247 rfl (lv_at hl 3 rfl) ?_
      refine lv_iload_n hx hb dX12_row_248 rfl (lv_at hl 0 rfl) ?_
      obtain ⟨hPc, hDc, hFc⟩ := g5_sub3 (wc := [(b_o, (oc12 0 u_sa b_rf b_ro b_im b_ke k35_fd b_tp 0 u_fr u_to u_so u_wo u_fa u_bd u_nc b_nl u_co b_op b_ar u_le b_pi b_pa u_pd u_od b_ws b_hw u_la b_se b_re u_bk u_va u_su u_ce u_ho u_wy u_bt u_ps b_pt u_tg u_sn b_ip u_ic b_ah b_be b_me u_wd b_tr b_ld u_st b_wn u_id)), (b_rf, (arI G 7 v_rf))]) hP hD hS hA [0, 1] (by decide +kernel) rfl
      refine va_calli (va_runV (As := [.int k35_2]) (rest := []) ⟨hx, hb, hml, hown, hts⟩ (n_tell l G b_o b_rf b_ro b_im b_ke b_tp b_nl b_op b_ar b_pi b_pa b_ws b_hw b_se b_re b_pt b_ip b_ah b_be b_me b_tr b_ld b_wn H.size 0 u_sa k35_fd 0 u_fr u_to u_so u_fa u_bd u_nc u_co u_le u_pd u_od u_la u_bk u_ce u_ho u_wy u_bt u_ps u_tg u_sn u_ic u_wd u_id k35_2 u_wo u_va u_su u_st v_rf ⟨by decide, by decide⟩ h_u_fr h_u_to h_u_bd h_u_nc h_u_co h_u_pd h_u_la h_u_bk h_u_ce h_u_ho h_u_wy h_u_bt h_u_ps h_u_ic h_u_id ⟨by omega, by omega⟩) (cwV 1 hts gV_X12_125 rfl rfl rfl hv_X12_tell ⟨Nat.le_of_ble_eq_true rfl, Nat.le_of_ble_eq_true rfl⟩) (g5_preV hPc hK hDc hN hT hS hFc (ci := 12) (q0 := 0) rfl rfl) rfl rfl hl.1 rfl (lv_room (Nat.le_of_ble_eq_true rfl)) dX12_row_249 ⟨Nat.le_of_ble_eq_true rfl, Nat.le_of_ble_eq_true rfl⟩) hS (fun q _ h => hFc q h) hFc (fun r u t H locs ht hvm hw hB hz1 hk1 hS => ?_)
      obtain ⟨hP1, hD1⟩ := hB
      have hP1 := g5_ht ht hP1
      obtain ⟨z14, z15, z16, (i_13 : 0 ≤ z15.toInt ∧ z15.toInt ≤ 1), y17, rfl⟩ := hw
      have hJ9 := va_join (wr := [(b_ro, (arI G 5740 k35_ro)), (b_tp, (arI G 400 v_tp))]) hP hD [0, 1] [2, 3] rfl rfl (by decide +kernel) (by decide +kernel) hk1 hFc hP1 hD1
      clear hP hD hPc hDc hFc ht hvm hz1 hk1 hP1 hD1
      obtain ⟨hP, hD⟩ := hJ9
      refine g5_rs [(b_ro, (arI G 5740 k35_ro)), (b_tp, (arI G 400 v_tp)), (b_o, (oc12 0 z14 b_rf b_ro b_im b_ke k35_fd b_tp 0 u_fr u_to u_so u_wo u_fa u_bd u_nc b_nl u_co b_op b_ar u_le b_pi b_pa u_pd u_od b_ws b_hw u_la b_se b_re u_bk u_va u_su u_ce u_ho u_wy u_bt u_ps b_pt u_tg u_sn b_ip z15 b_ah b_be b_me u_wd b_tr b_ld u_st b_wn u_id)), (b_rf, (arI G 7 z16))] hP hD ?_
      clear hP hD
      intro hP hD
      refine g5_ti (v := k35_2) y17 ?_
      exact W.iret (v := k35_2) hx hb hr (fun t ht hW => ⟨⟨k35_2, [(b_o, (oc12 0 z14 b_rf b_ro b_im b_ke k35_fd b_tp 0 u_fr u_to u_so u_wo u_fa u_bd u_nc b_nl u_co b_op b_ar u_le b_pi b_pa u_pd u_od b_ws b_hw u_la b_se b_re u_bk u_va u_su u_ce u_ho u_wy u_bt u_ps b_pt u_tg u_sn b_ip z15 b_ah b_be b_me u_wd b_tr b_ld u_st b_wn u_id)), (b_rf, (arI G 7 z16)), (b_ro, (arI G 5740 k35_ro)), (b_tp, (arI G 400 v_tp))], rfl, ⟨k35_2, 0, z14, k35_fd, 0, z15, z16, k35_ro, i_4, ⟨by have zc_o_td : (0 : Int32).toInt = 0 := (by decide +kernel); omega, by have zc_o_td : (0 : Int32).toInt = 0 := (by decide +kernel); omega⟩, i_13, by decide, rfl, (row_0 (t := v_tp) (td := u_td) (fd := u_fd) (f := v_ro) (a := k35_3) (c := k35_2) (g := k35_fd) (by omega) (by omega) (by omega) (by omega) (by omega) i_9 (by omega)).1, i_10.trans (row_0 (t := v_tp) (td := u_td) (fd := u_fd) (f := v_ro) (a := k35_3) (c := k35_2) (g := k35_fd) (by omega) (by omega) (by omega) (by omega) (by omega) i_9 (by omega)).2.1, (row_0 (t := v_tp) (td := u_td) (fd := u_fd) (f := v_ro) (a := k35_3) (c := k35_2) (g := k35_fd) (by omega) (by omega) (by omega) (by omega) (by omega) i_9 (by omega)).2.2, rfl, rfl⟩, by rw [ht]; exact hP.sub [2, 3, 0, 1] rfl, hD.sub [2, 3, 0, 1] (by decide +kernel) rfl⟩, hS.F ht⟩) hS.2.2 dX12_row_252
    ·
      have i_12 : k35_3.toInt < u_td.toInt := g5_geN (a := k35_3.toInt) (b := u_td.toInt) rfl rfl c_12
      refine lv_iload_n hx hb dX12_row_40 rfl (lv_at hl 1 rfl) ?_
      refine lv_iconst (v := 3) hx hb dX12_row_41 (by decide +kernel) ?_
      refine lv_iadd hx hb dX12_row_42 ?_
      have t_18 : (k35_3 + 3).toInt = k35_3.toInt + 3 := g5_iadd (a := k35_3.toInt) (b := 3) (by rfl) (by decide +kernel) (by omega) (by omega)
      refine lv_iload_n hx hb dX12_row_43 rfl (lv_at hl 2 rfl) ?_
      refine W.eq (g2 := F0 m 44 ls [.int u_td, .int (k35_3 + 3)]) rfl ?_
      refine lv_icmp_ge (tgt := 111) hx hb dX12_row_44 (by decide +kernel) (fun c_19 => ?_) (fun c_19 => ?_)
      ·
        have i_19 : (k35_3.toInt + 3) ≥ u_td.toInt := by have z := g5_ge (a := (k35_3 + 3).toInt) (b := u_td.toInt) (by rfl) (by rfl) c_19; omega
        refine lv_iconst (v := 0) hx hb dX12_row_111 (by decide +kernel) ?_
        refine lv_istore (lv' := [(4, .int 0), (2, .int k35_2), (3, .int k35_3), (1, .int u_td), (0, .ref b_o)]) hx hb dX12_row_112 hl (by decide +kernel) rfl ?_
        clear hl
        intro ls hl
        refine lv_iload hx hb dX12_row_114 (lv_at hl 0 rfl) ?_
        refine lv_if_eq (tgt := 165) hx hb dX12_row_116 (by decide +kernel) (fun c_20 => ?_) (fun c_20 => ?_)
        ·
          refine lv_iconst (v := 0) hx hb dX12_row_165 (by decide +kernel) ?_
          refine lv_istore (lv' := [(4, .int 0), (2, .int k35_2), (3, .int k35_3), (1, .int u_td), (0, .ref b_o)]) hx hb dX12_row_166 hl (by decide +kernel) rfl ?_
          clear hl
          intro ls hl
          refine lv_iload hx hb dX12_row_168 (lv_at hl 0 rfl) ?_
          refine lv_if_eq (tgt := 231) hx hb dX12_row_170 (by decide +kernel) (fun c_21 => ?_) (fun c_21 => ?_)
          ·
            refine lv_aload_n hx hb dX12_row_231 rfl (lv_at hl 4 rfl) ?_
            refine lv_dup hx hb dX12_row_232 rfl ?_
            refine va_get (D := G.1) (ci := 12) (v := .int k35_fd) (C := RX12) (T := TX12) (N := 52) hx hb hts inG_X12 hown hK hP 0 rfl rfl 6 (by decide +kernel) (hts _ fl_X12_195) (fun _ h9 => h9) rfl dX12_row_233 ?_
            refine lv_iconst (v := 1) hx hb dX12_row_236 (by decide +kernel) ?_
            refine W.eq (g2 := F0 m 237 ls [.int 1, .int k35_fd, .ref b_o]) rfl ?_
            refine lv_iadd hx hb dX12_row_237 ?_
            have t_22 : (k35_fd + 1).toInt = k35_fd.toInt + 1 := g5_iadd (a := k35_fd.toInt) (b := 1) (by rfl) (by decide +kernel) (by omega) (by omega)
            refine va_put (D := G.1) (ci := 12) (v := .int (k35_fd + 1)) (ty := .int) (C := RX12) (T := TX12) (N := 52) hx hb hts inG_X12 tyX12 tyX12_ok nmX12 hown hK hP hD hS 0 rfl rfl 6 (by decide +kernel) (hts _ fl_X12_195) (fun _ h9 => h9) rfl (by decide +kernel) rfl rfl (Nat.le_of_ble_eq_true rfl) dX12_row_238 ?_
            clear hP hD hS
            intro H locs hP hD hS
            refine g5_rs [(b_o, (oc12 0 u_sa b_rf b_ro b_im b_ke (k35_fd + 1) b_tp 0 u_fr u_to u_so u_wo u_fa u_bd u_nc b_nl u_co b_op b_ar u_le b_pi b_pa u_pd u_od b_ws b_hw u_la b_se b_re u_bk u_va u_su u_ce u_ho u_wy u_bt u_ps b_pt u_tg u_sn b_ip u_ic b_ah b_be b_me u_wd b_tr b_ld u_st b_wn u_id)), (b_rf, (arI G 7 v_rf)), (b_ro, (arI G 5740 k35_ro)), (b_tp, (arI G 400 v_tp))] hP hD ?_
            clear hP hD
            intro hP hD
            refine lv_iinc (v := (k35_3 + 4)) (lv' := [(3, .int (k35_3 + 4)), (4, .int 0), (2, .int k35_2), (1, .int u_td), (0, .ref b_o)]) hx hb dX12_row_241 hl (k := 2) rfl rfl (by decide +kernel) rfl ?_
            clear hl
            intro ls hl
            have t_23 : (k35_3 + 4).toInt = k35_3.toInt + 4 := g5_iadd (a := k35_3.toInt) (b := 4) rfl (by decide +kernel) (by omega) (by omega)
            refine lv_goto (tgt := 35) hx hb dX12_row_244 (by decide +kernel) ?_
            exact ih_35_11 ((k35_3 + 4), k35_2, (k35_fd + 1), k35_ro) ls H locs (show Int.toNat (404 - (k35_3 + 4).toInt) < Int.toNat (404 - k35_3.toInt) from g_up (show k35_3.toInt < (k35_3 + 4).toInt by omega) (show k35_3.toInt < 404 by omega)) ⟨lv_sub hl [2, 0, 3, 4] rfl, hP, hD, hS, ⟨by omega, by omega⟩, i_3, i_4, by omega, by omega, ⟨by omega, by omega⟩, by omega, (by rw [show ((k35_3 + 4).toInt / 4).toNat = (k35_3.toInt / 4).toNat + 1 by omega, rwC_S (k := k35_3.toInt.toNat) (by omega), ← i_9, ← i_10, cif_f (fun q => by have q1 := q.1; omega)]; omega), (by rw [show ((k35_3 + 4).toInt / 4).toNat = (k35_3.toInt / 4).toNat + 1 by omega, rwS_S (k := k35_3.toInt.toNat) (by omega), ← i_10, rw_stayN (fun q => by have q1 := q.1; omega)])⟩
          ·
            exact absurd c_21 (by decide +kernel)
        ·
          exact absurd c_20 (by decide +kernel)
      ·
        have i_19 : (k35_3.toInt + 3) < u_td.toInt := by have z := g5_geN (a := (k35_3 + 3).toInt) (b := u_td.toInt) (by rfl) (by rfl) c_19; omega
        refine lv_aload_n hx hb dX12_row_47 rfl (lv_at hl 3 rfl) ?_
        refine lv_aload_n hx hb dX12_row_48 rfl (lv_at hl 3 rfl) ?_
        refine va_get (D := G.1) (ci := 12) (v := .ref b_tp) (C := RX12) (T := TX12) (N := 52) hx hb hts inG_X12 hown hK hP 0 rfl rfl 7 (by decide +kernel) (hts _ fl_X12_23) (fun _ h9 => h9) rfl dX12_row_49 ?_
        refine lv_iload_n hx hb dX12_row_52 rfl (lv_at hl 1 rfl) ?_
        refine W.eq (g2 := F0 m 53 ls [.int k35_3, .ref b_tp, .ref b_o]) rfl ?_
        refine va_iald hx hb hK hP 3 0 rfl rfl (i := k35_3) (vp_in_iff.mpr ⟨by omega, by omega⟩) dX12_row_53 ?_
        have hr_24 : 0 ≤ (v_tp k35_3.toNatClampNeg).toInt ∧ (v_tp k35_3.toNatClampNeg).toInt ≤ 255 := r_tp (k35_3.toNatClampNeg)
        obtain ⟨y25, hy_25⟩ : ∃ y : Int32, v_tp k35_3.toInt.toNat = y := ⟨_, rfl⟩
        have hr_25 : 0 ≤ y25.toInt ∧ y25.toInt ≤ 255 := by rw [← hy_25]; exact r_tp _
        have hq_26 : (v_tp k35_3.toNatClampNeg) = y25 := hy_25
        refine g5_ti (v := y25) hq_26 ?_
        obtain ⟨hPc, hDc, hFc⟩ := g5_sub3 (wc := [(b_o, (oc12 0 u_sa b_rf b_ro b_im b_ke k35_fd b_tp 0 u_fr u_to u_so u_wo u_fa u_bd u_nc b_nl u_co b_op b_ar u_le b_pi b_pa u_pd u_od b_ws b_hw u_la b_se b_re u_bk u_va u_su u_ce u_ho u_wy u_bt u_ps b_pt u_tg u_sn b_ip u_ic b_ah b_be b_me u_wd b_tr b_ld u_st b_wn u_id)), (b_ro, (arI G 5740 k35_ro))]) hP hD hS hA [0, 2] (by decide +kernel) rfl
        refine va_calli (va_runV (As := [.int y25]) (rest := []) ⟨hx, hb, hml, hown, hts⟩ (n_isBodyE l G b_o b_ro b_rf b_im b_ke b_tp b_nl b_op b_ar b_pi b_pa b_ws b_hw b_se b_re b_pt b_ip b_ah b_be b_me b_tr b_ld b_wn H.size 0 u_sa k35_fd 0 u_fr u_to u_so u_fa u_bd u_nc u_co u_le u_pd u_od u_la u_bk u_ce u_ho u_wy u_bt u_ps u_tg u_sn u_ic u_wd u_id y25 u_wo u_va u_su u_st k35_ro ⟨by decide, by decide⟩ h_u_fr h_u_to h_u_bd h_u_nc h_u_co h_u_pd h_u_la h_u_bk h_u_ce h_u_ho h_u_wy h_u_bt h_u_ps h_u_ic h_u_id (i_4)) (cwV 1 hts gV_X12_180 rfl rfl rfl hv_X12_isBody ⟨Nat.le_of_ble_eq_true rfl, Nat.le_of_ble_eq_true rfl⟩) (g5_preV hPc hK hDc hN hT hS hFc (ci := 12) (q0 := 0) rfl rfl) rfl rfl hl.1 rfl (lv_room (Nat.le_of_ble_eq_true rfl)) dX12_row_54 ⟨Nat.le_of_ble_eq_true rfl, Nat.le_of_ble_eq_true rfl⟩) hS (fun q _ h => hFc q h) hFc (fun r u t H locs ht hvm hw hB hz1 hk1 hS => ?_)
        obtain ⟨hP1, hD1⟩ := hB
        have hP1 := g5_ht ht hP1
        rcases hw with ⟨(i_27 : isB k35_ro y25), (i_28 : 0 ≤ y25.toInt ∧ y25.toInt ≤ 4), rfl, rfl⟩ | ⟨i_29, rfl, rfl⟩
        ·
          have hJ9 := va_join (wr := [(b_rf, (arI G 7 v_rf)), (b_tp, (arI G 400 v_tp))]) hP hD [0, 2] [1, 3] rfl rfl (by decide +kernel) (by decide +kernel) hk1 hFc hP1 hD1
          clear hP hD hPc hDc hFc ht hvm hz1 hk1 hP1 hD1
          obtain ⟨hP, hD⟩ := hJ9
          refine g5_rs [(b_rf, (arI G 7 v_rf)), (b_tp, (arI G 400 v_tp)), (b_o, (oc12 0 u_sa b_rf b_ro b_im b_ke k35_fd b_tp 0 u_fr u_to u_so u_wo u_fa u_bd u_nc b_nl u_co b_op b_ar u_le b_pi b_pa u_pd u_od b_ws b_hw u_la b_se b_re u_bk u_va u_su u_ce u_ho u_wy u_bt u_ps b_pt u_tg u_sn b_ip u_ic b_ah b_be b_me u_wd b_tr b_ld u_st b_wn u_id)), (b_ro, (arI G 5740 k35_ro))] hP hD ?_
          clear hP hD
          intro hP hD
          refine lv_if_eq (tgt := 111) hx hb dX12_row_57 (by decide +kernel) (fun c_30 => ?_) (fun c_30 => ?_)
          ·
            exact absurd c_30 (by decide +kernel)
          ·
            refine lv_aload_n hx hb dX12_row_60 rfl (lv_at hl 3 rfl) ?_
            refine va_get (D := G.1) (ci := 12) (v := .ref b_tp) (C := RX12) (T := TX12) (N := 52) hx hb hts inG_X12 hown hK hP 2 rfl rfl 7 (by decide +kernel) (hts _ fl_X12_23) (fun _ h9 => h9) rfl dX12_row_61 ?_
            refine lv_iload_n hx hb dX12_row_64 rfl (lv_at hl 1 rfl) ?_
            refine lv_iconst (v := 1) hx hb dX12_row_65 (by decide +kernel) ?_
            refine W.eq (g2 := F0 m 66 ls [.int 1, .int k35_3, .ref b_tp]) rfl ?_
            refine lv_iadd hx hb dX12_row_66 ?_
            have t_31 : (k35_3 + 1).toInt = k35_3.toInt + 1 := g5_iadd (a := k35_3.toInt) (b := 1) (by rfl) (by decide +kernel) (by omega) (by omega)
            refine va_iald hx hb hK hP 1 0 rfl rfl (i := (k35_3 + 1)) (vp_in_iff.mpr ⟨by omega, by omega⟩) dX12_row_67 ?_
            have hr_32 : 0 ≤ (v_tp (k35_3 + 1).toNatClampNeg).toInt ∧ (v_tp (k35_3 + 1).toNatClampNeg).toInt ≤ 255 := r_tp ((k35_3 + 1).toNatClampNeg)
            obtain ⟨y33, hy_33⟩ : ∃ y : Int32, v_tp (k35_3.toInt.toNat + 1) = y := ⟨_, rfl⟩
            have hr_33 : 0 ≤ y33.toInt ∧ y33.toInt ≤ 255 := by rw [← hy_33]; exact r_tp _
            have hq_34 : (v_tp (k35_3 + 1).toNatClampNeg) = y33 := by rw [← hy_33]; congr 1; have zz := g5_clamp (k35_3 + 1); omega
            refine g5_ti (v := y33) hq_34 ?_
            obtain ⟨hPc, hDc, hFc⟩ := g5_sub3 (wc := []) hP hD hS hA [] (by decide +kernel) rfl
            refine va_calli (va_runS (As := [.int y33]) (rest := []) ⟨hx, hb, hml, hown, hts⟩ (n_isHourE l G H.size y33) (va_cwS 1 hts gS_X12_175 rfl rfl rfl hs_X12_isHour ⟨Nat.le_of_ble_eq_true rfl, Nat.le_of_ble_eq_true rfl⟩) (g5_preS hPc hK hDc hN hT hS hFc) rfl rfl hl.1 rfl (lv_room (Nat.le_of_ble_eq_true rfl)) dX12_row_68 ⟨Nat.le_of_ble_eq_true rfl, Nat.le_of_ble_eq_true rfl⟩) hS (fun q _ h => hFc q h) hFc (fun r u t H locs ht hvm hw hB hz1 hk1 hS => ?_)
            obtain ⟨hP1, hD1⟩ := hB
            have hP1 := g5_ht ht hP1
            rcases hw with ⟨(i_35 : 0 ≤ y33.toInt ∧ y33.toInt ≤ 23), rfl, rfl⟩ | ⟨(i_36 : y33.toInt < 0 ∨ 23 < y33.toInt), rfl, rfl⟩
            ·
              have hJ9 := g5_same hP hk1
              clear hP hPc hDc hFc ht hvm hz1 hk1 hP1 hD1
              have hP := hJ9
              clear hJ9
              refine lv_if_eq (tgt := 111) hx hb dX12_row_71 (by decide +kernel) (fun c_37 => ?_) (fun c_37 => ?_)
              ·
                exact absurd c_37 (by decide +kernel)
              ·
                refine lv_aload_n hx hb dX12_row_74 rfl (lv_at hl 3 rfl) ?_
                refine va_get (D := G.1) (ci := 12) (v := .ref b_tp) (C := RX12) (T := TX12) (N := 52) hx hb hts inG_X12 hown hK hP 2 rfl rfl 7 (by decide +kernel) (hts _ fl_X12_23) (fun _ h9 => h9) rfl dX12_row_75 ?_
                refine lv_iload_n hx hb dX12_row_78 rfl (lv_at hl 1 rfl) ?_
                refine lv_iconst (v := 2) hx hb dX12_row_79 (by decide +kernel) ?_
                refine W.eq (g2 := F0 m 80 ls [.int 2, .int k35_3, .ref b_tp]) rfl ?_
                refine lv_iadd hx hb dX12_row_80 ?_
                have t_38 : (k35_3 + 2).toInt = k35_3.toInt + 2 := g5_iadd (a := k35_3.toInt) (b := 2) (by rfl) (by decide +kernel) (by omega) (by omega)
                refine va_iald hx hb hK hP 1 0 rfl rfl (i := (k35_3 + 2)) (vp_in_iff.mpr ⟨by omega, by omega⟩) dX12_row_81 ?_
                have hr_39 : 0 ≤ (v_tp (k35_3 + 2).toNatClampNeg).toInt ∧ (v_tp (k35_3 + 2).toNatClampNeg).toInt ≤ 255 := r_tp ((k35_3 + 2).toNatClampNeg)
                obtain ⟨y40, hy_40⟩ : ∃ y : Int32, v_tp (k35_3.toInt.toNat + 2) = y := ⟨_, rfl⟩
                have hr_40 : 0 ≤ y40.toInt ∧ y40.toInt ≤ 255 := by rw [← hy_40]; exact r_tp _
                have hq_41 : (v_tp (k35_3 + 2).toNatClampNeg) = y40 := by rw [← hy_40]; congr 1; have zz := g5_clamp (k35_3 + 2); omega
                refine g5_ti (v := y40) hq_41 ?_
                obtain ⟨hPc, hDc, hFc⟩ := g5_sub3 (wc := []) hP hD hS hA [] (by decide +kernel) rfl
                refine va_calli (va_runS (As := [.int y40]) (rest := []) ⟨hx, hb, hml, hown, hts⟩ (n_isHourE l G H.size y40) (va_cwS 1 hts gS_X12_175 rfl rfl rfl hs_X12_isHour ⟨Nat.le_of_ble_eq_true rfl, Nat.le_of_ble_eq_true rfl⟩) (g5_preS hPc hK hDc hN hT hS hFc) rfl rfl hl.1 rfl (lv_room (Nat.le_of_ble_eq_true rfl)) dX12_row_82 ⟨Nat.le_of_ble_eq_true rfl, Nat.le_of_ble_eq_true rfl⟩) hS (fun q _ h => hFc q h) hFc (fun r u t H locs ht hvm hw hB hz1 hk1 hS => ?_)
                obtain ⟨hP1, hD1⟩ := hB
                have hP1 := g5_ht ht hP1
                rcases hw with ⟨(i_42 : 0 ≤ y40.toInt ∧ y40.toInt ≤ 23), rfl, rfl⟩ | ⟨(i_43 : y40.toInt < 0 ∨ 23 < y40.toInt), rfl, rfl⟩
                ·
                  have hJ9 := g5_same hP hk1
                  clear hP hPc hDc hFc ht hvm hz1 hk1 hP1 hD1
                  have hP := hJ9
                  clear hJ9
                  refine lv_if_eq (tgt := 111) hx hb dX12_row_85 (by decide +kernel) (fun c_44 => ?_) (fun c_44 => ?_)
                  ·
                    exact absurd c_44 (by decide +kernel)
                  ·
                    refine lv_aload_n hx hb dX12_row_88 rfl (lv_at hl 3 rfl) ?_
                    refine va_get (D := G.1) (ci := 12) (v := .ref b_tp) (C := RX12) (T := TX12) (N := 52) hx hb hts inG_X12 hown hK hP 2 rfl rfl 7 (by decide +kernel) (hts _ fl_X12_23) (fun _ h9 => h9) rfl dX12_row_89 ?_
                    refine lv_iload_n hx hb dX12_row_92 rfl (lv_at hl 1 rfl) ?_
                    refine lv_iconst (v := 2) hx hb dX12_row_93 (by decide +kernel) ?_
                    refine W.eq (g2 := F0 m 94 ls [.int 2, .int k35_3, .ref b_tp]) rfl ?_
                    refine lv_iadd hx hb dX12_row_94 ?_
                    have t_45 : (k35_3 + 2).toInt = k35_3.toInt + 2 := g5_iadd (a := k35_3.toInt) (b := 2) (by rfl) (by decide +kernel) (by omega) (by omega)
                    refine va_iald hx hb hK hP 1 0 rfl rfl (i := (k35_3 + 2)) (vp_in_iff.mpr ⟨by omega, by omega⟩) dX12_row_95 ?_
                    have hr_46 : 0 ≤ (v_tp (k35_3 + 2).toNatClampNeg).toInt ∧ (v_tp (k35_3 + 2).toNatClampNeg).toInt ≤ 255 := r_tp ((k35_3 + 2).toNatClampNeg)
                    have hq_47 : (v_tp (k35_3 + 2).toNatClampNeg) = y40 := by rw [← hy_40]; congr 1; have zz := g5_clamp (k35_3 + 2); omega
                    refine g5_ti (v := y40) hq_47 ?_
                    refine lv_aload_n hx hb dX12_row_96 rfl (lv_at hl 3 rfl) ?_
                    refine va_get (D := G.1) (ci := 12) (v := .ref b_tp) (C := RX12) (T := TX12) (N := 52) hx hb hts inG_X12 hown hK hP 2 rfl rfl 7 (by decide +kernel) (hts _ fl_X12_23) (fun _ h9 => h9) rfl dX12_row_97 ?_
                    refine lv_iload_n hx hb dX12_row_100 rfl (lv_at hl 1 rfl) ?_
                    refine W.eq (g2 := F0 m 101 ls [.int k35_3, .ref b_tp, .int y40]) rfl ?_
                    refine lv_iconst (v := 1) hx hb dX12_row_101 (by decide +kernel) ?_
                    refine lv_iadd hx hb dX12_row_102 ?_
                    have t_48 : (k35_3 + 1).toInt = k35_3.toInt + 1 := g5_iadd (a := k35_3.toInt) (b := 1) (by rfl) (by decide +kernel) (by omega) (by omega)
                    refine va_iald hx hb hK hP 1 0 rfl rfl (i := (k35_3 + 1)) (vp_in_iff.mpr ⟨by omega, by omega⟩) dX12_row_103 ?_
                    have hr_49 : 0 ≤ (v_tp (k35_3 + 1).toNatClampNeg).toInt ∧ (v_tp (k35_3 + 1).toNatClampNeg).toInt ≤ 255 := r_tp ((k35_3 + 1).toNatClampNeg)
                    have hq_50 : (v_tp (k35_3 + 1).toNatClampNeg) = y33 := by rw [← hy_33]; congr 1; have zz := g5_clamp (k35_3 + 1); omega
                    refine g5_ti (v := y33) hq_50 ?_
                    refine lv_icmp_lt (tgt := 111) hx hb dX12_row_104 (by decide +kernel) (fun c_51 => ?_) (fun c_51 => ?_)
                    ·
                      have i_51 : y40.toInt < y33.toInt := g5_lt (a := y40.toInt) (b := y33.toInt) rfl rfl c_51
                      refine lv_iconst (v := 0) hx hb dX12_row_111 (by decide +kernel) ?_
                      refine lv_istore (lv' := [(4, .int 0), (2, .int k35_2), (3, .int k35_3), (1, .int u_td), (0, .ref b_o)]) hx hb dX12_row_112 hl (by decide +kernel) rfl ?_
                      clear hl
                      intro ls hl
                      refine lv_iload hx hb dX12_row_114 (lv_at hl 0 rfl) ?_
                      refine lv_if_eq (tgt := 165) hx hb dX12_row_116 (by decide +kernel) (fun c_52 => ?_) (fun c_52 => ?_)
                      ·
                        refine lv_iconst (v := 0) hx hb dX12_row_165 (by decide +kernel) ?_
                        refine lv_istore (lv' := [(4, .int 0), (2, .int k35_2), (3, .int k35_3), (1, .int u_td), (0, .ref b_o)]) hx hb dX12_row_166 hl (by decide +kernel) rfl ?_
                        clear hl
                        intro ls hl
                        refine lv_iload hx hb dX12_row_168 (lv_at hl 0 rfl) ?_
                        refine lv_if_eq (tgt := 231) hx hb dX12_row_170 (by decide +kernel) (fun c_53 => ?_) (fun c_53 => ?_)
                        ·
                          refine lv_aload_n hx hb dX12_row_231 rfl (lv_at hl 4 rfl) ?_
                          refine lv_dup hx hb dX12_row_232 rfl ?_
                          refine va_get (D := G.1) (ci := 12) (v := .int k35_fd) (C := RX12) (T := TX12) (N := 52) hx hb hts inG_X12 hown hK hP 2 rfl rfl 6 (by decide +kernel) (hts _ fl_X12_195) (fun _ h9 => h9) rfl dX12_row_233 ?_
                          refine lv_iconst (v := 1) hx hb dX12_row_236 (by decide +kernel) ?_
                          refine W.eq (g2 := F0 m 237 ls [.int 1, .int k35_fd, .ref b_o]) rfl ?_
                          refine lv_iadd hx hb dX12_row_237 ?_
                          have t_54 : (k35_fd + 1).toInt = k35_fd.toInt + 1 := g5_iadd (a := k35_fd.toInt) (b := 1) (by rfl) (by decide +kernel) (by omega) (by omega)
                          refine va_put (D := G.1) (ci := 12) (v := .int (k35_fd + 1)) (ty := .int) (C := RX12) (T := TX12) (N := 52) hx hb hts inG_X12 tyX12 tyX12_ok nmX12 hown hK hP hD hS 2 rfl rfl 6 (by decide +kernel) (hts _ fl_X12_195) (fun _ h9 => h9) rfl (by decide +kernel) rfl rfl (Nat.le_of_ble_eq_true rfl) dX12_row_238 ?_
                          clear hP hD hS
                          intro H locs hP hD hS
                          refine g5_rs [(b_rf, (arI G 7 v_rf)), (b_tp, (arI G 400 v_tp)), (b_o, (oc12 0 u_sa b_rf b_ro b_im b_ke (k35_fd + 1) b_tp 0 u_fr u_to u_so u_wo u_fa u_bd u_nc b_nl u_co b_op b_ar u_le b_pi b_pa u_pd u_od b_ws b_hw u_la b_se b_re u_bk u_va u_su u_ce u_ho u_wy u_bt u_ps b_pt u_tg u_sn b_ip u_ic b_ah b_be b_me u_wd b_tr b_ld u_st b_wn u_id)), (b_ro, (arI G 5740 k35_ro))] hP hD ?_
                          clear hP hD
                          intro hP hD
                          refine lv_iinc (v := (k35_3 + 4)) (lv' := [(3, .int (k35_3 + 4)), (4, .int 0), (2, .int k35_2), (1, .int u_td), (0, .ref b_o)]) hx hb dX12_row_241 hl (k := 2) rfl rfl (by decide +kernel) rfl ?_
                          clear hl
                          intro ls hl
                          have t_55 : (k35_3 + 4).toInt = k35_3.toInt + 4 := g5_iadd (a := k35_3.toInt) (b := 4) rfl (by decide +kernel) (by omega) (by omega)
                          refine lv_goto (tgt := 35) hx hb dX12_row_244 (by decide +kernel) ?_
                          exact ih_35_11 ((k35_3 + 4), k35_2, (k35_fd + 1), k35_ro) ls H locs (show Int.toNat (404 - (k35_3 + 4).toInt) < Int.toNat (404 - k35_3.toInt) from g_up (show k35_3.toInt < (k35_3 + 4).toInt by omega) (show k35_3.toInt < 404 by omega)) ⟨lv_sub hl [2, 0, 3, 4] rfl, hP.sub [2, 0, 3, 1] rfl, hD.sub [2, 0, 3, 1] (by decide +kernel) rfl, hS, ⟨by omega, by omega⟩, i_3, i_4, by omega, by omega, ⟨by omega, by omega⟩, by omega, (by rw [show ((k35_3 + 4).toInt / 4).toNat = (k35_3.toInt / 4).toNat + 1 by omega, rwC_S (k := k35_3.toInt.toNat) (by omega), ← i_9, ← i_10, cif_f (fun q => by have q := (cq_mk (td := u_td.toInt) (f := k35_ro) (t := v_tp) (k := k35_3.toInt.toNat) hy_25 hy_33 hy_40 rfl (rfl)).mp q; have q2 := q.2.2.1; unfold okS at q2; omega)]; omega), (by rw [show ((k35_3 + 4).toInt / 4).toNat = (k35_3.toInt / 4).toNat + 1 by omega, rwS_S (k := k35_3.toInt.toNat) (by omega), ← i_10, rw_stayN (fun q => by have q := (cq_mk (td := u_td.toInt) (f := k35_ro) (t := v_tp) (k := k35_3.toInt.toNat) hy_25 hy_33 hy_40 rfl (rfl)).mp q; have q2 := q.2.2.1; unfold okS at q2; omega)])⟩
                        ·
                          exact absurd c_53 (by decide +kernel)
                      ·
                        exact absurd c_52 (by decide +kernel)
                    ·
                      have i_51 : y40.toInt ≥ y33.toInt := g5_ltN (a := y40.toInt) (b := y33.toInt) rfl rfl c_51
                      refine lv_iconst (v := 1) hx hb dX12_row_107 (by decide +kernel) ?_
                      refine lv_goto (tgt := 112) hx hb dX12_row_108 (by decide +kernel) ?_
                      refine lv_istore (lv' := [(4, .int 1), (2, .int k35_2), (3, .int k35_3), (1, .int u_td), (0, .ref b_o)]) hx hb dX12_row_112 hl (by decide +kernel) rfl ?_
                      clear hl
                      intro ls hl
                      refine lv_iload hx hb dX12_row_114 (lv_at hl 0 rfl) ?_
                      refine W.eq (g2 := F0 m 116 ls [.int 1]) rfl ?_
                      refine lv_if_eq (tgt := 165) hx hb dX12_row_116 (by decide +kernel) (fun c_56 => ?_) (fun c_56 => ?_)
                      ·
                        exact absurd c_56 (by decide +kernel)
                      ·
                        refine lv_aload_n hx hb dX12_row_119 rfl (lv_at hl 4 rfl) ?_
                        refine va_get (D := G.1) (ci := 12) (v := .ref b_tp) (C := RX12) (T := TX12) (N := 52) hx hb hts inG_X12 hown hK hP 2 rfl rfl 7 (by decide +kernel) (hts _ fl_X12_23) (fun _ h9 => h9) rfl dX12_row_120 ?_
                        refine lv_iload_n hx hb dX12_row_123 rfl (lv_at hl 2 rfl) ?_
                        refine lv_iconst (v := 3) hx hb dX12_row_124 (by decide +kernel) ?_
                        refine W.eq (g2 := F0 m 125 ls [.int 3, .int k35_3, .ref b_tp]) rfl ?_
                        refine lv_iadd hx hb dX12_row_125 ?_
                        have t_57 : (k35_3 + 3).toInt = k35_3.toInt + 3 := g5_iadd (a := k35_3.toInt) (b := 3) (by rfl) (by decide +kernel) (by omega) (by omega)
                        refine va_iald hx hb hK hP 1 0 rfl rfl (i := (k35_3 + 3)) (vp_in_iff.mpr ⟨by omega, by omega⟩) dX12_row_126 ?_
                        have hr_58 : 0 ≤ (v_tp (k35_3 + 3).toNatClampNeg).toInt ∧ (v_tp (k35_3 + 3).toNatClampNeg).toInt ≤ 255 := r_tp ((k35_3 + 3).toNatClampNeg)
                        obtain ⟨y59, hy_59⟩ : ∃ y : Int32, v_tp (k35_3.toInt.toNat + 3) = y := ⟨_, rfl⟩
                        have hr_59 : 0 ≤ y59.toInt ∧ y59.toInt ≤ 255 := by rw [← hy_59]; exact r_tp _
                        have hq_60 : (v_tp (k35_3 + 3).toNatClampNeg) = y59 := by rw [← hy_59]; congr 1; have zz := g5_clamp (k35_3 + 3); omega
                        refine g5_ti (v := y59) hq_60 ?_
                        refine lv_sipush (v := 255) hx hb dX12_row_127 (by decide +kernel) ?_
                        refine lv_icmp_eq (tgt := 161) hx hb dX12_row_130 (by decide +kernel) (fun c_61 => ?_) (fun c_61 => ?_)
                        ·
                          have i_61 : y59.toInt = 255 := g5_eq (a := y59.toInt) (b := 255) rfl (by decide +kernel) c_61
                          refine lv_iconst (v := 1) hx hb dX12_row_161 (by decide +kernel) ?_
                          refine lv_goto (tgt := 166) hx hb dX12_row_162 (by decide +kernel) ?_
                          refine lv_istore (lv' := [(4, .int 1), (2, .int k35_2), (3, .int k35_3), (1, .int u_td), (0, .ref b_o)]) hx hb dX12_row_166 hl (by decide +kernel) rfl ?_
                          clear hl
                          intro ls hl
                          refine lv_iload hx hb dX12_row_168 (lv_at hl 0 rfl) ?_
                          refine W.eq (g2 := F0 m 170 ls [.int 1]) rfl ?_
                          refine lv_if_eq (tgt := 231) hx hb dX12_row_170 (by decide +kernel) (fun c_62 => ?_) (fun c_62 => ?_)
                          ·
                            exact absurd c_62 (by decide +kernel)
                          ·
                            refine lv_aload_n hx hb dX12_row_173 rfl (lv_at hl 4 rfl) ?_
                            refine lv_aload_n hx hb dX12_row_174 rfl (lv_at hl 4 rfl) ?_
                            refine va_get (D := G.1) (ci := 12) (v := .ref b_tp) (C := RX12) (T := TX12) (N := 52) hx hb hts inG_X12 hown hK hP 2 rfl rfl 7 (by decide +kernel) (hts _ fl_X12_23) (fun _ h9 => h9) rfl dX12_row_175 ?_
                            refine lv_iload_n hx hb dX12_row_178 rfl (lv_at hl 2 rfl) ?_
                            refine W.eq (g2 := F0 m 179 ls [.int k35_3, .ref b_tp, .ref b_o]) rfl ?_
                            refine va_iald hx hb hK hP 1 0 rfl rfl (i := k35_3) (vp_in_iff.mpr ⟨by omega, by omega⟩) dX12_row_179 ?_
                            have hr_63 : 0 ≤ (v_tp k35_3.toNatClampNeg).toInt ∧ (v_tp k35_3.toNatClampNeg).toInt ≤ 255 := r_tp (k35_3.toNatClampNeg)
                            have hq_64 : (v_tp k35_3.toNatClampNeg) = y25 := hy_25
                            refine g5_ti (v := y25) hq_64 ?_
                            refine lv_aload_n hx hb dX12_row_180 rfl (lv_at hl 4 rfl) ?_
                            refine va_get (D := G.1) (ci := 12) (v := .ref b_tp) (C := RX12) (T := TX12) (N := 52) hx hb hts inG_X12 hown hK hP 2 rfl rfl 7 (by decide +kernel) (hts _ fl_X12_23) (fun _ h9 => h9) rfl dX12_row_181 ?_
                            refine lv_iload_n hx hb dX12_row_184 rfl (lv_at hl 2 rfl) ?_
                            refine lv_iconst (v := 1) hx hb dX12_row_185 (by decide +kernel) ?_
                            refine W.eq (g2 := F0 m 186 ls [.int 1, .int k35_3, .ref b_tp, .int y25, .ref b_o]) rfl ?_
                            refine lv_iadd hx hb dX12_row_186 ?_
                            have t_65 : (k35_3 + 1).toInt = k35_3.toInt + 1 := g5_iadd (a := k35_3.toInt) (b := 1) (by rfl) (by decide +kernel) (by omega) (by omega)
                            refine va_iald hx hb hK hP 1 0 rfl rfl (i := (k35_3 + 1)) (vp_in_iff.mpr ⟨by omega, by omega⟩) dX12_row_187 ?_
                            have hr_66 : 0 ≤ (v_tp (k35_3 + 1).toNatClampNeg).toInt ∧ (v_tp (k35_3 + 1).toNatClampNeg).toInt ≤ 255 := r_tp ((k35_3 + 1).toNatClampNeg)
                            have hq_67 : (v_tp (k35_3 + 1).toNatClampNeg) = y33 := by rw [← hy_33]; congr 1; have zz := g5_clamp (k35_3 + 1); omega
                            refine g5_ti (v := y33) hq_67 ?_
                            refine lv_aload_n hx hb dX12_row_188 rfl (lv_at hl 4 rfl) ?_
                            refine va_get (D := G.1) (ci := 12) (v := .ref b_tp) (C := RX12) (T := TX12) (N := 52) hx hb hts inG_X12 hown hK hP 2 rfl rfl 7 (by decide +kernel) (hts _ fl_X12_23) (fun _ h9 => h9) rfl dX12_row_189 ?_
                            refine lv_iload_n hx hb dX12_row_192 rfl (lv_at hl 2 rfl) ?_
                            refine W.eq (g2 := F0 m 193 ls [.int k35_3, .ref b_tp, .int y33, .int y25, .ref b_o]) rfl ?_
                            refine lv_iconst (v := 2) hx hb dX12_row_193 (by decide +kernel) ?_
                            refine lv_iadd hx hb dX12_row_194 ?_
                            have t_68 : (k35_3 + 2).toInt = k35_3.toInt + 2 := g5_iadd (a := k35_3.toInt) (b := 2) (by rfl) (by decide +kernel) (by omega) (by omega)
                            refine va_iald hx hb hK hP 1 0 rfl rfl (i := (k35_3 + 2)) (vp_in_iff.mpr ⟨by omega, by omega⟩) dX12_row_195 ?_
                            have hr_69 : 0 ≤ (v_tp (k35_3 + 2).toNatClampNeg).toInt ∧ (v_tp (k35_3 + 2).toNatClampNeg).toInt ≤ 255 := r_tp ((k35_3 + 2).toNatClampNeg)
                            have hq_70 : (v_tp (k35_3 + 2).toNatClampNeg) = y40 := by rw [← hy_40]; congr 1; have zz := g5_clamp (k35_3 + 2); omega
                            refine g5_ti (v := y40) hq_70 ?_
                            refine lv_aload_n hx hb dX12_row_196 rfl (lv_at hl 4 rfl) ?_
                            refine va_get (D := G.1) (ci := 12) (v := .ref b_tp) (C := RX12) (T := TX12) (N := 52) hx hb hts inG_X12 hown hK hP 2 rfl rfl 7 (by decide +kernel) (hts _ fl_X12_23) (fun _ h9 => h9) rfl dX12_row_197 ?_
                            refine W.eq (g2 := F0 m 200 ls [.ref b_tp, .int y40, .int y33, .int y25, .ref b_o]) rfl ?_
                            refine lv_iload_n hx hb dX12_row_200 rfl (lv_at hl 2 rfl) ?_
                            refine lv_iconst (v := 3) hx hb dX12_row_201 (by decide +kernel) ?_
                            refine lv_iadd hx hb dX12_row_202 ?_
                            have t_71 : (k35_3 + 3).toInt = k35_3.toInt + 3 := g5_iadd (a := k35_3.toInt) (b := 3) (by rfl) (by decide +kernel) (by omega) (by omega)
                            refine va_iald hx hb hK hP 1 0 rfl rfl (i := (k35_3 + 3)) (vp_in_iff.mpr ⟨by omega, by omega⟩) dX12_row_203 ?_
                            have hr_72 : 0 ≤ (v_tp (k35_3 + 3).toNatClampNeg).toInt ∧ (v_tp (k35_3 + 3).toNatClampNeg).toInt ≤ 255 := r_tp ((k35_3 + 3).toNatClampNeg)
                            have hq_73 : (v_tp (k35_3 + 3).toNatClampNeg) = y59 := by rw [← hy_59]; congr 1; have zz := g5_clamp (k35_3 + 3); omega
                            refine g5_ti (v := y59) hq_73 ?_
                            refine lv_sipush (v := 255) hx hb dX12_row_204 (by decide +kernel) ?_
                            refine W.eq (g2 := F0 m 207 ls [.int 255, .int y59, .int y40, .int y33, .int y25, .ref b_o]) rfl ?_
                            refine lv_icmp_ne (tgt := 214) hx hb dX12_row_207 (by decide +kernel) (fun c_74 => ?_) (fun c_74 => ?_)
                            ·
                              have i_74 : y59.toInt ≠ 255 := g5_ne (a := y59.toInt) (b := 255) rfl (by decide +kernel) c_74
                              omega
                            ·
                              have i_74 : y59.toInt = 255 := g5_neN (a := y59.toInt) (b := 255) rfl (by decide +kernel) c_74
                              refine lv_iconst (v := (-1)) hx hb dX12_row_210 (by decide +kernel) ?_
                              refine lv_goto (tgt := 222) hx hb dX12_row_211 (by decide +kernel) ?_
                              obtain ⟨hPc, hDc, hFc⟩ := g5_sub3 (wc := [(b_o, (oc12 0 u_sa b_rf b_ro b_im b_ke k35_fd b_tp 0 u_fr u_to u_so u_wo u_fa u_bd u_nc b_nl u_co b_op b_ar u_le b_pi b_pa u_pd u_od b_ws b_hw u_la b_se b_re u_bk u_va u_su u_ce u_ho u_wy u_bt u_ps b_pt u_tg u_sn b_ip u_ic b_ah b_be b_me u_wd b_tr b_ld u_st b_wn u_id)), (b_ro, (arI G 5740 k35_ro))]) hP hD hS hA [2, 3] (by decide +kernel) rfl
                              refine va_callv (va_runV (As := [.int y25, .int y33, .int y40, .int (-1)]) (rest := []) ⟨hx, hb, hml, hown, hts⟩ (n_staysE l G b_o b_ro b_rf b_im b_ke b_tp b_nl b_op b_ar b_pi b_pa b_ws b_hw b_se b_re b_pt b_ip b_ah b_be b_me b_tr b_ld b_wn H.size 0 u_sa k35_fd 0 u_fr u_to u_so u_fa u_bd u_nc u_co u_le u_pd u_od u_la u_bk u_ce u_ho u_wy u_bt u_ps u_tg u_sn u_ic u_wd u_id y25 y33 y40 (-1) u_wo u_va u_su u_st k35_ro ⟨by decide, by decide⟩ h_u_fr h_u_to h_u_bd h_u_nc h_u_co h_u_pd h_u_la h_u_bk h_u_ce h_u_ho h_u_wy h_u_bt h_u_ps h_u_ic h_u_id i_28 i_35 i_42 ⟨by decide, by decide⟩ (i_4) (by omega)) (cwV 4 hts gV_X12_183 rfl rfl rfl hv_X12_stays ⟨Nat.le_of_ble_eq_true rfl, Nat.le_of_ble_eq_true rfl⟩) (g5_preV hPc hK hDc hN hT hS hFc (ci := 12) (q0 := 0) rfl rfl) rfl rfl hl.1 rfl (lv_room (Nat.le_of_ble_eq_true rfl)) dX12_row_222 ⟨Nat.le_of_ble_eq_true rfl, Nat.le_of_ble_eq_true rfl⟩) hS (fun q _ h => hFc q h) hFc (fun u t H locs ht hvm hw hB hz1 hk1 hS => ?_)
                              obtain ⟨hP1, hD1⟩ := hB
                              have hP1 := g5_ht ht hP1
                              obtain ⟨z77, (i_75 : MI z77), (i_76 : z77 = stR k35_ro y25.toInt y33.toInt y40.toInt ((-1) : Int32)), rfl⟩ := hw
                              have hJ9 := va_join (wr := [(b_rf, (arI G 7 v_rf)), (b_tp, (arI G 400 v_tp))]) hP hD [2, 3] [0, 1] rfl rfl (by decide +kernel) (by decide +kernel) hk1 hFc hP1 hD1
                              clear hP hD hPc hDc hFc ht hvm hz1 hk1 hP1 hD1
                              obtain ⟨hP, hD⟩ := hJ9
                              refine g5_rs [(b_rf, (arI G 7 v_rf)), (b_tp, (arI G 400 v_tp)), (b_o, (oc12 0 u_sa b_rf b_ro b_im b_ke k35_fd b_tp 0 u_fr u_to u_so u_wo u_fa u_bd u_nc b_nl u_co b_op b_ar u_le b_pi b_pa u_pd u_od b_ws b_hw u_la b_se b_re u_bk u_va u_su u_ce u_ho u_wy u_bt u_ps b_pt u_tg u_sn b_ip u_ic b_ah b_be b_me u_wd b_tr b_ld u_st b_wn u_id)), (b_ro, (arI G 5740 z77))] hP hD ?_
                              clear hP hD
                              intro hP hD
                              refine lv_iinc (v := (k35_2 + 1)) (lv' := [(2, .int (k35_2 + 1)), (4, .int 1), (3, .int k35_3), (1, .int u_td), (0, .ref b_o)]) hx hb dX12_row_225 hl (k := 1) rfl rfl (by decide +kernel) rfl ?_
                              clear hl
                              intro ls hl
                              have t_78 : (k35_2 + 1).toInt = k35_2.toInt + 1 := g5_iadd (a := k35_2.toInt) (b := 1) rfl (by decide +kernel) (by omega) (by omega)
                              refine W.eq (g2 := F0 m 228 ls []) rfl ?_
                              refine lv_goto (tgt := 241) hx hb dX12_row_228 (by decide +kernel) ?_
                              refine lv_iinc (v := (k35_3 + 4)) (lv' := [(3, .int (k35_3 + 4)), (2, .int (k35_2 + 1)), (4, .int 1), (1, .int u_td), (0, .ref b_o)]) hx hb dX12_row_241 hl (k := 2) rfl rfl (by decide +kernel) rfl ?_
                              clear hl
                              intro ls hl
                              have t_79 : (k35_3 + 4).toInt = k35_3.toInt + 4 := g5_iadd (a := k35_3.toInt) (b := 4) rfl (by decide +kernel) (by omega) (by omega)
                              refine lv_goto (tgt := 35) hx hb dX12_row_244 (by decide +kernel) ?_
                              exact ih_35_11 ((k35_3 + 4), (k35_2 + 1), k35_fd, z77) ls H locs (show Int.toNat (404 - (k35_3 + 4).toInt) < Int.toNat (404 - k35_3.toInt) from g_up (show k35_3.toInt < (k35_3 + 4).toInt by omega) (show k35_3.toInt < 404 by omega)) ⟨lv_sub hl [1, 0, 3, 4] rfl, hP.sub [2, 0, 3, 1] rfl, hD.sub [2, 0, 3, 1] (by decide +kernel) rfl, hS, ⟨by omega, by omega⟩, ⟨by omega, by omega⟩, i_75, by omega, by omega, i_7, by omega, (by rw [show ((k35_3 + 4).toInt / 4).toNat = (k35_3.toInt / 4).toNat + 1 by omega, rwC_S (k := k35_3.toInt.toNat) (by omega), ← i_9, ← i_10, cif_t ((cq_mk (td := u_td.toInt) (f := k35_ro) (t := v_tp) (k := k35_3.toInt.toNat) hy_25 hy_33 hy_40 hy_59 (cq_255 (by omega))).mpr ⟨by omega, i_27, by have zm : (-1 : Int32).toInt = -1 := (by decide +kernel); unfold okS; omega, (fun q => by have q1 := q.1; have zm : (-1 : Int32).toInt = -1 := (by decide +kernel); omega)⟩)]; omega), (by rw [show ((k35_3 + 4).toInt / 4).toNat = (k35_3.toInt / 4).toNat + 1 by omega, rwS_S (k := k35_3.toInt.toNat) (by omega), ← i_10, rw_stayY ((cq_mk (td := u_td.toInt) (f := k35_ro) (t := v_tp) (k := k35_3.toInt.toNat) hy_25 hy_33 hy_40 hy_59 (cq_255 (by omega))).mpr ⟨by omega, i_27, by have zm : (-1 : Int32).toInt = -1 := (by decide +kernel); unfold okS; omega, (fun q => by have q1 := q.1; have zm : (-1 : Int32).toInt = -1 := (by decide +kernel); omega)⟩), hy_25, hy_33, hy_40, hy_59, cq_255 (by omega)]; exact i_76)⟩
                        ·
                          have n_61 : gNe (y59.toInt) (255) := g5_eqN (a := y59.toInt) (b := 255) rfl (by decide +kernel) c_61
                          have i_61 : y59.toInt ≤ 254 := by have z := g5_eqN (a := y59.toInt) (b := 255) (by rfl) (by decide +kernel) c_61; omega
                          refine lv_aload_n hx hb dX12_row_133 rfl (lv_at hl 4 rfl) ?_
                          refine va_get (D := G.1) (ci := 12) (v := .ref b_tp) (C := RX12) (T := TX12) (N := 52) hx hb hts inG_X12 hown hK hP 2 rfl rfl 7 (by decide +kernel) (hts _ fl_X12_23) (fun _ h9 => h9) rfl dX12_row_134 ?_
                          refine lv_iload_n hx hb dX12_row_137 rfl (lv_at hl 2 rfl) ?_
                          refine lv_iconst (v := 3) hx hb dX12_row_138 (by decide +kernel) ?_
                          refine W.eq (g2 := F0 m 139 ls [.int 3, .int k35_3, .ref b_tp]) rfl ?_
                          refine lv_iadd hx hb dX12_row_139 ?_
                          have t_80 : (k35_3 + 3).toInt = k35_3.toInt + 3 := g5_iadd (a := k35_3.toInt) (b := 3) (by rfl) (by decide +kernel) (by omega) (by omega)
                          refine va_iald hx hb hK hP 1 0 rfl rfl (i := (k35_3 + 3)) (vp_in_iff.mpr ⟨by omega, by omega⟩) dX12_row_140 ?_
                          have hr_81 : 0 ≤ (v_tp (k35_3 + 3).toNatClampNeg).toInt ∧ (v_tp (k35_3 + 3).toNatClampNeg).toInt ≤ 255 := r_tp ((k35_3 + 3).toNatClampNeg)
                          have hq_82 : (v_tp (k35_3 + 3).toNatClampNeg) = y59 := by rw [← hy_59]; congr 1; have zz := g5_clamp (k35_3 + 3); omega
                          refine g5_ti (v := y59) hq_82 ?_
                          refine lv_bipush (v := 64) hx hb dX12_row_141 (by decide +kernel) ?_
                          refine lv_icmp_ge (tgt := 165) hx hb dX12_row_143 (by decide +kernel) (fun c_83 => ?_) (fun c_83 => ?_)
                          ·
                            have i_83 : y59.toInt ≥ 64 := g5_ge (a := y59.toInt) (b := 64) rfl (by decide +kernel) c_83
                            refine lv_iconst (v := 0) hx hb dX12_row_165 (by decide +kernel) ?_
                            refine lv_istore (lv' := [(4, .int 0), (2, .int k35_2), (3, .int k35_3), (1, .int u_td), (0, .ref b_o)]) hx hb dX12_row_166 hl (by decide +kernel) rfl ?_
                            clear hl
                            intro ls hl
                            refine lv_iload hx hb dX12_row_168 (lv_at hl 0 rfl) ?_
                            refine lv_if_eq (tgt := 231) hx hb dX12_row_170 (by decide +kernel) (fun c_84 => ?_) (fun c_84 => ?_)
                            ·
                              refine lv_aload_n hx hb dX12_row_231 rfl (lv_at hl 4 rfl) ?_
                              refine lv_dup hx hb dX12_row_232 rfl ?_
                              refine va_get (D := G.1) (ci := 12) (v := .int k35_fd) (C := RX12) (T := TX12) (N := 52) hx hb hts inG_X12 hown hK hP 2 rfl rfl 6 (by decide +kernel) (hts _ fl_X12_195) (fun _ h9 => h9) rfl dX12_row_233 ?_
                              refine lv_iconst (v := 1) hx hb dX12_row_236 (by decide +kernel) ?_
                              refine W.eq (g2 := F0 m 237 ls [.int 1, .int k35_fd, .ref b_o]) rfl ?_
                              refine lv_iadd hx hb dX12_row_237 ?_
                              have t_85 : (k35_fd + 1).toInt = k35_fd.toInt + 1 := g5_iadd (a := k35_fd.toInt) (b := 1) (by rfl) (by decide +kernel) (by omega) (by omega)
                              refine va_put (D := G.1) (ci := 12) (v := .int (k35_fd + 1)) (ty := .int) (C := RX12) (T := TX12) (N := 52) hx hb hts inG_X12 tyX12 tyX12_ok nmX12 hown hK hP hD hS 2 rfl rfl 6 (by decide +kernel) (hts _ fl_X12_195) (fun _ h9 => h9) rfl (by decide +kernel) rfl rfl (Nat.le_of_ble_eq_true rfl) dX12_row_238 ?_
                              clear hP hD hS
                              intro H locs hP hD hS
                              refine g5_rs [(b_rf, (arI G 7 v_rf)), (b_tp, (arI G 400 v_tp)), (b_o, (oc12 0 u_sa b_rf b_ro b_im b_ke (k35_fd + 1) b_tp 0 u_fr u_to u_so u_wo u_fa u_bd u_nc b_nl u_co b_op b_ar u_le b_pi b_pa u_pd u_od b_ws b_hw u_la b_se b_re u_bk u_va u_su u_ce u_ho u_wy u_bt u_ps b_pt u_tg u_sn b_ip u_ic b_ah b_be b_me u_wd b_tr b_ld u_st b_wn u_id)), (b_ro, (arI G 5740 k35_ro))] hP hD ?_
                              clear hP hD
                              intro hP hD
                              refine lv_iinc (v := (k35_3 + 4)) (lv' := [(3, .int (k35_3 + 4)), (4, .int 0), (2, .int k35_2), (1, .int u_td), (0, .ref b_o)]) hx hb dX12_row_241 hl (k := 2) rfl rfl (by decide +kernel) rfl ?_
                              clear hl
                              intro ls hl
                              have t_86 : (k35_3 + 4).toInt = k35_3.toInt + 4 := g5_iadd (a := k35_3.toInt) (b := 4) rfl (by decide +kernel) (by omega) (by omega)
                              refine lv_goto (tgt := 35) hx hb dX12_row_244 (by decide +kernel) ?_
                              exact ih_35_11 ((k35_3 + 4), k35_2, (k35_fd + 1), k35_ro) ls H locs (show Int.toNat (404 - (k35_3 + 4).toInt) < Int.toNat (404 - k35_3.toInt) from g_up (show k35_3.toInt < (k35_3 + 4).toInt by omega) (show k35_3.toInt < 404 by omega)) ⟨lv_sub hl [2, 0, 3, 4] rfl, hP.sub [2, 0, 3, 1] rfl, hD.sub [2, 0, 3, 1] (by decide +kernel) rfl, hS, ⟨by omega, by omega⟩, i_3, i_4, by omega, by omega, ⟨by omega, by omega⟩, by omega, (by rw [show ((k35_3 + 4).toInt / 4).toNat = (k35_3.toInt / 4).toNat + 1 by omega, rwC_S (k := k35_3.toInt.toNat) (by omega), ← i_9, ← i_10, cif_f (fun q => by have q := (cq_mk (td := u_td.toInt) (f := k35_ro) (t := v_tp) (k := k35_3.toInt.toNat) hy_25 hy_33 hy_40 hy_59 (cq_n n_61)).mp q; have q2 := q.2.2.1; unfold okS at q2; omega)]; omega), (by rw [show ((k35_3 + 4).toInt / 4).toNat = (k35_3.toInt / 4).toNat + 1 by omega, rwS_S (k := k35_3.toInt.toNat) (by omega), ← i_10, rw_stayN (fun q => by have q := (cq_mk (td := u_td.toInt) (f := k35_ro) (t := v_tp) (k := k35_3.toInt.toNat) hy_25 hy_33 hy_40 hy_59 (cq_n n_61)).mp q; have q2 := q.2.2.1; unfold okS at q2; omega)])⟩
                            ·
                              exact absurd c_84 (by decide +kernel)
                          ·
                            have i_83 : y59.toInt < 64 := g5_geN (a := y59.toInt) (b := 64) rfl (by decide +kernel) c_83
                            refine lv_aload_n hx hb dX12_row_146 rfl (lv_at hl 4 rfl) ?_
                            refine lv_aload_n hx hb dX12_row_147 rfl (lv_at hl 4 rfl) ?_
                            refine va_get (D := G.1) (ci := 12) (v := .ref b_tp) (C := RX12) (T := TX12) (N := 52) hx hb hts inG_X12 hown hK hP 2 rfl rfl 7 (by decide +kernel) (hts _ fl_X12_23) (fun _ h9 => h9) rfl dX12_row_148 ?_
                            refine lv_iload_n hx hb dX12_row_151 rfl (lv_at hl 2 rfl) ?_
                            refine W.eq (g2 := F0 m 152 ls [.int k35_3, .ref b_tp, .ref b_o]) rfl ?_
                            refine lv_iconst (v := 3) hx hb dX12_row_152 (by decide +kernel) ?_
                            refine lv_iadd hx hb dX12_row_153 ?_
                            have t_87 : (k35_3 + 3).toInt = k35_3.toInt + 3 := g5_iadd (a := k35_3.toInt) (b := 3) (by rfl) (by decide +kernel) (by omega) (by omega)
                            refine va_iald hx hb hK hP 1 0 rfl rfl (i := (k35_3 + 3)) (vp_in_iff.mpr ⟨by omega, by omega⟩) dX12_row_154 ?_
                            have hr_88 : 0 ≤ (v_tp (k35_3 + 3).toNatClampNeg).toInt ∧ (v_tp (k35_3 + 3).toNatClampNeg).toInt ≤ 255 := r_tp ((k35_3 + 3).toNatClampNeg)
                            have hq_89 : (v_tp (k35_3 + 3).toNatClampNeg) = y59 := by rw [← hy_59]; congr 1; have zz := g5_clamp (k35_3 + 3); omega
                            refine g5_ti (v := y59) hq_89 ?_
                            obtain ⟨hPc, hDc, hFc⟩ := g5_sub3 (wc := [(b_o, (oc12 0 u_sa b_rf b_ro b_im b_ke k35_fd b_tp 0 u_fr u_to u_so u_wo u_fa u_bd u_nc b_nl u_co b_op b_ar u_le b_pi b_pa u_pd u_od b_ws b_hw u_la b_se b_re u_bk u_va u_su u_ce u_ho u_wy u_bt u_ps b_pt u_tg u_sn b_ip u_ic b_ah b_be b_me u_wd b_tr b_ld u_st b_wn u_id)), (b_ro, (arI G 5740 k35_ro))]) hP hD hS hA [2, 3] (by decide +kernel) rfl
                            refine va_calli (va_runV (As := [.int y59]) (rest := []) ⟨hx, hb, hml, hown, hts⟩ (n_isWallE l G b_o b_ro b_rf b_im b_ke b_tp b_nl b_op b_ar b_pi b_pa b_ws b_hw b_se b_re b_pt b_ip b_ah b_be b_me b_tr b_ld b_wn H.size 0 u_sa k35_fd 0 u_fr u_to u_so u_fa u_bd u_nc u_co u_le u_pd u_od u_la u_bk u_ce u_ho u_wy u_bt u_ps u_tg u_sn u_ic u_wd u_id y59 u_wo u_va u_su u_st k35_ro ⟨by decide, by decide⟩ h_u_fr h_u_to h_u_bd h_u_nc h_u_co h_u_pd h_u_la h_u_bk h_u_ce h_u_ho h_u_wy h_u_bt h_u_ps h_u_ic h_u_id ⟨by omega, by omega⟩ (i_4)) (cwV 1 hts gV_X12_160 rfl rfl rfl hv_X12_isWall ⟨Nat.le_of_ble_eq_true rfl, Nat.le_of_ble_eq_true rfl⟩) (g5_preV hPc hK hDc hN hT hS hFc (ci := 12) (q0 := 0) rfl rfl) rfl rfl hl.1 rfl (lv_room (Nat.le_of_ble_eq_true rfl)) dX12_row_155 ⟨Nat.le_of_ble_eq_true rfl, Nat.le_of_ble_eq_true rfl⟩) hS (fun q _ h => hFc q h) hFc (fun r u t H locs ht hvm hw hB hz1 hk1 hS => ?_)
                            obtain ⟨hP1, hD1⟩ := hB
                            have hP1 := g5_ht ht hP1
                            rcases hw with ⟨(i_90 : wallAt k35_ro y59.toInt), rfl, rfl⟩ | ⟨(i_91 : ¬ wallAt k35_ro y59.toInt), rfl, rfl⟩
                            ·
                              have hJ9 := va_join (wr := [(b_rf, (arI G 7 v_rf)), (b_tp, (arI G 400 v_tp))]) hP hD [2, 3] [0, 1] rfl rfl (by decide +kernel) (by decide +kernel) hk1 hFc hP1 hD1
                              clear hP hD hPc hDc hFc ht hvm hz1 hk1 hP1 hD1
                              obtain ⟨hP, hD⟩ := hJ9
                              refine g5_rs [(b_rf, (arI G 7 v_rf)), (b_tp, (arI G 400 v_tp)), (b_o, (oc12 0 u_sa b_rf b_ro b_im b_ke k35_fd b_tp 0 u_fr u_to u_so u_wo u_fa u_bd u_nc b_nl u_co b_op b_ar u_le b_pi b_pa u_pd u_od b_ws b_hw u_la b_se b_re u_bk u_va u_su u_ce u_ho u_wy u_bt u_ps b_pt u_tg u_sn b_ip u_ic b_ah b_be b_me u_wd b_tr b_ld u_st b_wn u_id)), (b_ro, (arI G 5740 k35_ro))] hP hD ?_
                              clear hP hD
                              intro hP hD
                              refine lv_if_ne (tgt := 165) hx hb dX12_row_158 (by decide +kernel) (fun c_92 => ?_) (fun c_92 => ?_)
                              ·
                                refine lv_iconst (v := 0) hx hb dX12_row_165 (by decide +kernel) ?_
                                refine lv_istore (lv' := [(4, .int 0), (2, .int k35_2), (3, .int k35_3), (1, .int u_td), (0, .ref b_o)]) hx hb dX12_row_166 hl (by decide +kernel) rfl ?_
                                clear hl
                                intro ls hl
                                refine lv_iload hx hb dX12_row_168 (lv_at hl 0 rfl) ?_
                                refine lv_if_eq (tgt := 231) hx hb dX12_row_170 (by decide +kernel) (fun c_93 => ?_) (fun c_93 => ?_)
                                ·
                                  refine lv_aload_n hx hb dX12_row_231 rfl (lv_at hl 4 rfl) ?_
                                  refine lv_dup hx hb dX12_row_232 rfl ?_
                                  refine va_get (D := G.1) (ci := 12) (v := .int k35_fd) (C := RX12) (T := TX12) (N := 52) hx hb hts inG_X12 hown hK hP 2 rfl rfl 6 (by decide +kernel) (hts _ fl_X12_195) (fun _ h9 => h9) rfl dX12_row_233 ?_
                                  refine lv_iconst (v := 1) hx hb dX12_row_236 (by decide +kernel) ?_
                                  refine W.eq (g2 := F0 m 237 ls [.int 1, .int k35_fd, .ref b_o]) rfl ?_
                                  refine lv_iadd hx hb dX12_row_237 ?_
                                  have t_94 : (k35_fd + 1).toInt = k35_fd.toInt + 1 := g5_iadd (a := k35_fd.toInt) (b := 1) (by rfl) (by decide +kernel) (by omega) (by omega)
                                  refine va_put (D := G.1) (ci := 12) (v := .int (k35_fd + 1)) (ty := .int) (C := RX12) (T := TX12) (N := 52) hx hb hts inG_X12 tyX12 tyX12_ok nmX12 hown hK hP hD hS 2 rfl rfl 6 (by decide +kernel) (hts _ fl_X12_195) (fun _ h9 => h9) rfl (by decide +kernel) rfl rfl (Nat.le_of_ble_eq_true rfl) dX12_row_238 ?_
                                  clear hP hD hS
                                  intro H locs hP hD hS
                                  refine g5_rs [(b_rf, (arI G 7 v_rf)), (b_tp, (arI G 400 v_tp)), (b_o, (oc12 0 u_sa b_rf b_ro b_im b_ke (k35_fd + 1) b_tp 0 u_fr u_to u_so u_wo u_fa u_bd u_nc b_nl u_co b_op b_ar u_le b_pi b_pa u_pd u_od b_ws b_hw u_la b_se b_re u_bk u_va u_su u_ce u_ho u_wy u_bt u_ps b_pt u_tg u_sn b_ip u_ic b_ah b_be b_me u_wd b_tr b_ld u_st b_wn u_id)), (b_ro, (arI G 5740 k35_ro))] hP hD ?_
                                  clear hP hD
                                  intro hP hD
                                  refine lv_iinc (v := (k35_3 + 4)) (lv' := [(3, .int (k35_3 + 4)), (4, .int 0), (2, .int k35_2), (1, .int u_td), (0, .ref b_o)]) hx hb dX12_row_241 hl (k := 2) rfl rfl (by decide +kernel) rfl ?_
                                  clear hl
                                  intro ls hl
                                  have t_95 : (k35_3 + 4).toInt = k35_3.toInt + 4 := g5_iadd (a := k35_3.toInt) (b := 4) rfl (by decide +kernel) (by omega) (by omega)
                                  refine lv_goto (tgt := 35) hx hb dX12_row_244 (by decide +kernel) ?_
                                  exact ih_35_11 ((k35_3 + 4), k35_2, (k35_fd + 1), k35_ro) ls H locs (show Int.toNat (404 - (k35_3 + 4).toInt) < Int.toNat (404 - k35_3.toInt) from g_up (show k35_3.toInt < (k35_3 + 4).toInt by omega) (show k35_3.toInt < 404 by omega)) ⟨lv_sub hl [2, 0, 3, 4] rfl, hP.sub [2, 0, 3, 1] rfl, hD.sub [2, 0, 3, 1] (by decide +kernel) rfl, hS, ⟨by omega, by omega⟩, i_3, i_4, by omega, by omega, ⟨by omega, by omega⟩, by omega, (by rw [show ((k35_3 + 4).toInt / 4).toNat = (k35_3.toInt / 4).toNat + 1 by omega, rwC_S (k := k35_3.toInt.toNat) (by omega), ← i_9, ← i_10, cif_f (fun q => by have q := (cq_mk (td := u_td.toInt) (f := k35_ro) (t := v_tp) (k := k35_3.toInt.toNat) hy_25 hy_33 hy_40 hy_59 (cq_n n_61)).mp q; exact q.2.2.2 i_90)]; omega), (by rw [show ((k35_3 + 4).toInt / 4).toNat = (k35_3.toInt / 4).toNat + 1 by omega, rwS_S (k := k35_3.toInt.toNat) (by omega), ← i_10, rw_stayN (fun q => by have q := (cq_mk (td := u_td.toInt) (f := k35_ro) (t := v_tp) (k := k35_3.toInt.toNat) hy_25 hy_33 hy_40 hy_59 (cq_n n_61)).mp q; exact q.2.2.2 i_90)])⟩
                                ·
                                  exact absurd c_93 (by decide +kernel)
                              ·
                                exact absurd c_92 (by decide +kernel)
                            ·
                              have hJ9 := va_join (wr := [(b_rf, (arI G 7 v_rf)), (b_tp, (arI G 400 v_tp))]) hP hD [2, 3] [0, 1] rfl rfl (by decide +kernel) (by decide +kernel) hk1 hFc hP1 hD1
                              clear hP hD hPc hDc hFc ht hvm hz1 hk1 hP1 hD1
                              obtain ⟨hP, hD⟩ := hJ9
                              refine g5_rs [(b_rf, (arI G 7 v_rf)), (b_tp, (arI G 400 v_tp)), (b_o, (oc12 0 u_sa b_rf b_ro b_im b_ke k35_fd b_tp 0 u_fr u_to u_so u_wo u_fa u_bd u_nc b_nl u_co b_op b_ar u_le b_pi b_pa u_pd u_od b_ws b_hw u_la b_se b_re u_bk u_va u_su u_ce u_ho u_wy u_bt u_ps b_pt u_tg u_sn b_ip u_ic b_ah b_be b_me u_wd b_tr b_ld u_st b_wn u_id)), (b_ro, (arI G 5740 k35_ro))] hP hD ?_
                              clear hP hD
                              intro hP hD
                              refine lv_if_ne (tgt := 165) hx hb dX12_row_158 (by decide +kernel) (fun c_96 => ?_) (fun c_96 => ?_)
                              ·
                                exact absurd c_96 (by decide +kernel)
                              ·
                                refine lv_iconst (v := 1) hx hb dX12_row_161 (by decide +kernel) ?_
                                refine lv_goto (tgt := 166) hx hb dX12_row_162 (by decide +kernel) ?_
                                refine lv_istore (lv' := [(4, .int 1), (2, .int k35_2), (3, .int k35_3), (1, .int u_td), (0, .ref b_o)]) hx hb dX12_row_166 hl (by decide +kernel) rfl ?_
                                clear hl
                                intro ls hl
                                refine lv_iload hx hb dX12_row_168 (lv_at hl 0 rfl) ?_
                                refine W.eq (g2 := F0 m 170 ls [.int 1]) rfl ?_
                                refine lv_if_eq (tgt := 231) hx hb dX12_row_170 (by decide +kernel) (fun c_97 => ?_) (fun c_97 => ?_)
                                ·
                                  exact absurd c_97 (by decide +kernel)
                                ·
                                  refine lv_aload_n hx hb dX12_row_173 rfl (lv_at hl 4 rfl) ?_
                                  refine lv_aload_n hx hb dX12_row_174 rfl (lv_at hl 4 rfl) ?_
                                  refine va_get (D := G.1) (ci := 12) (v := .ref b_tp) (C := RX12) (T := TX12) (N := 52) hx hb hts inG_X12 hown hK hP 2 rfl rfl 7 (by decide +kernel) (hts _ fl_X12_23) (fun _ h9 => h9) rfl dX12_row_175 ?_
                                  refine lv_iload_n hx hb dX12_row_178 rfl (lv_at hl 2 rfl) ?_
                                  refine W.eq (g2 := F0 m 179 ls [.int k35_3, .ref b_tp, .ref b_o]) rfl ?_
                                  refine va_iald hx hb hK hP 1 0 rfl rfl (i := k35_3) (vp_in_iff.mpr ⟨by omega, by omega⟩) dX12_row_179 ?_
                                  have hr_98 : 0 ≤ (v_tp k35_3.toNatClampNeg).toInt ∧ (v_tp k35_3.toNatClampNeg).toInt ≤ 255 := r_tp (k35_3.toNatClampNeg)
                                  have hq_99 : (v_tp k35_3.toNatClampNeg) = y25 := hy_25
                                  refine g5_ti (v := y25) hq_99 ?_
                                  refine lv_aload_n hx hb dX12_row_180 rfl (lv_at hl 4 rfl) ?_
                                  refine va_get (D := G.1) (ci := 12) (v := .ref b_tp) (C := RX12) (T := TX12) (N := 52) hx hb hts inG_X12 hown hK hP 2 rfl rfl 7 (by decide +kernel) (hts _ fl_X12_23) (fun _ h9 => h9) rfl dX12_row_181 ?_
                                  refine lv_iload_n hx hb dX12_row_184 rfl (lv_at hl 2 rfl) ?_
                                  refine lv_iconst (v := 1) hx hb dX12_row_185 (by decide +kernel) ?_
                                  refine W.eq (g2 := F0 m 186 ls [.int 1, .int k35_3, .ref b_tp, .int y25, .ref b_o]) rfl ?_
                                  refine lv_iadd hx hb dX12_row_186 ?_
                                  have t_100 : (k35_3 + 1).toInt = k35_3.toInt + 1 := g5_iadd (a := k35_3.toInt) (b := 1) (by rfl) (by decide +kernel) (by omega) (by omega)
                                  refine va_iald hx hb hK hP 1 0 rfl rfl (i := (k35_3 + 1)) (vp_in_iff.mpr ⟨by omega, by omega⟩) dX12_row_187 ?_
                                  have hr_101 : 0 ≤ (v_tp (k35_3 + 1).toNatClampNeg).toInt ∧ (v_tp (k35_3 + 1).toNatClampNeg).toInt ≤ 255 := r_tp ((k35_3 + 1).toNatClampNeg)
                                  have hq_102 : (v_tp (k35_3 + 1).toNatClampNeg) = y33 := by rw [← hy_33]; congr 1; have zz := g5_clamp (k35_3 + 1); omega
                                  refine g5_ti (v := y33) hq_102 ?_
                                  refine lv_aload_n hx hb dX12_row_188 rfl (lv_at hl 4 rfl) ?_
                                  refine va_get (D := G.1) (ci := 12) (v := .ref b_tp) (C := RX12) (T := TX12) (N := 52) hx hb hts inG_X12 hown hK hP 2 rfl rfl 7 (by decide +kernel) (hts _ fl_X12_23) (fun _ h9 => h9) rfl dX12_row_189 ?_
                                  refine lv_iload_n hx hb dX12_row_192 rfl (lv_at hl 2 rfl) ?_
                                  refine W.eq (g2 := F0 m 193 ls [.int k35_3, .ref b_tp, .int y33, .int y25, .ref b_o]) rfl ?_
                                  refine lv_iconst (v := 2) hx hb dX12_row_193 (by decide +kernel) ?_
                                  refine lv_iadd hx hb dX12_row_194 ?_
                                  have t_103 : (k35_3 + 2).toInt = k35_3.toInt + 2 := g5_iadd (a := k35_3.toInt) (b := 2) (by rfl) (by decide +kernel) (by omega) (by omega)
                                  refine va_iald hx hb hK hP 1 0 rfl rfl (i := (k35_3 + 2)) (vp_in_iff.mpr ⟨by omega, by omega⟩) dX12_row_195 ?_
                                  have hr_104 : 0 ≤ (v_tp (k35_3 + 2).toNatClampNeg).toInt ∧ (v_tp (k35_3 + 2).toNatClampNeg).toInt ≤ 255 := r_tp ((k35_3 + 2).toNatClampNeg)
                                  have hq_105 : (v_tp (k35_3 + 2).toNatClampNeg) = y40 := by rw [← hy_40]; congr 1; have zz := g5_clamp (k35_3 + 2); omega
                                  refine g5_ti (v := y40) hq_105 ?_
                                  refine lv_aload_n hx hb dX12_row_196 rfl (lv_at hl 4 rfl) ?_
                                  refine va_get (D := G.1) (ci := 12) (v := .ref b_tp) (C := RX12) (T := TX12) (N := 52) hx hb hts inG_X12 hown hK hP 2 rfl rfl 7 (by decide +kernel) (hts _ fl_X12_23) (fun _ h9 => h9) rfl dX12_row_197 ?_
                                  refine W.eq (g2 := F0 m 200 ls [.ref b_tp, .int y40, .int y33, .int y25, .ref b_o]) rfl ?_
                                  refine lv_iload_n hx hb dX12_row_200 rfl (lv_at hl 2 rfl) ?_
                                  refine lv_iconst (v := 3) hx hb dX12_row_201 (by decide +kernel) ?_
                                  refine lv_iadd hx hb dX12_row_202 ?_
                                  have t_106 : (k35_3 + 3).toInt = k35_3.toInt + 3 := g5_iadd (a := k35_3.toInt) (b := 3) (by rfl) (by decide +kernel) (by omega) (by omega)
                                  refine va_iald hx hb hK hP 1 0 rfl rfl (i := (k35_3 + 3)) (vp_in_iff.mpr ⟨by omega, by omega⟩) dX12_row_203 ?_
                                  have hr_107 : 0 ≤ (v_tp (k35_3 + 3).toNatClampNeg).toInt ∧ (v_tp (k35_3 + 3).toNatClampNeg).toInt ≤ 255 := r_tp ((k35_3 + 3).toNatClampNeg)
                                  have hq_108 : (v_tp (k35_3 + 3).toNatClampNeg) = y59 := by rw [← hy_59]; congr 1; have zz := g5_clamp (k35_3 + 3); omega
                                  refine g5_ti (v := y59) hq_108 ?_
                                  refine lv_sipush (v := 255) hx hb dX12_row_204 (by decide +kernel) ?_
                                  refine W.eq (g2 := F0 m 207 ls [.int 255, .int y59, .int y40, .int y33, .int y25, .ref b_o]) rfl ?_
                                  refine lv_icmp_ne (tgt := 214) hx hb dX12_row_207 (by decide +kernel) (fun c_109 => ?_) (fun c_109 => ?_)
                                  ·
                                    have n_109 : gNe (y59.toInt) (255) := g5_ne (a := y59.toInt) (b := 255) rfl (by decide +kernel) c_109
                                    refine lv_aload_n hx hb dX12_row_214 rfl (lv_at hl 4 rfl) ?_
                                    refine va_get (D := G.1) (ci := 12) (v := .ref b_tp) (C := RX12) (T := TX12) (N := 52) hx hb hts inG_X12 hown hK hP 2 rfl rfl 7 (by decide +kernel) (hts _ fl_X12_23) (fun _ h9 => h9) rfl dX12_row_215 ?_
                                    refine lv_iload_n hx hb dX12_row_218 rfl (lv_at hl 2 rfl) ?_
                                    refine lv_iconst (v := 3) hx hb dX12_row_219 (by decide +kernel) ?_
                                    refine W.eq (g2 := F0 m 220 ls [.int 3, .int k35_3, .ref b_tp, .int y40, .int y33, .int y25, .ref b_o]) rfl ?_
                                    refine lv_iadd hx hb dX12_row_220 ?_
                                    have t_110 : (k35_3 + 3).toInt = k35_3.toInt + 3 := g5_iadd (a := k35_3.toInt) (b := 3) (by rfl) (by decide +kernel) (by omega) (by omega)
                                    refine va_iald hx hb hK hP 1 0 rfl rfl (i := (k35_3 + 3)) (vp_in_iff.mpr ⟨by omega, by omega⟩) dX12_row_221 ?_
                                    have hr_111 : 0 ≤ (v_tp (k35_3 + 3).toNatClampNeg).toInt ∧ (v_tp (k35_3 + 3).toNatClampNeg).toInt ≤ 255 := r_tp ((k35_3 + 3).toNatClampNeg)
                                    have hq_112 : (v_tp (k35_3 + 3).toNatClampNeg) = y59 := by rw [← hy_59]; congr 1; have zz := g5_clamp (k35_3 + 3); omega
                                    refine g5_ti (v := y59) hq_112 ?_
                                    obtain ⟨hPc, hDc, hFc⟩ := g5_sub3 (wc := [(b_o, (oc12 0 u_sa b_rf b_ro b_im b_ke k35_fd b_tp 0 u_fr u_to u_so u_wo u_fa u_bd u_nc b_nl u_co b_op b_ar u_le b_pi b_pa u_pd u_od b_ws b_hw u_la b_se b_re u_bk u_va u_su u_ce u_ho u_wy u_bt u_ps b_pt u_tg u_sn b_ip u_ic b_ah b_be b_me u_wd b_tr b_ld u_st b_wn u_id)), (b_ro, (arI G 5740 k35_ro))]) hP hD hS hA [2, 3] (by decide +kernel) rfl
                                    refine va_callv (va_runV (As := [.int y25, .int y33, .int y40, .int y59]) (rest := []) ⟨hx, hb, hml, hown, hts⟩ (n_staysE l G b_o b_ro b_rf b_im b_ke b_tp b_nl b_op b_ar b_pi b_pa b_ws b_hw b_se b_re b_pt b_ip b_ah b_be b_me b_tr b_ld b_wn H.size 0 u_sa k35_fd 0 u_fr u_to u_so u_fa u_bd u_nc u_co u_le u_pd u_od u_la u_bk u_ce u_ho u_wy u_bt u_ps u_tg u_sn u_ic u_wd u_id y25 y33 y40 y59 u_wo u_va u_su u_st k35_ro ⟨by decide, by decide⟩ h_u_fr h_u_to h_u_bd h_u_nc h_u_co h_u_pd h_u_la h_u_bk h_u_ce h_u_ho h_u_wy h_u_bt h_u_ps h_u_ic h_u_id i_28 i_35 i_42 ⟨by omega, by omega⟩ (i_4) (by omega)) (cwV 4 hts gV_X12_183 rfl rfl rfl hv_X12_stays ⟨Nat.le_of_ble_eq_true rfl, Nat.le_of_ble_eq_true rfl⟩) (g5_preV hPc hK hDc hN hT hS hFc (ci := 12) (q0 := 0) rfl rfl) rfl rfl hl.1 rfl (lv_room (Nat.le_of_ble_eq_true rfl)) dX12_row_222 ⟨Nat.le_of_ble_eq_true rfl, Nat.le_of_ble_eq_true rfl⟩) hS (fun q _ h => hFc q h) hFc (fun u t H locs ht hvm hw hB hz1 hk1 hS => ?_)
                                    obtain ⟨hP1, hD1⟩ := hB
                                    have hP1 := g5_ht ht hP1
                                    obtain ⟨z115, (i_113 : MI z115), (i_114 : z115 = stR k35_ro y25.toInt y33.toInt y40.toInt y59), rfl⟩ := hw
                                    have hJ9 := va_join (wr := [(b_rf, (arI G 7 v_rf)), (b_tp, (arI G 400 v_tp))]) hP hD [2, 3] [0, 1] rfl rfl (by decide +kernel) (by decide +kernel) hk1 hFc hP1 hD1
                                    clear hP hD hPc hDc hFc ht hvm hz1 hk1 hP1 hD1
                                    obtain ⟨hP, hD⟩ := hJ9
                                    refine g5_rs [(b_rf, (arI G 7 v_rf)), (b_tp, (arI G 400 v_tp)), (b_o, (oc12 0 u_sa b_rf b_ro b_im b_ke k35_fd b_tp 0 u_fr u_to u_so u_wo u_fa u_bd u_nc b_nl u_co b_op b_ar u_le b_pi b_pa u_pd u_od b_ws b_hw u_la b_se b_re u_bk u_va u_su u_ce u_ho u_wy u_bt u_ps b_pt u_tg u_sn b_ip u_ic b_ah b_be b_me u_wd b_tr b_ld u_st b_wn u_id)), (b_ro, (arI G 5740 z115))] hP hD ?_
                                    clear hP hD
                                    intro hP hD
                                    refine lv_iinc (v := (k35_2 + 1)) (lv' := [(2, .int (k35_2 + 1)), (4, .int 1), (3, .int k35_3), (1, .int u_td), (0, .ref b_o)]) hx hb dX12_row_225 hl (k := 1) rfl rfl (by decide +kernel) rfl ?_
                                    clear hl
                                    intro ls hl
                                    have t_116 : (k35_2 + 1).toInt = k35_2.toInt + 1 := g5_iadd (a := k35_2.toInt) (b := 1) rfl (by decide +kernel) (by omega) (by omega)
                                    refine lv_goto (tgt := 241) hx hb dX12_row_228 (by decide +kernel) ?_
                                    refine W.eq (g2 := F0 m 241 ls []) rfl ?_
                                    refine lv_iinc (v := (k35_3 + 4)) (lv' := [(3, .int (k35_3 + 4)), (2, .int (k35_2 + 1)), (4, .int 1), (1, .int u_td), (0, .ref b_o)]) hx hb dX12_row_241 hl (k := 2) rfl rfl (by decide +kernel) rfl ?_
                                    clear hl
                                    intro ls hl
                                    have t_117 : (k35_3 + 4).toInt = k35_3.toInt + 4 := g5_iadd (a := k35_3.toInt) (b := 4) rfl (by decide +kernel) (by omega) (by omega)
                                    refine lv_goto (tgt := 35) hx hb dX12_row_244 (by decide +kernel) ?_
                                    exact ih_35_11 ((k35_3 + 4), (k35_2 + 1), k35_fd, z115) ls H locs (show Int.toNat (404 - (k35_3 + 4).toInt) < Int.toNat (404 - k35_3.toInt) from g_up (show k35_3.toInt < (k35_3 + 4).toInt by omega) (show k35_3.toInt < 404 by omega)) ⟨lv_sub hl [1, 0, 3, 4] rfl, hP.sub [2, 0, 3, 1] rfl, hD.sub [2, 0, 3, 1] (by decide +kernel) rfl, hS, ⟨by omega, by omega⟩, ⟨by omega, by omega⟩, i_113, by omega, by omega, i_7, by omega, (by rw [show ((k35_3 + 4).toInt / 4).toNat = (k35_3.toInt / 4).toNat + 1 by omega, rwC_S (k := k35_3.toInt.toNat) (by omega), ← i_9, ← i_10, cif_t ((cq_mk (td := u_td.toInt) (f := k35_ro) (t := v_tp) (k := k35_3.toInt.toNat) hy_25 hy_33 hy_40 hy_59 (cq_n n_109)).mpr ⟨by omega, i_27, by unfold okS; omega, i_91⟩)]; omega), (by rw [show ((k35_3 + 4).toInt / 4).toNat = (k35_3.toInt / 4).toNat + 1 by omega, rwS_S (k := k35_3.toInt.toNat) (by omega), ← i_10, rw_stayY ((cq_mk (td := u_td.toInt) (f := k35_ro) (t := v_tp) (k := k35_3.toInt.toNat) hy_25 hy_33 hy_40 hy_59 (cq_n n_109)).mpr ⟨by omega, i_27, by unfold okS; omega, i_91⟩), hy_25, hy_33, hy_40, hy_59, cq_n (by omega)]; exact i_114)⟩
                                  ·
                                    have i_109 : y59.toInt = 255 := g5_neN (a := y59.toInt) (b := 255) rfl (by decide +kernel) c_109
                                    omega
                ·
                  have hJ9 := g5_same hP hk1
                  clear hP hPc hDc hFc ht hvm hz1 hk1 hP1 hD1
                  have hP := hJ9
                  clear hJ9
                  refine lv_if_eq (tgt := 111) hx hb dX12_row_85 (by decide +kernel) (fun c_118 => ?_) (fun c_118 => ?_)
                  ·
                    refine lv_iconst (v := 0) hx hb dX12_row_111 (by decide +kernel) ?_
                    refine lv_istore (lv' := [(4, .int 0), (2, .int k35_2), (3, .int k35_3), (1, .int u_td), (0, .ref b_o)]) hx hb dX12_row_112 hl (by decide +kernel) rfl ?_
                    clear hl
                    intro ls hl
                    refine lv_iload hx hb dX12_row_114 (lv_at hl 0 rfl) ?_
                    refine lv_if_eq (tgt := 165) hx hb dX12_row_116 (by decide +kernel) (fun c_119 => ?_) (fun c_119 => ?_)
                    ·
                      refine lv_iconst (v := 0) hx hb dX12_row_165 (by decide +kernel) ?_
                      refine lv_istore (lv' := [(4, .int 0), (2, .int k35_2), (3, .int k35_3), (1, .int u_td), (0, .ref b_o)]) hx hb dX12_row_166 hl (by decide +kernel) rfl ?_
                      clear hl
                      intro ls hl
                      refine lv_iload hx hb dX12_row_168 (lv_at hl 0 rfl) ?_
                      refine lv_if_eq (tgt := 231) hx hb dX12_row_170 (by decide +kernel) (fun c_120 => ?_) (fun c_120 => ?_)
                      ·
                        refine lv_aload_n hx hb dX12_row_231 rfl (lv_at hl 4 rfl) ?_
                        refine lv_dup hx hb dX12_row_232 rfl ?_
                        refine va_get (D := G.1) (ci := 12) (v := .int k35_fd) (C := RX12) (T := TX12) (N := 52) hx hb hts inG_X12 hown hK hP 2 rfl rfl 6 (by decide +kernel) (hts _ fl_X12_195) (fun _ h9 => h9) rfl dX12_row_233 ?_
                        refine lv_iconst (v := 1) hx hb dX12_row_236 (by decide +kernel) ?_
                        refine W.eq (g2 := F0 m 237 ls [.int 1, .int k35_fd, .ref b_o]) rfl ?_
                        refine lv_iadd hx hb dX12_row_237 ?_
                        have t_121 : (k35_fd + 1).toInt = k35_fd.toInt + 1 := g5_iadd (a := k35_fd.toInt) (b := 1) (by rfl) (by decide +kernel) (by omega) (by omega)
                        refine va_put (D := G.1) (ci := 12) (v := .int (k35_fd + 1)) (ty := .int) (C := RX12) (T := TX12) (N := 52) hx hb hts inG_X12 tyX12 tyX12_ok nmX12 hown hK hP hD hS 2 rfl rfl 6 (by decide +kernel) (hts _ fl_X12_195) (fun _ h9 => h9) rfl (by decide +kernel) rfl rfl (Nat.le_of_ble_eq_true rfl) dX12_row_238 ?_
                        clear hP hD hS
                        intro H locs hP hD hS
                        refine g5_rs [(b_rf, (arI G 7 v_rf)), (b_tp, (arI G 400 v_tp)), (b_o, (oc12 0 u_sa b_rf b_ro b_im b_ke (k35_fd + 1) b_tp 0 u_fr u_to u_so u_wo u_fa u_bd u_nc b_nl u_co b_op b_ar u_le b_pi b_pa u_pd u_od b_ws b_hw u_la b_se b_re u_bk u_va u_su u_ce u_ho u_wy u_bt u_ps b_pt u_tg u_sn b_ip u_ic b_ah b_be b_me u_wd b_tr b_ld u_st b_wn u_id)), (b_ro, (arI G 5740 k35_ro))] hP hD ?_
                        clear hP hD
                        intro hP hD
                        refine lv_iinc (v := (k35_3 + 4)) (lv' := [(3, .int (k35_3 + 4)), (4, .int 0), (2, .int k35_2), (1, .int u_td), (0, .ref b_o)]) hx hb dX12_row_241 hl (k := 2) rfl rfl (by decide +kernel) rfl ?_
                        clear hl
                        intro ls hl
                        have t_122 : (k35_3 + 4).toInt = k35_3.toInt + 4 := g5_iadd (a := k35_3.toInt) (b := 4) rfl (by decide +kernel) (by omega) (by omega)
                        refine lv_goto (tgt := 35) hx hb dX12_row_244 (by decide +kernel) ?_
                        exact ih_35_11 ((k35_3 + 4), k35_2, (k35_fd + 1), k35_ro) ls H locs (show Int.toNat (404 - (k35_3 + 4).toInt) < Int.toNat (404 - k35_3.toInt) from g_up (show k35_3.toInt < (k35_3 + 4).toInt by omega) (show k35_3.toInt < 404 by omega)) ⟨lv_sub hl [2, 0, 3, 4] rfl, hP.sub [2, 0, 3, 1] rfl, hD.sub [2, 0, 3, 1] (by decide +kernel) rfl, hS, ⟨by omega, by omega⟩, i_3, i_4, by omega, by omega, ⟨by omega, by omega⟩, by omega, (by rw [show ((k35_3 + 4).toInt / 4).toNat = (k35_3.toInt / 4).toNat + 1 by omega, rwC_S (k := k35_3.toInt.toNat) (by omega), ← i_9, ← i_10, cif_f (fun q => by have q := (cq_mk (td := u_td.toInt) (f := k35_ro) (t := v_tp) (k := k35_3.toInt.toNat) hy_25 hy_33 hy_40 rfl (rfl)).mp q; have q2 := q.2.2.1; unfold okS at q2; omega)]; omega), (by rw [show ((k35_3 + 4).toInt / 4).toNat = (k35_3.toInt / 4).toNat + 1 by omega, rwS_S (k := k35_3.toInt.toNat) (by omega), ← i_10, rw_stayN (fun q => by have q := (cq_mk (td := u_td.toInt) (f := k35_ro) (t := v_tp) (k := k35_3.toInt.toNat) hy_25 hy_33 hy_40 rfl (rfl)).mp q; have q2 := q.2.2.1; unfold okS at q2; omega)])⟩
                      ·
                        exact absurd c_120 (by decide +kernel)
                    ·
                      exact absurd c_119 (by decide +kernel)
                  ·
                    exact absurd c_118 (by decide +kernel)
            ·
              have hJ9 := g5_same hP hk1
              clear hP hPc hDc hFc ht hvm hz1 hk1 hP1 hD1
              have hP := hJ9
              clear hJ9
              refine lv_if_eq (tgt := 111) hx hb dX12_row_71 (by decide +kernel) (fun c_123 => ?_) (fun c_123 => ?_)
              ·
                refine lv_iconst (v := 0) hx hb dX12_row_111 (by decide +kernel) ?_
                refine lv_istore (lv' := [(4, .int 0), (2, .int k35_2), (3, .int k35_3), (1, .int u_td), (0, .ref b_o)]) hx hb dX12_row_112 hl (by decide +kernel) rfl ?_
                clear hl
                intro ls hl
                refine lv_iload hx hb dX12_row_114 (lv_at hl 0 rfl) ?_
                refine lv_if_eq (tgt := 165) hx hb dX12_row_116 (by decide +kernel) (fun c_124 => ?_) (fun c_124 => ?_)
                ·
                  refine lv_iconst (v := 0) hx hb dX12_row_165 (by decide +kernel) ?_
                  refine lv_istore (lv' := [(4, .int 0), (2, .int k35_2), (3, .int k35_3), (1, .int u_td), (0, .ref b_o)]) hx hb dX12_row_166 hl (by decide +kernel) rfl ?_
                  clear hl
                  intro ls hl
                  refine lv_iload hx hb dX12_row_168 (lv_at hl 0 rfl) ?_
                  refine lv_if_eq (tgt := 231) hx hb dX12_row_170 (by decide +kernel) (fun c_125 => ?_) (fun c_125 => ?_)
                  ·
                    refine lv_aload_n hx hb dX12_row_231 rfl (lv_at hl 4 rfl) ?_
                    refine lv_dup hx hb dX12_row_232 rfl ?_
                    refine va_get (D := G.1) (ci := 12) (v := .int k35_fd) (C := RX12) (T := TX12) (N := 52) hx hb hts inG_X12 hown hK hP 2 rfl rfl 6 (by decide +kernel) (hts _ fl_X12_195) (fun _ h9 => h9) rfl dX12_row_233 ?_
                    refine lv_iconst (v := 1) hx hb dX12_row_236 (by decide +kernel) ?_
                    refine W.eq (g2 := F0 m 237 ls [.int 1, .int k35_fd, .ref b_o]) rfl ?_
                    refine lv_iadd hx hb dX12_row_237 ?_
                    have t_126 : (k35_fd + 1).toInt = k35_fd.toInt + 1 := g5_iadd (a := k35_fd.toInt) (b := 1) (by rfl) (by decide +kernel) (by omega) (by omega)
                    refine va_put (D := G.1) (ci := 12) (v := .int (k35_fd + 1)) (ty := .int) (C := RX12) (T := TX12) (N := 52) hx hb hts inG_X12 tyX12 tyX12_ok nmX12 hown hK hP hD hS 2 rfl rfl 6 (by decide +kernel) (hts _ fl_X12_195) (fun _ h9 => h9) rfl (by decide +kernel) rfl rfl (Nat.le_of_ble_eq_true rfl) dX12_row_238 ?_
                    clear hP hD hS
                    intro H locs hP hD hS
                    refine g5_rs [(b_rf, (arI G 7 v_rf)), (b_tp, (arI G 400 v_tp)), (b_o, (oc12 0 u_sa b_rf b_ro b_im b_ke (k35_fd + 1) b_tp 0 u_fr u_to u_so u_wo u_fa u_bd u_nc b_nl u_co b_op b_ar u_le b_pi b_pa u_pd u_od b_ws b_hw u_la b_se b_re u_bk u_va u_su u_ce u_ho u_wy u_bt u_ps b_pt u_tg u_sn b_ip u_ic b_ah b_be b_me u_wd b_tr b_ld u_st b_wn u_id)), (b_ro, (arI G 5740 k35_ro))] hP hD ?_
                    clear hP hD
                    intro hP hD
                    refine lv_iinc (v := (k35_3 + 4)) (lv' := [(3, .int (k35_3 + 4)), (4, .int 0), (2, .int k35_2), (1, .int u_td), (0, .ref b_o)]) hx hb dX12_row_241 hl (k := 2) rfl rfl (by decide +kernel) rfl ?_
                    clear hl
                    intro ls hl
                    have t_127 : (k35_3 + 4).toInt = k35_3.toInt + 4 := g5_iadd (a := k35_3.toInt) (b := 4) rfl (by decide +kernel) (by omega) (by omega)
                    refine lv_goto (tgt := 35) hx hb dX12_row_244 (by decide +kernel) ?_
                    exact ih_35_11 ((k35_3 + 4), k35_2, (k35_fd + 1), k35_ro) ls H locs (show Int.toNat (404 - (k35_3 + 4).toInt) < Int.toNat (404 - k35_3.toInt) from g_up (show k35_3.toInt < (k35_3 + 4).toInt by omega) (show k35_3.toInt < 404 by omega)) ⟨lv_sub hl [2, 0, 3, 4] rfl, hP.sub [2, 0, 3, 1] rfl, hD.sub [2, 0, 3, 1] (by decide +kernel) rfl, hS, ⟨by omega, by omega⟩, i_3, i_4, by omega, by omega, ⟨by omega, by omega⟩, by omega, (by rw [show ((k35_3 + 4).toInt / 4).toNat = (k35_3.toInt / 4).toNat + 1 by omega, rwC_S (k := k35_3.toInt.toNat) (by omega), ← i_9, ← i_10, cif_f (fun q => by have q := (cq_mk (td := u_td.toInt) (f := k35_ro) (t := v_tp) (k := k35_3.toInt.toNat) hy_25 hy_33 rfl rfl (rfl)).mp q; have q2 := q.2.2.1; unfold okS at q2; omega)]; omega), (by rw [show ((k35_3 + 4).toInt / 4).toNat = (k35_3.toInt / 4).toNat + 1 by omega, rwS_S (k := k35_3.toInt.toNat) (by omega), ← i_10, rw_stayN (fun q => by have q := (cq_mk (td := u_td.toInt) (f := k35_ro) (t := v_tp) (k := k35_3.toInt.toNat) hy_25 hy_33 rfl rfl (rfl)).mp q; have q2 := q.2.2.1; unfold okS at q2; omega)])⟩
                  ·
                    exact absurd c_125 (by decide +kernel)
                ·
                  exact absurd c_124 (by decide +kernel)
              ·
                exact absurd c_123 (by decide +kernel)
        ·
          have i_29 : ¬ isB k35_ro y25 := i_29
          have hJ9 := va_join (wr := [(b_rf, (arI G 7 v_rf)), (b_tp, (arI G 400 v_tp))]) hP hD [0, 2] [1, 3] rfl rfl (by decide +kernel) (by decide +kernel) hk1 hFc hP1 hD1
          clear hP hD hPc hDc hFc ht hvm hz1 hk1 hP1 hD1
          obtain ⟨hP, hD⟩ := hJ9
          refine g5_rs [(b_rf, (arI G 7 v_rf)), (b_tp, (arI G 400 v_tp)), (b_o, (oc12 0 u_sa b_rf b_ro b_im b_ke k35_fd b_tp 0 u_fr u_to u_so u_wo u_fa u_bd u_nc b_nl u_co b_op b_ar u_le b_pi b_pa u_pd u_od b_ws b_hw u_la b_se b_re u_bk u_va u_su u_ce u_ho u_wy u_bt u_ps b_pt u_tg u_sn b_ip u_ic b_ah b_be b_me u_wd b_tr b_ld u_st b_wn u_id)), (b_ro, (arI G 5740 k35_ro))] hP hD ?_
          clear hP hD
          intro hP hD
          refine lv_if_eq (tgt := 111) hx hb dX12_row_57 (by decide +kernel) (fun c_128 => ?_) (fun c_128 => ?_)
          ·
            refine lv_iconst (v := 0) hx hb dX12_row_111 (by decide +kernel) ?_
            refine lv_istore (lv' := [(4, .int 0), (2, .int k35_2), (3, .int k35_3), (1, .int u_td), (0, .ref b_o)]) hx hb dX12_row_112 hl (by decide +kernel) rfl ?_
            clear hl
            intro ls hl
            refine lv_iload hx hb dX12_row_114 (lv_at hl 0 rfl) ?_
            refine lv_if_eq (tgt := 165) hx hb dX12_row_116 (by decide +kernel) (fun c_129 => ?_) (fun c_129 => ?_)
            ·
              refine lv_iconst (v := 0) hx hb dX12_row_165 (by decide +kernel) ?_
              refine lv_istore (lv' := [(4, .int 0), (2, .int k35_2), (3, .int k35_3), (1, .int u_td), (0, .ref b_o)]) hx hb dX12_row_166 hl (by decide +kernel) rfl ?_
              clear hl
              intro ls hl
              refine lv_iload hx hb dX12_row_168 (lv_at hl 0 rfl) ?_
              refine lv_if_eq (tgt := 231) hx hb dX12_row_170 (by decide +kernel) (fun c_130 => ?_) (fun c_130 => ?_)
              ·
                refine lv_aload_n hx hb dX12_row_231 rfl (lv_at hl 4 rfl) ?_
                refine lv_dup hx hb dX12_row_232 rfl ?_
                refine va_get (D := G.1) (ci := 12) (v := .int k35_fd) (C := RX12) (T := TX12) (N := 52) hx hb hts inG_X12 hown hK hP 2 rfl rfl 6 (by decide +kernel) (hts _ fl_X12_195) (fun _ h9 => h9) rfl dX12_row_233 ?_
                refine lv_iconst (v := 1) hx hb dX12_row_236 (by decide +kernel) ?_
                refine W.eq (g2 := F0 m 237 ls [.int 1, .int k35_fd, .ref b_o]) rfl ?_
                refine lv_iadd hx hb dX12_row_237 ?_
                have t_131 : (k35_fd + 1).toInt = k35_fd.toInt + 1 := g5_iadd (a := k35_fd.toInt) (b := 1) (by rfl) (by decide +kernel) (by omega) (by omega)
                refine va_put (D := G.1) (ci := 12) (v := .int (k35_fd + 1)) (ty := .int) (C := RX12) (T := TX12) (N := 52) hx hb hts inG_X12 tyX12 tyX12_ok nmX12 hown hK hP hD hS 2 rfl rfl 6 (by decide +kernel) (hts _ fl_X12_195) (fun _ h9 => h9) rfl (by decide +kernel) rfl rfl (Nat.le_of_ble_eq_true rfl) dX12_row_238 ?_
                clear hP hD hS
                intro H locs hP hD hS
                refine g5_rs [(b_rf, (arI G 7 v_rf)), (b_tp, (arI G 400 v_tp)), (b_o, (oc12 0 u_sa b_rf b_ro b_im b_ke (k35_fd + 1) b_tp 0 u_fr u_to u_so u_wo u_fa u_bd u_nc b_nl u_co b_op b_ar u_le b_pi b_pa u_pd u_od b_ws b_hw u_la b_se b_re u_bk u_va u_su u_ce u_ho u_wy u_bt u_ps b_pt u_tg u_sn b_ip u_ic b_ah b_be b_me u_wd b_tr b_ld u_st b_wn u_id)), (b_ro, (arI G 5740 k35_ro))] hP hD ?_
                clear hP hD
                intro hP hD
                refine lv_iinc (v := (k35_3 + 4)) (lv' := [(3, .int (k35_3 + 4)), (4, .int 0), (2, .int k35_2), (1, .int u_td), (0, .ref b_o)]) hx hb dX12_row_241 hl (k := 2) rfl rfl (by decide +kernel) rfl ?_
                clear hl
                intro ls hl
                have t_132 : (k35_3 + 4).toInt = k35_3.toInt + 4 := g5_iadd (a := k35_3.toInt) (b := 4) rfl (by decide +kernel) (by omega) (by omega)
                refine lv_goto (tgt := 35) hx hb dX12_row_244 (by decide +kernel) ?_
                exact ih_35_11 ((k35_3 + 4), k35_2, (k35_fd + 1), k35_ro) ls H locs (show Int.toNat (404 - (k35_3 + 4).toInt) < Int.toNat (404 - k35_3.toInt) from g_up (show k35_3.toInt < (k35_3 + 4).toInt by omega) (show k35_3.toInt < 404 by omega)) ⟨lv_sub hl [2, 0, 3, 4] rfl, hP.sub [2, 0, 3, 1] rfl, hD.sub [2, 0, 3, 1] (by decide +kernel) rfl, hS, ⟨by omega, by omega⟩, i_3, i_4, by omega, by omega, ⟨by omega, by omega⟩, by omega, (by rw [show ((k35_3 + 4).toInt / 4).toNat = (k35_3.toInt / 4).toNat + 1 by omega, rwC_S (k := k35_3.toInt.toNat) (by omega), ← i_9, ← i_10, cif_f (fun q => by have q := (cq_mk (td := u_td.toInt) (f := k35_ro) (t := v_tp) (k := k35_3.toInt.toNat) hy_25 rfl rfl rfl (rfl)).mp q; exact i_29 q.2.1)]; omega), (by rw [show ((k35_3 + 4).toInt / 4).toNat = (k35_3.toInt / 4).toNat + 1 by omega, rwS_S (k := k35_3.toInt.toNat) (by omega), ← i_10, rw_stayN (fun q => by have q := (cq_mk (td := u_td.toInt) (f := k35_ro) (t := v_tp) (k := k35_3.toInt.toNat) hy_25 rfl rfl rfl (rfl)).mp q; exact i_29 q.2.1)])⟩
              ·
                exact absurd c_130 (by decide +kernel)
            ·
              exact absurd c_129 (by decide +kernel)
          ·
            exact absurd c_128 (by decide +kernel)
  ·
    have i_1 : u_td.toInt = 0 := g5_neN (a := u_td.toInt) (b := 0) rfl (by decide +kernel) c_1
    refine lv_aload_n hx hb dX12_row_19 rfl (lv_at hl 1 rfl) ?_
    refine lv_bipush (v := (-6)) hx hb dX12_row_20 (by decide +kernel) ?_
    obtain ⟨hPc, hDc, hFc⟩ := g5_sub3 (wc := [(b_o, (oc12 0 u_sa b_rf b_ro b_im b_ke u_fd b_tp 0 u_fr u_to u_so u_wo u_fa u_bd u_nc b_nl u_co b_op b_ar u_le b_pi b_pa u_pd u_od b_ws b_hw u_la b_se b_re u_bk u_va u_su u_ce u_ho u_wy u_bt u_ps b_pt u_tg u_sn b_ip u_ic b_ah b_be b_me u_wd b_tr b_ld u_st b_wn u_id)), (b_rf, (arI G 7 v_rf))]) hP hD hS hA [0, 1] (by decide +kernel) rfl
    refine va_calli (va_runV (As := [.int (-6)]) (rest := []) ⟨hx, hb, hml, hown, hts⟩ (n_tell6 l G b_o b_rf b_ro b_im b_ke b_tp b_nl b_op b_ar b_pi b_pa b_ws b_hw b_se b_re b_pt b_ip b_ah b_be b_me b_tr b_ld b_wn H.size 0 u_sa u_fd 0 u_fr u_to u_so u_fa u_bd u_nc u_co u_le u_pd u_od u_la u_bk u_ce u_ho u_wy u_bt u_ps u_tg u_sn u_ic u_wd u_id u_wo u_va u_su u_st v_rf ⟨by decide, by decide⟩ h_u_fr h_u_to h_u_bd h_u_nc h_u_co h_u_pd h_u_la h_u_bk h_u_ce h_u_ho h_u_wy h_u_bt h_u_ps h_u_ic h_u_id) (cwV 1 hts gV_X12_125 rfl rfl rfl hv_X12_tell ⟨Nat.le_of_ble_eq_true rfl, Nat.le_of_ble_eq_true rfl⟩) (g5_preV hPc hK hDc hN hT hS hFc (ci := 12) (q0 := 0) rfl rfl) rfl rfl hl.1 rfl (lv_room (Nat.le_of_ble_eq_true rfl)) dX12_row_22 ⟨Nat.le_of_ble_eq_true rfl, Nat.le_of_ble_eq_true rfl⟩) hS (fun q _ h => hFc q h) hFc (fun r u t H locs ht hvm hw hB hz1 hk1 hS => ?_)
    obtain ⟨hP1, hD1⟩ := hB
    have hP1 := g5_ht ht hP1
    obtain ⟨z134, z135, z136, (i_133 : 0 ≤ z135.toInt ∧ z135.toInt ≤ 1), rfl, rfl⟩ := hw
    have hJ9 := va_join (wr := [(b_ro, (arI G 5740 v_ro)), (b_tp, (arI G 400 v_tp))]) hP hD [0, 1] [2, 3] rfl rfl (by decide +kernel) (by decide +kernel) hk1 hFc hP1 hD1
    clear hP hD hPc hDc hFc ht hvm hz1 hk1 hP1 hD1
    obtain ⟨hP, hD⟩ := hJ9
    refine g5_rs [(b_ro, (arI G 5740 v_ro)), (b_tp, (arI G 400 v_tp)), (b_o, (oc12 0 z134 b_rf b_ro b_im b_ke u_fd b_tp 0 u_fr u_to u_so u_wo u_fa u_bd u_nc b_nl u_co b_op b_ar u_le b_pi b_pa u_pd u_od b_ws b_hw u_la b_se b_re u_bk u_va u_su u_ce u_ho u_wy u_bt u_ps b_pt u_tg u_sn b_ip z135 b_ah b_be b_me u_wd b_tr b_ld u_st b_wn u_id)), (b_rf, (arI G 7 z136))] hP hD ?_
    clear hP hD
    intro hP hD
    exact W.iret (v := (-6)) hx hb hr (fun t ht hW => ⟨⟨(-6), [(b_o, (oc12 0 z134 b_rf b_ro b_im b_ke u_fd b_tp 0 u_fr u_to u_so u_wo u_fa u_bd u_nc b_nl u_co b_op b_ar u_le b_pi b_pa u_pd u_od b_ws b_hw u_la b_se b_re u_bk u_va u_su u_ce u_ho u_wy u_bt u_ps b_pt u_tg u_sn b_ip z135 b_ah b_be b_me u_wd b_tr b_ld u_st b_wn u_id)), (b_rf, (arI G 7 z136)), (b_ro, (arI G 5740 v_ro)), (b_tp, (arI G 400 v_tp))], rfl, ⟨(-6), 0, z134, u_fd, 0, z135, z136, v_ro, r_ro, ⟨by have zc_o_td : (0 : Int32).toInt = 0 := (by decide +kernel); omega, by have zc_o_td : (0 : Int32).toInt = 0 := (by decide +kernel); omega⟩, i_133, by decide, rfl, (row_6 (t := v_tp) (td := u_td) (fd := u_fd) (f := v_ro) (by omega)).1.symm, (row_6 (t := v_tp) (td := u_td) (fd := u_fd) (f := v_ro) (by omega)).2.1.symm, (row_6 (t := v_tp) (td := u_td) (fd := u_fd) (f := v_ro) (by omega)).2.2.symm, rfl, rfl⟩, by rw [ht]; exact hP.sub [2, 3, 0, 1] rfl, hD.sub [2, 3, 0, 1] (by decide +kernel) rfl⟩, hS.F ht⟩) hS.2.2 dX12_row_25
set_option maxHeartbeats 4000000 in
set_option maxRecDepth 100000 in
theorem n_spotE (l : Launch) (G : g5_G) (b_o b_rf b_ro b_im b_ke b_tp b_nl b_op b_ar b_pi b_pa b_ws b_hw b_se b_re b_pt b_ip b_ah b_be b_me b_tr b_ld b_wn : Nat) (sz : Nat) (u_th : Int32) (u_sa : Int32) (u_fd : Int32) (u_td : Int32) (u_fr : Int32) (u_to : Int32) (u_so : Int32) (u_fa : Int32) (u_bd : Int32) (u_nc : Int32) (u_co : Int32) (u_le : Int32) (u_pd : Int32) (u_od : Int32) (u_la : Int32) (u_bk : Int32) (u_ce : Int32) (u_ho : Int32) (u_wy : Int32) (u_bt : Int32) (u_ps : Int32) (u_tg : Int32) (u_sn : Int32) (u_ic : Int32) (u_wd : Int32) (u_id : Int32) (p_1 : Int32) (p_2 : Int32) (p_3 : Int32) (u_wo : Int64) (u_va : Int64) (u_su : Int64) (u_st : Int64) (v_rf : Nat → Int32) (v_ro : Nat → Int32) (h_u_td : 0 ≤ u_td.toInt ∧ u_td.toInt ≤ 400) (h_u_fr : 0 ≤ u_fr.toInt ∧ u_fr.toInt ≤ 400) (h_u_to : 0 ≤ u_to.toInt ∧ u_to.toInt ≤ 400) (h_u_bd : 0 ≤ u_bd.toInt ∧ u_bd.toInt ≤ 1) (h_u_nc : 0 ≤ u_nc.toInt ∧ u_nc.toInt ≤ 12) (h_u_co : 0 ≤ u_co.toInt ∧ u_co.toInt ≤ 400) (h_u_pd : 0 ≤ u_pd.toInt ∧ u_pd.toInt ≤ 400) (h_u_la : 0 ≤ u_la.toInt ∧ u_la.toInt ≤ 4840) (h_u_bk : 0 ≤ u_bk.toInt ∧ u_bk.toInt ≤ 1) (h_u_ce : 0 ≤ u_ce.toInt ∧ u_ce.toInt ≤ 63) (h_u_ho : 0 ≤ u_ho.toInt ∧ u_ho.toInt ≤ 23) (h_u_wy : 0 ≤ u_wy.toInt ∧ u_wy.toInt ≤ 3) (h_u_bt : 0 ≤ u_bt.toInt ∧ u_bt.toInt ≤ 1000000) (h_u_ps : 0 ≤ u_ps.toInt ∧ u_ps.toInt ≤ 200) (h_u_ic : 0 ≤ u_ic.toInt ∧ u_ic.toInt ≤ 1) (h_u_id : 0 ≤ u_id.toInt ∧ u_id.toInt ≤ 1) (r_ro : MI v_ro) : Met l yX12_spot (wsG yX12_spot cX12_spot 5 (some .int)) ({ frames := 3, cells := 0, slots := 0, locals := 66 }) (va_Pc [.ref b_o, .int p_1, .int p_2, .int p_3] (g5_P G [(b_o, (oc12 u_th u_sa b_rf b_ro b_im b_ke u_fd b_tp u_td u_fr u_to u_so u_wo u_fa u_bd u_nc b_nl u_co b_op b_ar u_le b_pi b_pa u_pd u_od b_ws b_hw u_la b_se b_re u_bk u_va u_su u_ce u_ho u_wy u_bt u_ps b_pt u_tg u_sn b_ip u_ic b_ah b_be b_me u_wd b_tr b_ld u_st b_wn u_id)), (b_rf, (arI G 7 v_rf)), (b_ro, (arI G 5740 v_ro))] sz)) (va_Qi (fun (r : Int32) (u : va_W) => (∃ (o_r : Int32) (o_th : Int32) (o_sa : Int32) (o_ic : Int32) (o_rf : Nat → Int32) (o_ro : Nat → Int32), (MI o_ro) ∧ (0 ≤ o_ic.toInt ∧ o_ic.toInt ≤ 1) ∧ (o_r = aspot v_ro p_1 p_2 p_3) ∧ (o_ro = sspot v_ro p_1 p_2 p_3) ∧ (r = o_r) ∧ (u = [(b_o, (oc12 o_th o_sa b_rf b_ro b_im b_ke u_fd b_tp u_td u_fr u_to u_so u_wo u_fa u_bd u_nc b_nl u_co b_op b_ar u_le b_pi b_pa u_pd u_od b_ws b_hw u_la b_se b_re u_bk u_va u_su u_ce u_ho u_wy u_bt u_ps b_pt u_tg u_sn b_ip o_ic b_ah b_be b_me u_wd b_tr b_ld u_st b_wn u_id)), (b_rf, (arI G 7 o_rf)), (b_ro, (arI G 5740 o_ro))]))) (g5_B G (va_A [(b_o, (oc12 u_th u_sa b_rf b_ro b_im b_ke u_fd b_tp u_td u_fr u_to u_so u_wo u_fa u_bd u_nc b_nl u_co b_op b_ar u_le b_pi b_pa u_pd u_od b_ws b_hw u_la b_se b_re u_bk u_va u_su u_ce u_ho u_wy u_bt u_ps b_pt u_tg u_sn b_ip u_ic b_ah b_be b_me u_wd b_tr b_ld u_st b_wn u_id)), (b_rf, (arI G 7 v_rf)), (b_ro, (arI G 5740 v_ro))] sz)) (va_A [(b_o, (oc12 u_th u_sa b_rf b_ro b_im b_ke u_fd b_tp u_td u_fr u_to u_so u_wo u_fa u_bd u_nc b_nl u_co b_op b_ar u_le b_pi b_pa u_pd u_od b_ws b_hw u_la b_se b_re u_bk u_va u_su u_ce u_ho u_wy u_bt u_ps b_pt u_tg u_sn b_ip u_ic b_ah b_be b_me u_wd b_tr b_ld u_st b_wn u_id)), (b_rf, (arI G 7 v_rf)), (b_ro, (arI G 5740 v_ro))] sz)) 0 0 (va_A [(b_o, (oc12 u_th u_sa b_rf b_ro b_im b_ke u_fd b_tp u_td u_fr u_to u_so u_wo u_fa u_bd u_nc b_nl u_co b_op b_ar u_le b_pi b_pa u_pd u_od b_ws b_hw u_la b_se b_re u_bk u_va u_su u_ce u_ho u_wy u_bt u_ps b_pt u_tg u_sn b_ip u_ic b_ah b_be b_me u_wd b_tr b_ld u_st b_wn u_id)), (b_rf, (arI G 7 v_rf)), (b_ro, (arI G 5740 v_ro))] sz) := by
  refine Met.ofW (cc := cX12_spot) (maxL := 5) (ret := (some .int)) (by decide +kernel) rfl ?_
  intro p e s m args below meth c s₁ B hml hv
  obtain ⟨rfl, hsz, hP, hK, hD0, hN, hT⟩ := hv
  have hx := B.exec
  have hb := B.bytes
  have hr := B.returns
  have hts : ∀ w ∈ tblG, w.before _ s = true := fun w h => atoms_spec (ws := (wsG yX12_spot cX12_spot 5 (some .int))) B.pre w (List.mem_cons_of_mem _ h)
  have hown : s.vm.findClass RX12 = some m.cls := findClass_of_methodNamed B.named
  have hlocks := B.notSynchronized
  subst hsz
  have hD := hD0.self (sz := s.heap.size)
  generalize hAe : va_A [(b_o, (oc12 u_th u_sa b_rf b_ro b_im b_ke u_fd b_tp u_td u_fr u_to u_so u_wo u_fa u_bd u_nc b_nl u_co b_op b_ar u_le b_pi b_pa u_pd u_od b_ws b_hw u_la b_se b_re u_bk u_va u_su u_ce u_ho u_wy u_bt u_ps b_pt u_tg u_sn b_ip u_ic b_ah b_be b_me u_wd b_tr b_ld u_st b_wn u_id)), (b_rf, (arI G 7 v_rf)), (b_ro, (arI G 5740 v_ro))] s.heap.size = A at hD hT ⊢
  have hA : ∀ q : Nat, s.heap.size ≤ q → A q := fun q h => by rw [← hAe]; exact Or.inr h
  have hS : va_S A s.heap s.heap [] := va_S.rf
  replace hP : va_P G.1 vwCl [(b_o, (oc12 u_th u_sa b_rf b_ro b_im b_ke u_fd b_tp u_td u_fr u_to u_so u_wo u_fa u_bd u_nc b_nl u_co b_op b_ar u_le b_pi b_pa u_pd u_od b_ws b_hw u_la b_se b_re u_bk u_va u_su u_ce u_ho u_wy u_bt u_ps b_pt u_tg u_sn b_ip u_ic b_ah b_be b_me u_wd b_tr b_ld u_st b_wn u_id)), (b_rf, (arI G 7 v_rf)), (b_ro, (arI G 5740 v_ro))] s.heap := hP
  have hl := lv_entry ([.ref b_o, .int p_1, .int p_2, .int p_3]) (n := 5) (Nat.le_of_ble_eq_true rfl)
  rw [lg_entry_eq]
  generalize (lg_sl ([.ref b_o, .int p_1, .int p_2, .int p_3]) ++ List.replicate (5 - (lg_sl ([.ref b_o, .int p_1, .int p_2, .int p_3])).length) Slot.unset).toArray = ls at hl ⊢
  replace hl : lv_has ls 5 [(0, .ref b_o), (1, .int p_1), (2, .int p_2), (3, .int p_3)] := hl
  refine lv_aload_n hx hb dX12_spot_0 rfl (lv_at hl 0 rfl) ?_
  refine lv_iconst (v := 0) hx hb dX12_spot_1 (by decide +kernel) ?_
  refine va_put (D := G.1) (ci := 12) (v := .int 0) (ty := .int) (C := RX12) (T := TX12) (N := 52) hx hb hts inG_X12 tyX12 tyX12_ok nmX12 hown hK hP hD hS 0 rfl rfl 0 (by decide +kernel) (hts _ fl_X12_107) (fun _ h9 => h9) rfl (by decide +kernel) rfl rfl (Nat.le_of_ble_eq_true rfl) dX12_spot_2 ?_
  clear hP hD hS
  intro H locs hP hD hS
  refine g5_rs [(b_o, (oc12 0 u_sa b_rf b_ro b_im b_ke u_fd b_tp u_td u_fr u_to u_so u_wo u_fa u_bd u_nc b_nl u_co b_op b_ar u_le b_pi b_pa u_pd u_od b_ws b_hw u_la b_se b_re u_bk u_va u_su u_ce u_ho u_wy u_bt u_ps b_pt u_tg u_sn b_ip u_ic b_ah b_be b_me u_wd b_tr b_ld u_st b_wn u_id)), (b_rf, (arI G 7 v_rf)), (b_ro, (arI G 5740 v_ro))] hP hD ?_
  clear hP hD
  intro hP hD
  refine lv_iload_n hx hb dX12_spot_5 rfl (lv_at hl 1 rfl) ?_
  refine W.eq (g2 := F0 m 6 ls [.int p_1]) rfl ?_
  obtain ⟨hPc, hDc, hFc⟩ := g5_sub3 (wc := []) hP hD hS hA [] (by decide +kernel) rfl
  refine va_calli (va_runS (As := [.int p_1]) (rest := []) ⟨hx, hb, hml, hown, hts⟩ (n_isCellE l G H.size p_1) (va_cwS 1 hts gS_X12_138 rfl rfl rfl hs_X12_isCell ⟨Nat.le_of_ble_eq_true rfl, Nat.le_of_ble_eq_true rfl⟩) (g5_preS hPc hK hDc hN hT hS hFc) rfl rfl hl.1 rfl (lv_room (Nat.le_of_ble_eq_true rfl)) dX12_spot_6 ⟨Nat.le_of_ble_eq_true rfl, Nat.le_of_ble_eq_true rfl⟩) hS (fun q _ h => hFc q h) hFc (fun r u t H locs ht hvm hw hB hz1 hk1 hS => ?_)
  obtain ⟨hP1, hD1⟩ := hB
  have hP1 := g5_ht ht hP1
  rcases hw with ⟨(i_1 : 0 ≤ p_1.toInt ∧ p_1.toInt ≤ 63), rfl, rfl⟩ | ⟨(i_2 : p_1.toInt < 0 ∨ 63 < p_1.toInt), rfl, rfl⟩
  ·
    have hJ9 := g5_same hP hk1
    clear hP hPc hDc hFc ht hvm hz1 hk1 hP1 hD1
    have hP := hJ9
    clear hJ9
    refine lv_if_eq (tgt := 28) hx hb dX12_spot_9 (by decide +kernel) (fun c_3 => ?_) (fun c_3 => ?_)
    ·
      exact absurd c_3 (by decide +kernel)
    ·
      refine lv_iconst (v := 0) hx hb dX12_spot_12 (by decide +kernel) ?_
      refine lv_iload_n hx hb dX12_spot_13 rfl (lv_at hl 2 rfl) ?_
      obtain ⟨hPc, hDc, hFc⟩ := g5_sub3 (wc := []) hP hD hS hA [] (by decide +kernel) rfl
      refine va_calli (va_runS (As := [.int 0, .int p_2]) (rest := []) ⟨hx, hb, hml, hown, hts⟩ (n_fits0E l G H.size p_2) (va_cwS 2 hts gS_X12_163 rfl rfl rfl hs_X12_fits ⟨Nat.le_of_ble_eq_true rfl, Nat.le_of_ble_eq_true rfl⟩) (g5_preS hPc hK hDc hN hT hS hFc) rfl rfl hl.1 rfl (lv_room (Nat.le_of_ble_eq_true rfl)) dX12_spot_14 ⟨Nat.le_of_ble_eq_true rfl, Nat.le_of_ble_eq_true rfl⟩) hS (fun q _ h => hFc q h) hFc (fun r u t H locs ht hvm hw hB hz1 hk1 hS => ?_)
      obtain ⟨hP1, hD1⟩ := hB
      have hP1 := g5_ht ht hP1
      rcases hw with ⟨(i_4 : 0 ≤ p_2.toInt ∧ p_2.toInt ≤ 5), rfl, rfl⟩ | ⟨(i_5 : p_2.toInt < 0 ∨ 5 < p_2.toInt), rfl, rfl⟩
      ·
        have hJ9 := g5_same hP hk1
        clear hP hPc hDc hFc ht hvm hz1 hk1 hP1 hD1
        have hP := hJ9
        clear hJ9
        refine lv_if_eq (tgt := 28) hx hb dX12_spot_17 (by decide +kernel) (fun c_6 => ?_) (fun c_6 => ?_)
        ·
          exact absurd c_6 (by decide +kernel)
        ·
          refine lv_iconst (v := 1) hx hb dX12_spot_20 (by decide +kernel) ?_
          refine lv_iload_n hx hb dX12_spot_21 rfl (lv_at hl 3 rfl) ?_
          obtain ⟨hPc, hDc, hFc⟩ := g5_sub3 (wc := []) hP hD hS hA [] (by decide +kernel) rfl
          refine va_calli (va_runS (As := [.int 1, .int p_3]) (rest := []) ⟨hx, hb, hml, hown, hts⟩ (n_fits1E l G H.size p_3) (va_cwS 2 hts gS_X12_163 rfl rfl rfl hs_X12_fits ⟨Nat.le_of_ble_eq_true rfl, Nat.le_of_ble_eq_true rfl⟩) (g5_preS hPc hK hDc hN hT hS hFc) rfl rfl hl.1 rfl (lv_room (Nat.le_of_ble_eq_true rfl)) dX12_spot_22 ⟨Nat.le_of_ble_eq_true rfl, Nat.le_of_ble_eq_true rfl⟩) hS (fun q _ h => hFc q h) hFc (fun r u t H locs ht hvm hw hB hz1 hk1 hS => ?_)
          obtain ⟨hP1, hD1⟩ := hB
          have hP1 := g5_ht ht hP1
          rcases hw with ⟨(i_7 : 0 ≤ p_3.toInt ∧ p_3.toInt ≤ 23), rfl, rfl⟩ | ⟨(i_8 : p_3.toInt < 0 ∨ 23 < p_3.toInt), rfl, rfl⟩
          ·
            have hJ9 := g5_same hP hk1
            clear hP hPc hDc hFc ht hvm hz1 hk1 hP1 hD1
            have hP := hJ9
            clear hJ9
            refine lv_if_ne (tgt := 34) hx hb dX12_spot_25 (by decide +kernel) (fun c_9 => ?_) (fun c_9 => ?_)
            ·
              refine lv_aload_n hx hb dX12_spot_34 rfl (lv_at hl 0 rfl) ?_
              refine lv_iload_n hx hb dX12_spot_35 rfl (lv_at hl 1 rfl) ?_
              obtain ⟨hPc, hDc, hFc⟩ := g5_sub3 (wc := [(b_o, (oc12 0 u_sa b_rf b_ro b_im b_ke u_fd b_tp u_td u_fr u_to u_so u_wo u_fa u_bd u_nc b_nl u_co b_op b_ar u_le b_pi b_pa u_pd u_od b_ws b_hw u_la b_se b_re u_bk u_va u_su u_ce u_ho u_wy u_bt u_ps b_pt u_tg u_sn b_ip u_ic b_ah b_be b_me u_wd b_tr b_ld u_st b_wn u_id)), (b_ro, (arI G 5740 v_ro))]) hP hD hS hA [0, 2] (by decide +kernel) rfl
              refine va_calli (va_runV (As := [.int p_1]) (rest := []) ⟨hx, hb, hml, hown, hts⟩ (n_canHangE l G b_o b_ro b_rf b_im b_ke b_tp b_nl b_op b_ar b_pi b_pa b_ws b_hw b_se b_re b_pt b_ip b_ah b_be b_me b_tr b_ld b_wn H.size 0 u_sa u_fd u_td u_fr u_to u_so u_fa u_bd u_nc u_co u_le u_pd u_od u_la u_bk u_ce u_ho u_wy u_bt u_ps u_tg u_sn u_ic u_wd u_id p_1 u_wo u_va u_su u_st v_ro h_u_td h_u_fr h_u_to h_u_bd h_u_nc h_u_co h_u_pd h_u_la h_u_bk h_u_ce h_u_ho h_u_wy h_u_bt h_u_ps h_u_ic h_u_id i_1 (r_ro)) (cwV 1 hts gV_X12_167 rfl rfl rfl hv_X12_canHang ⟨Nat.le_of_ble_eq_true rfl, Nat.le_of_ble_eq_true rfl⟩) (g5_preV hPc hK hDc hN hT hS hFc (ci := 12) (q0 := 0) rfl rfl) rfl rfl hl.1 rfl (lv_room (Nat.le_of_ble_eq_true rfl)) dX12_spot_36 ⟨Nat.le_of_ble_eq_true rfl, Nat.le_of_ble_eq_true rfl⟩) hS (fun q _ h => hFc q h) hFc (fun r u t H locs ht hvm hw hB hz1 hk1 hS => ?_)
              obtain ⟨hP1, hD1⟩ := hB
              have hP1 := g5_ht ht hP1
              rcases hw with ⟨(i_10 : canR v_ro p_1.toInt), rfl, rfl⟩ | ⟨(i_11 : ¬ canR v_ro p_1.toInt), rfl, rfl⟩
              ·
                have hJ9 := va_join (wr := [(b_rf, (arI G 7 v_rf))]) hP hD [0, 2] [1] rfl rfl (by decide +kernel) (by decide +kernel) hk1 hFc hP1 hD1
                clear hP hD hPc hDc hFc ht hvm hz1 hk1 hP1 hD1
                obtain ⟨hP, hD⟩ := hJ9
                refine g5_rs [(b_rf, (arI G 7 v_rf)), (b_o, (oc12 0 u_sa b_rf b_ro b_im b_ke u_fd b_tp u_td u_fr u_to u_so u_wo u_fa u_bd u_nc b_nl u_co b_op b_ar u_le b_pi b_pa u_pd u_od b_ws b_hw u_la b_se b_re u_bk u_va u_su u_ce u_ho u_wy u_bt u_ps b_pt u_tg u_sn b_ip u_ic b_ah b_be b_me u_wd b_tr b_ld u_st b_wn u_id)), (b_ro, (arI G 5740 v_ro))] hP hD ?_
                clear hP hD
                intro hP hD
                refine lv_if_ne (tgt := 49) hx hb dX12_spot_39 (by decide +kernel) (fun c_12 => ?_) (fun c_12 => ?_)
                ·
                  refine lv_aload_n hx hb dX12_spot_49 rfl (lv_at hl 0 rfl) ?_
                  refine va_get (D := G.1) (ci := 12) (v := .ref b_ro) (C := RX12) (T := TX12) (N := 52) hx hb hts inG_X12 hown hK hP 1 rfl rfl 3 (by decide +kernel) (hts _ fl_X12_13) (fun _ h9 => h9) rfl dX12_spot_50 ?_
                  refine lv_bipush (v := 7) hx hb dX12_spot_53 (by decide +kernel) ?_
                  refine va_iald hx hb hK hP 2 0 rfl rfl (i := 7) (by unfold vp_in; decide) dX12_spot_55 ?_
                  refine g5_ti (v := (v_ro 7)) rfl ?_
                  have hr_13 : 0 ≤ (v_ro 7).toInt ∧ (v_ro 7).toInt ≤ 8 := mi_7 r_ro
                  refine W.eq (g2 := F0 m 56 ls [.int (v_ro 7)]) rfl ?_
                  refine lv_istore (lv' := [(4, .int (v_ro 7)), (0, .ref b_o), (1, .int p_1), (2, .int p_2), (3, .int p_3)]) hx hb dX12_spot_56 hl (by decide +kernel) rfl ?_
                  clear hl
                  intro ls hl
                  refine lv_iload hx hb dX12_spot_58 (lv_at hl 0 rfl) ?_
                  refine lv_bipush (v := 8) hx hb dX12_spot_60 (by decide +kernel) ?_
                  refine lv_icmp_ne (tgt := 72) hx hb dX12_spot_62 (by decide +kernel) (fun c_14 => ?_) (fun c_14 => ?_)
                  ·
                    have n_14 : gNe ((v_ro 7).toInt) (8) := g5_ne (a := (v_ro 7).toInt) (b := 8) rfl (by decide +kernel) c_14
                    have i_14 : (v_ro 7).toInt ≤ 7 := by have z := g5_ne (a := (v_ro 7).toInt) (b := 8) (by rfl) (by decide +kernel) c_14; omega
                    refine lv_aload_n hx hb dX12_spot_72 rfl (lv_at hl 1 rfl) ?_
                    refine va_get (D := G.1) (ci := 12) (v := .ref b_ro) (C := RX12) (T := TX12) (N := 52) hx hb hts inG_X12 hown hK hP 1 rfl rfl 3 (by decide +kernel) (hts _ fl_X12_13) (fun _ h9 => h9) rfl dX12_spot_73 ?_
                    refine lv_sipush (v := 270) hx hb dX12_spot_76 (by decide +kernel) ?_
                    refine lv_iconst (v := 3) hx hb dX12_spot_79 (by decide +kernel) ?_
                    refine W.eq (g2 := F0 m 80 ls [.int 3, .int 270, .ref b_ro]) rfl ?_
                    refine lv_iload hx hb dX12_spot_80 (lv_at hl 0 rfl) ?_
                    refine lv_imul hx hb dX12_spot_82 ?_
                    have t_15 : (3 * (v_ro 7)).toInt = 3 * (v_ro 7).toInt := g5_imul (a := 3) (b := (v_ro 7).toInt) (by decide +kernel) (by rfl) (by omega) (by omega)
                    refine lv_iadd hx hb dX12_spot_83 ?_
                    have t_16 : (270 + (3 * (v_ro 7))).toInt = 270 + (3 * (v_ro 7)).toInt := g5_iadd (a := 270) (b := (3 * (v_ro 7)).toInt) (by decide +kernel) (by rfl) (by omega) (by omega)
                    refine lv_iload_n hx hb dX12_spot_84 rfl (lv_at hl 2 rfl) ?_
                    refine va_iast hx hb hK hP hD hS 2 0 rfl rfl (i := (270 + (3 * (v_ro 7)))) (x := p_1) (vp_in_iff.mpr ⟨by omega, by omega⟩) dX12_spot_85 ?_
                    clear hP hD hS
                    intro H locs hP hD hS
                    refine g5_rs [(b_rf, (arI G 7 v_rf)), (b_o, (oc12 0 u_sa b_rf b_ro b_im b_ke u_fd b_tp u_td u_fr u_to u_so u_wo u_fa u_bd u_nc b_nl u_co b_op b_ar u_le b_pi b_pa u_pd u_od b_ws b_hw u_la b_se b_re u_bk u_va u_su u_ce u_ho u_wy u_bt u_ps b_pt u_tg u_sn b_ip u_ic b_ah b_be b_me u_wd b_tr b_ld u_st b_wn u_id)), (b_ro, (arI G 5740 (upd v_ro (270 + (3 * (v_ro 7))).toNatClampNeg p_1)))] hP hD ?_
                    clear hP hD
                    intro hP hD
                    refine W.eq (g2 := F0 m 86 ls []) rfl ?_
                    refine lv_aload_n hx hb dX12_spot_86 rfl (lv_at hl 1 rfl) ?_
                    refine va_get (D := G.1) (ci := 12) (v := .ref b_ro) (C := RX12) (T := TX12) (N := 52) hx hb hts inG_X12 hown hK hP 1 rfl rfl 3 (by decide +kernel) (hts _ fl_X12_13) (fun _ h9 => h9) rfl dX12_spot_87 ?_
                    refine lv_sipush (v := 270) hx hb dX12_spot_90 (by decide +kernel) ?_
                    refine lv_iconst (v := 3) hx hb dX12_spot_93 (by decide +kernel) ?_
                    refine lv_iload hx hb dX12_spot_94 (lv_at hl 0 rfl) ?_
                    refine W.eq (g2 := F0 m 96 ls [.int (v_ro 7), .int 3, .int 270, .ref b_ro]) rfl ?_
                    refine lv_imul hx hb dX12_spot_96 ?_
                    have t_17 : (3 * (v_ro 7)).toInt = 3 * (v_ro 7).toInt := g5_imul (a := 3) (b := (v_ro 7).toInt) (by decide +kernel) (by rfl) (by omega) (by omega)
                    refine lv_iadd hx hb dX12_spot_97 ?_
                    have t_18 : (270 + (3 * (v_ro 7))).toInt = 270 + (3 * (v_ro 7)).toInt := g5_iadd (a := 270) (b := (3 * (v_ro 7)).toInt) (by decide +kernel) (by rfl) (by omega) (by omega)
                    refine lv_iconst (v := 1) hx hb dX12_spot_98 (by decide +kernel) ?_
                    refine lv_iadd hx hb dX12_spot_99 ?_
                    have t_19 : ((270 + (3 * (v_ro 7))) + 1).toInt = (270 + (3 * (v_ro 7))).toInt + 1 := g5_iadd (a := (270 + (3 * (v_ro 7))).toInt) (b := 1) (by rfl) (by decide +kernel) (by omega) (by omega)
                    refine lv_iload_n hx hb dX12_spot_100 rfl (lv_at hl 3 rfl) ?_
                    refine W.eq (g2 := F0 m 101 ls [.int p_2, .int ((270 + (3 * (v_ro 7))) + 1), .ref b_ro]) rfl ?_
                    refine va_iast hx hb hK hP hD hS 2 0 rfl rfl (i := ((270 + (3 * (v_ro 7))) + 1)) (x := p_2) (vp_in_iff.mpr ⟨by omega, by omega⟩) dX12_spot_101 ?_
                    clear hP hD hS
                    intro H locs hP hD hS
                    refine g5_rs [(b_rf, (arI G 7 v_rf)), (b_o, (oc12 0 u_sa b_rf b_ro b_im b_ke u_fd b_tp u_td u_fr u_to u_so u_wo u_fa u_bd u_nc b_nl u_co b_op b_ar u_le b_pi b_pa u_pd u_od b_ws b_hw u_la b_se b_re u_bk u_va u_su u_ce u_ho u_wy u_bt u_ps b_pt u_tg u_sn b_ip u_ic b_ah b_be b_me u_wd b_tr b_ld u_st b_wn u_id)), (b_ro, (arI G 5740 (upd (upd v_ro (270 + (3 * (v_ro 7))).toNatClampNeg p_1) ((270 + (3 * (v_ro 7))) + 1).toNatClampNeg p_2)))] hP hD ?_
                    clear hP hD
                    intro hP hD
                    refine lv_aload_n hx hb dX12_spot_102 rfl (lv_at hl 1 rfl) ?_
                    refine va_get (D := G.1) (ci := 12) (v := .ref b_ro) (C := RX12) (T := TX12) (N := 52) hx hb hts inG_X12 hown hK hP 1 rfl rfl 3 (by decide +kernel) (hts _ fl_X12_13) (fun _ h9 => h9) rfl dX12_spot_103 ?_
                    refine lv_sipush (v := 270) hx hb dX12_spot_106 (by decide +kernel) ?_
                    refine lv_iconst (v := 3) hx hb dX12_spot_109 (by decide +kernel) ?_
                    refine W.eq (g2 := F0 m 110 ls [.int 3, .int 270, .ref b_ro]) rfl ?_
                    refine lv_iload hx hb dX12_spot_110 (lv_at hl 0 rfl) ?_
                    refine lv_imul hx hb dX12_spot_112 ?_
                    have t_20 : (3 * (v_ro 7)).toInt = 3 * (v_ro 7).toInt := g5_imul (a := 3) (b := (v_ro 7).toInt) (by decide +kernel) (by rfl) (by omega) (by omega)
                    refine lv_iadd hx hb dX12_spot_113 ?_
                    have t_21 : (270 + (3 * (v_ro 7))).toInt = 270 + (3 * (v_ro 7)).toInt := g5_iadd (a := 270) (b := (3 * (v_ro 7)).toInt) (by decide +kernel) (by rfl) (by omega) (by omega)
                    refine lv_iconst (v := 2) hx hb dX12_spot_114 (by decide +kernel) ?_
                    refine lv_iadd hx hb dX12_spot_115 ?_
                    have t_22 : ((270 + (3 * (v_ro 7))) + 2).toInt = (270 + (3 * (v_ro 7))).toInt + 2 := g5_iadd (a := (270 + (3 * (v_ro 7))).toInt) (b := 2) (by rfl) (by decide +kernel) (by omega) (by omega)
                    refine W.eq (g2 := F0 m 116 ls [.int ((270 + (3 * (v_ro 7))) + 2), .ref b_ro]) rfl ?_
                    refine lv_iload_n hx hb dX12_spot_116 rfl (lv_at hl 4 rfl) ?_
                    refine va_iast hx hb hK hP hD hS 2 0 rfl rfl (i := ((270 + (3 * (v_ro 7))) + 2)) (x := p_3) (vp_in_iff.mpr ⟨by omega, by omega⟩) dX12_spot_117 ?_
                    clear hP hD hS
                    intro H locs hP hD hS
                    refine g5_rs [(b_rf, (arI G 7 v_rf)), (b_o, (oc12 0 u_sa b_rf b_ro b_im b_ke u_fd b_tp u_td u_fr u_to u_so u_wo u_fa u_bd u_nc b_nl u_co b_op b_ar u_le b_pi b_pa u_pd u_od b_ws b_hw u_la b_se b_re u_bk u_va u_su u_ce u_ho u_wy u_bt u_ps b_pt u_tg u_sn b_ip u_ic b_ah b_be b_me u_wd b_tr b_ld u_st b_wn u_id)), (b_ro, (arI G 5740 (upd (upd (upd v_ro (270 + (3 * (v_ro 7))).toNatClampNeg p_1) ((270 + (3 * (v_ro 7))) + 1).toNatClampNeg p_2) ((270 + (3 * (v_ro 7))) + 2).toNatClampNeg p_3)))] hP hD ?_
                    clear hP hD
                    intro hP hD
                    refine lv_aload_n hx hb dX12_spot_118 rfl (lv_at hl 1 rfl) ?_
                    refine va_get (D := G.1) (ci := 12) (v := .ref b_ro) (C := RX12) (T := TX12) (N := 52) hx hb hts inG_X12 hown hK hP 1 rfl rfl 3 (by decide +kernel) (hts _ fl_X12_13) (fun _ h9 => h9) rfl dX12_spot_119 ?_
                    refine lv_bipush (v := 7) hx hb dX12_spot_122 (by decide +kernel) ?_
                    refine W.eq (g2 := F0 m 124 ls [.int 7, .ref b_ro]) rfl ?_
                    refine lv_dup2_11 hx hb dX12_spot_124 rfl rfl ?_
                    refine va_iald hx hb hK hP 2 0 rfl rfl (i := 7) (by unfold vp_in; decide) dX12_spot_125 ?_
                    refine g5_ti (v := ((upd (upd (upd v_ro (270 + (3 * (v_ro 7))).toNatClampNeg p_1) ((270 + (3 * (v_ro 7))) + 1).toNatClampNeg p_2) ((270 + (3 * (v_ro 7))) + 2).toNatClampNeg p_3) 7)) rfl ?_
                    have hu_23 : ((upd (upd (upd v_ro (270 + (3 * (v_ro 7))).toNatClampNeg p_1) ((270 + (3 * (v_ro 7))) + 1).toNatClampNeg p_2) ((270 + (3 * (v_ro 7))) + 2).toNatClampNeg p_3) 7) = (v_ro 7) := by unfold upd; rw [if_neg (by have zz := g5_clamp ((270 + (3 * (v_ro 7))) + 2); omega), if_neg (by have zz := g5_clamp ((270 + (3 * (v_ro 7))) + 1); omega), if_neg (by have zz := g5_clamp (270 + (3 * (v_ro 7))); omega)]
                    refine g5_ti (v := (v_ro 7)) hu_23 ?_
                    have hr_24 : 0 ≤ (v_ro 7).toInt ∧ (v_ro 7).toInt ≤ 8 := mi_7 r_ro
                    refine lv_iconst (v := 1) hx hb dX12_spot_126 (by decide +kernel) ?_
                    refine lv_iadd hx hb dX12_spot_127 ?_
                    have t_25 : ((v_ro 7) + 1).toInt = (v_ro 7).toInt + 1 := g5_iadd (a := (v_ro 7).toInt) (b := 1) (by rfl) (by decide +kernel) (by omega) (by omega)
                    refine va_iast hx hb hK hP hD hS 2 0 rfl rfl (i := 7) (x := ((v_ro 7) + 1)) (by unfold vp_in; decide) dX12_spot_128 ?_
                    clear hP hD hS
                    intro H locs hP hD hS
                    refine g5_rs [(b_rf, (arI G 7 v_rf)), (b_o, (oc12 0 u_sa b_rf b_ro b_im b_ke u_fd b_tp u_td u_fr u_to u_so u_wo u_fa u_bd u_nc b_nl u_co b_op b_ar u_le b_pi b_pa u_pd u_od b_ws b_hw u_la b_se b_re u_bk u_va u_su u_ce u_ho u_wy u_bt u_ps b_pt u_tg u_sn b_ip u_ic b_ah b_be b_me u_wd b_tr b_ld u_st b_wn u_id)), (b_ro, (arI G 5740 (upd (upd (upd (upd v_ro (270 + (3 * (v_ro 7))).toNatClampNeg p_1) ((270 + (3 * (v_ro 7))) + 1).toNatClampNeg p_2) ((270 + (3 * (v_ro 7))) + 2).toNatClampNeg p_3) 7 ((v_ro 7) + 1))))] hP hD ?_
                    clear hP hD
                    intro hP hD
                    refine W.eq (g2 := F0 m 129 ls []) rfl ?_
                    refine lv_aload_n hx hb dX12_spot_129 rfl (lv_at hl 1 rfl) ?_
                    refine lv_iload hx hb dX12_spot_130 (lv_at hl 0 rfl) ?_
                    obtain ⟨hPc, hDc, hFc⟩ := g5_sub3 (wc := [(b_o, (oc12 0 u_sa b_rf b_ro b_im b_ke u_fd b_tp u_td u_fr u_to u_so u_wo u_fa u_bd u_nc b_nl u_co b_op b_ar u_le b_pi b_pa u_pd u_od b_ws b_hw u_la b_se b_re u_bk u_va u_su u_ce u_ho u_wy u_bt u_ps b_pt u_tg u_sn b_ip u_ic b_ah b_be b_me u_wd b_tr b_ld u_st b_wn u_id)), (b_rf, (arI G 7 v_rf))]) hP hD hS hA [1, 0] (by decide +kernel) rfl
                    refine va_calli (va_runV (As := [.int (v_ro 7)]) (rest := []) ⟨hx, hb, hml, hown, hts⟩ (n_tell l G b_o b_rf b_ro b_im b_ke b_tp b_nl b_op b_ar b_pi b_pa b_ws b_hw b_se b_re b_pt b_ip b_ah b_be b_me b_tr b_ld b_wn H.size 0 u_sa u_fd u_td u_fr u_to u_so u_fa u_bd u_nc u_co u_le u_pd u_od u_la u_bk u_ce u_ho u_wy u_bt u_ps u_tg u_sn u_ic u_wd u_id (v_ro 7) u_wo u_va u_su u_st v_rf h_u_td h_u_fr h_u_to h_u_bd h_u_nc h_u_co h_u_pd h_u_la h_u_bk h_u_ce h_u_ho h_u_wy h_u_bt h_u_ps h_u_ic h_u_id ⟨by omega, by omega⟩) (cwV 1 hts gV_X12_125 rfl rfl rfl hv_X12_tell ⟨Nat.le_of_ble_eq_true rfl, Nat.le_of_ble_eq_true rfl⟩) (g5_preV hPc hK hDc hN hT hS hFc (ci := 12) (q0 := 0) rfl rfl) rfl rfl hl.1 rfl (lv_room (Nat.le_of_ble_eq_true rfl)) dX12_spot_132 ⟨Nat.le_of_ble_eq_true rfl, Nat.le_of_ble_eq_true rfl⟩) hS (fun q _ h => hFc q h) hFc (fun r u t H locs ht hvm hw hB hz1 hk1 hS => ?_)
                    obtain ⟨hP1, hD1⟩ := hB
                    have hP1 := g5_ht ht hP1
                    obtain ⟨z27, z28, z29, (i_26 : 0 ≤ z28.toInt ∧ z28.toInt ≤ 1), rfl, rfl⟩ := hw
                    have hJ9 := va_join (wr := [(b_ro, (arI G 5740 (upd (upd (upd (upd v_ro (270 + (3 * (v_ro 7))).toNatClampNeg p_1) ((270 + (3 * (v_ro 7))) + 1).toNatClampNeg p_2) ((270 + (3 * (v_ro 7))) + 2).toNatClampNeg p_3) 7 ((v_ro 7) + 1))))]) hP hD [1, 0] [2] rfl rfl (by decide +kernel) (by decide +kernel) hk1 hFc hP1 hD1
                    clear hP hD hPc hDc hFc ht hvm hz1 hk1 hP1 hD1
                    obtain ⟨hP, hD⟩ := hJ9
                    refine g5_rs [(b_ro, (arI G 5740 (upd (upd (upd (upd v_ro (270 + (3 * (v_ro 7))).toNatClampNeg p_1) ((270 + (3 * (v_ro 7))) + 1).toNatClampNeg p_2) ((270 + (3 * (v_ro 7))) + 2).toNatClampNeg p_3) 7 ((v_ro 7) + 1)))), (b_o, (oc12 0 z27 b_rf b_ro b_im b_ke u_fd b_tp u_td u_fr u_to u_so u_wo u_fa u_bd u_nc b_nl u_co b_op b_ar u_le b_pi b_pa u_pd u_od b_ws b_hw u_la b_se b_re u_bk u_va u_su u_ce u_ho u_wy u_bt u_ps b_pt u_tg u_sn b_ip z28 b_ah b_be b_me u_wd b_tr b_ld u_st b_wn u_id)), (b_rf, (arI G 7 z29))] hP hD ?_
                    clear hP hD
                    intro hP hD
                    exact W.iret (v := (v_ro 7)) hx hb hr (fun t ht hW => ⟨⟨(v_ro 7), [(b_o, (oc12 0 z27 b_rf b_ro b_im b_ke u_fd b_tp u_td u_fr u_to u_so u_wo u_fa u_bd u_nc b_nl u_co b_op b_ar u_le b_pi b_pa u_pd u_od b_ws b_hw u_la b_se b_re u_bk u_va u_su u_ce u_ho u_wy u_bt u_ps b_pt u_tg u_sn b_ip z28 b_ah b_be b_me u_wd b_tr b_ld u_st b_wn u_id)), (b_rf, (arI G 7 z29)), (b_ro, (arI G 5740 (upd (upd (upd (upd v_ro (270 + (3 * (v_ro 7))).toNatClampNeg p_1) ((270 + (3 * (v_ro 7))) + 1).toNatClampNeg p_2) ((270 + (3 * (v_ro 7))) + 2).toNatClampNeg p_3) 7 ((v_ro 7) + 1))))], rfl, ⟨(v_ro 7), 0, z27, z28, z29, (upd (upd (upd (upd v_ro (270 + (3 * (v_ro 7))).toNatClampNeg p_1) ((270 + (3 * (v_ro 7))) + 1).toNatClampNeg p_2) ((270 + (3 * (v_ro 7))) + 2).toNatClampNeg p_3) 7 ((v_ro 7) + 1)), mi_upd (mi_upd (mi_upd (mi_upd r_ro (by have zz := g5_clamp (270 + (3 * (v_ro 7))); unfold rOK; refine ⟨?_, ?_, ?_, ?_, ?_, ?_, ?_, ?_, ?_, ?_, ?_, ?_, ?_, ?_, ?_, ?_, ?_, ?_, ?_, ?_, ?_, ?_, ?_⟩ <;> (intros; omega)) (by have zz := g5_clamp (270 + (3 * (v_ro 7))); omega) (by have zz := g5_clamp (270 + (3 * (v_ro 7))); omega) (by have zz := g5_clamp (270 + (3 * (v_ro 7))); omega) (by have zz := g5_clamp (270 + (3 * (v_ro 7))); omega) (by have zz := g5_clamp (270 + (3 * (v_ro 7))); omega)) (by have zz := g5_clamp ((270 + (3 * (v_ro 7))) + 1); unfold rOK; refine ⟨?_, ?_, ?_, ?_, ?_, ?_, ?_, ?_, ?_, ?_, ?_, ?_, ?_, ?_, ?_, ?_, ?_, ?_, ?_, ?_, ?_, ?_, ?_⟩ <;> (intros; omega)) (by have zz := g5_clamp ((270 + (3 * (v_ro 7))) + 1); omega) (by have zz := g5_clamp ((270 + (3 * (v_ro 7))) + 1); omega) (by have zz := g5_clamp ((270 + (3 * (v_ro 7))) + 1); omega) (by have zz := g5_clamp ((270 + (3 * (v_ro 7))) + 1); omega) (by have zz := g5_clamp ((270 + (3 * (v_ro 7))) + 1); omega)) (by have zz := g5_clamp ((270 + (3 * (v_ro 7))) + 2); unfold rOK; refine ⟨?_, ?_, ?_, ?_, ?_, ?_, ?_, ?_, ?_, ?_, ?_, ?_, ?_, ?_, ?_, ?_, ?_, ?_, ?_, ?_, ?_, ?_, ?_⟩ <;> (intros; omega)) (by have zz := g5_clamp ((270 + (3 * (v_ro 7))) + 2); omega) (by have zz := g5_clamp ((270 + (3 * (v_ro 7))) + 2); omega) (by have zz := g5_clamp ((270 + (3 * (v_ro 7))) + 2); omega) (by have zz := g5_clamp ((270 + (3 * (v_ro 7))) + 2); omega) (by have zz := g5_clamp ((270 + (3 * (v_ro 7))) + 2); omega)) (by unfold rOK; refine ⟨?_, ?_, ?_, ?_, ?_, ?_, ?_, ?_, ?_, ?_, ?_, ?_, ?_, ?_, ?_, ?_, ?_, ?_, ?_, ?_, ?_, ?_, ?_⟩ <;> (intros; omega)) (by omega) (by omega) (by omega) (by omega) (by omega), i_26, (spot_0 (f := v_ro) (c := p_1) (s := p_2) (l := p_3) (by unfold okP; omega) i_10 (by omega)).1.symm, (mr3 (f := v_ro) (ci := 7) (B := 270) (n := (v_ro 7).toInt.toNat) (by omega) (by have zz := g5_clamp (270 + (3 * (v_ro 7))); omega) (by have zz := g5_clamp ((270 + (3 * (v_ro 7))) + 1); omega) (by have zz := g5_clamp ((270 + (3 * (v_ro 7))) + 2); omega)).trans (spot_0 (f := v_ro) (c := p_1) (s := p_2) (l := p_3) (by unfold okP; omega) i_10 (by omega)).2.symm, rfl, rfl⟩, by rw [ht]; exact hP.sub [1, 2, 0] rfl, hD.sub [1, 2, 0] (by decide +kernel) rfl⟩, hS.F ht⟩) hS.2.2 dX12_spot_135
                  ·
                    have i_14 : (v_ro 7).toInt = 8 := g5_neN (a := (v_ro 7).toInt) (b := 8) rfl (by decide +kernel) c_14
                    refine lv_aload_n hx hb dX12_spot_65 rfl (lv_at hl 1 rfl) ?_
                    refine lv_bipush (v := (-5)) hx hb dX12_spot_66 (by decide +kernel) ?_
                    obtain ⟨hPc, hDc, hFc⟩ := g5_sub3 (wc := [(b_o, (oc12 0 u_sa b_rf b_ro b_im b_ke u_fd b_tp u_td u_fr u_to u_so u_wo u_fa u_bd u_nc b_nl u_co b_op b_ar u_le b_pi b_pa u_pd u_od b_ws b_hw u_la b_se b_re u_bk u_va u_su u_ce u_ho u_wy u_bt u_ps b_pt u_tg u_sn b_ip u_ic b_ah b_be b_me u_wd b_tr b_ld u_st b_wn u_id)), (b_rf, (arI G 7 v_rf))]) hP hD hS hA [1, 0] (by decide +kernel) rfl
                    refine va_calli (va_runV (As := [.int (-5)]) (rest := []) ⟨hx, hb, hml, hown, hts⟩ (n_tell5 l G b_o b_rf b_ro b_im b_ke b_tp b_nl b_op b_ar b_pi b_pa b_ws b_hw b_se b_re b_pt b_ip b_ah b_be b_me b_tr b_ld b_wn H.size 0 u_sa u_fd u_td u_fr u_to u_so u_fa u_bd u_nc u_co u_le u_pd u_od u_la u_bk u_ce u_ho u_wy u_bt u_ps u_tg u_sn u_ic u_wd u_id u_wo u_va u_su u_st v_rf h_u_td h_u_fr h_u_to h_u_bd h_u_nc h_u_co h_u_pd h_u_la h_u_bk h_u_ce h_u_ho h_u_wy h_u_bt h_u_ps h_u_ic h_u_id) (cwV 1 hts gV_X12_125 rfl rfl rfl hv_X12_tell ⟨Nat.le_of_ble_eq_true rfl, Nat.le_of_ble_eq_true rfl⟩) (g5_preV hPc hK hDc hN hT hS hFc (ci := 12) (q0 := 0) rfl rfl) rfl rfl hl.1 rfl (lv_room (Nat.le_of_ble_eq_true rfl)) dX12_spot_68 ⟨Nat.le_of_ble_eq_true rfl, Nat.le_of_ble_eq_true rfl⟩) hS (fun q _ h => hFc q h) hFc (fun r u t H locs ht hvm hw hB hz1 hk1 hS => ?_)
                    obtain ⟨hP1, hD1⟩ := hB
                    have hP1 := g5_ht ht hP1
                    obtain ⟨z31, z32, z33, (i_30 : 0 ≤ z32.toInt ∧ z32.toInt ≤ 1), rfl, rfl⟩ := hw
                    have hJ9 := va_join (wr := [(b_ro, (arI G 5740 v_ro))]) hP hD [1, 0] [2] rfl rfl (by decide +kernel) (by decide +kernel) hk1 hFc hP1 hD1
                    clear hP hD hPc hDc hFc ht hvm hz1 hk1 hP1 hD1
                    obtain ⟨hP, hD⟩ := hJ9
                    refine g5_rs [(b_ro, (arI G 5740 v_ro)), (b_o, (oc12 0 z31 b_rf b_ro b_im b_ke u_fd b_tp u_td u_fr u_to u_so u_wo u_fa u_bd u_nc b_nl u_co b_op b_ar u_le b_pi b_pa u_pd u_od b_ws b_hw u_la b_se b_re u_bk u_va u_su u_ce u_ho u_wy u_bt u_ps b_pt u_tg u_sn b_ip z32 b_ah b_be b_me u_wd b_tr b_ld u_st b_wn u_id)), (b_rf, (arI G 7 z33))] hP hD ?_
                    clear hP hD
                    intro hP hD
                    exact W.iret (v := (-5)) hx hb hr (fun t ht hW => ⟨⟨(-5), [(b_o, (oc12 0 z31 b_rf b_ro b_im b_ke u_fd b_tp u_td u_fr u_to u_so u_wo u_fa u_bd u_nc b_nl u_co b_op b_ar u_le b_pi b_pa u_pd u_od b_ws b_hw u_la b_se b_re u_bk u_va u_su u_ce u_ho u_wy u_bt u_ps b_pt u_tg u_sn b_ip z32 b_ah b_be b_me u_wd b_tr b_ld u_st b_wn u_id)), (b_rf, (arI G 7 z33)), (b_ro, (arI G 5740 v_ro))], rfl, ⟨(-5), 0, z31, z32, z33, v_ro, r_ro, i_30, (spot_5 (f := v_ro) (c := p_1) (s := p_2) (l := p_3) (by unfold okP; omega) i_10 (by omega)).1.symm, (spot_5 (f := v_ro) (c := p_1) (s := p_2) (l := p_3) (by unfold okP; omega) i_10 (by omega)).2.symm, rfl, rfl⟩, by rw [ht]; exact hP.sub [1, 2, 0] rfl, hD.sub [1, 2, 0] (by decide +kernel) rfl⟩, hS.F ht⟩) hS.2.2 dX12_spot_71
                ·
                  exact absurd c_12 (by decide +kernel)
              ·
                have hJ9 := va_join (wr := [(b_rf, (arI G 7 v_rf))]) hP hD [0, 2] [1] rfl rfl (by decide +kernel) (by decide +kernel) hk1 hFc hP1 hD1
                clear hP hD hPc hDc hFc ht hvm hz1 hk1 hP1 hD1
                obtain ⟨hP, hD⟩ := hJ9
                refine g5_rs [(b_rf, (arI G 7 v_rf)), (b_o, (oc12 0 u_sa b_rf b_ro b_im b_ke u_fd b_tp u_td u_fr u_to u_so u_wo u_fa u_bd u_nc b_nl u_co b_op b_ar u_le b_pi b_pa u_pd u_od b_ws b_hw u_la b_se b_re u_bk u_va u_su u_ce u_ho u_wy u_bt u_ps b_pt u_tg u_sn b_ip u_ic b_ah b_be b_me u_wd b_tr b_ld u_st b_wn u_id)), (b_ro, (arI G 5740 v_ro))] hP hD ?_
                clear hP hD
                intro hP hD
                refine lv_if_ne (tgt := 49) hx hb dX12_spot_39 (by decide +kernel) (fun c_34 => ?_) (fun c_34 => ?_)
                ·
                  exact absurd c_34 (by decide +kernel)
                ·
                  refine lv_aload_n hx hb dX12_spot_42 rfl (lv_at hl 0 rfl) ?_
                  refine lv_bipush (v := (-3)) hx hb dX12_spot_43 (by decide +kernel) ?_
                  obtain ⟨hPc, hDc, hFc⟩ := g5_sub3 (wc := [(b_o, (oc12 0 u_sa b_rf b_ro b_im b_ke u_fd b_tp u_td u_fr u_to u_so u_wo u_fa u_bd u_nc b_nl u_co b_op b_ar u_le b_pi b_pa u_pd u_od b_ws b_hw u_la b_se b_re u_bk u_va u_su u_ce u_ho u_wy u_bt u_ps b_pt u_tg u_sn b_ip u_ic b_ah b_be b_me u_wd b_tr b_ld u_st b_wn u_id)), (b_rf, (arI G 7 v_rf))]) hP hD hS hA [1, 0] (by decide +kernel) rfl
                  refine va_calli (va_runV (As := [.int (-3)]) (rest := []) ⟨hx, hb, hml, hown, hts⟩ (n_tell3 l G b_o b_rf b_ro b_im b_ke b_tp b_nl b_op b_ar b_pi b_pa b_ws b_hw b_se b_re b_pt b_ip b_ah b_be b_me b_tr b_ld b_wn H.size 0 u_sa u_fd u_td u_fr u_to u_so u_fa u_bd u_nc u_co u_le u_pd u_od u_la u_bk u_ce u_ho u_wy u_bt u_ps u_tg u_sn u_ic u_wd u_id u_wo u_va u_su u_st v_rf h_u_td h_u_fr h_u_to h_u_bd h_u_nc h_u_co h_u_pd h_u_la h_u_bk h_u_ce h_u_ho h_u_wy h_u_bt h_u_ps h_u_ic h_u_id) (cwV 1 hts gV_X12_125 rfl rfl rfl hv_X12_tell ⟨Nat.le_of_ble_eq_true rfl, Nat.le_of_ble_eq_true rfl⟩) (g5_preV hPc hK hDc hN hT hS hFc (ci := 12) (q0 := 0) rfl rfl) rfl rfl hl.1 rfl (lv_room (Nat.le_of_ble_eq_true rfl)) dX12_spot_45 ⟨Nat.le_of_ble_eq_true rfl, Nat.le_of_ble_eq_true rfl⟩) hS (fun q _ h => hFc q h) hFc (fun r u t H locs ht hvm hw hB hz1 hk1 hS => ?_)
                  obtain ⟨hP1, hD1⟩ := hB
                  have hP1 := g5_ht ht hP1
                  obtain ⟨z36, z37, z38, (i_35 : 0 ≤ z37.toInt ∧ z37.toInt ≤ 1), rfl, rfl⟩ := hw
                  have hJ9 := va_join (wr := [(b_ro, (arI G 5740 v_ro))]) hP hD [1, 0] [2] rfl rfl (by decide +kernel) (by decide +kernel) hk1 hFc hP1 hD1
                  clear hP hD hPc hDc hFc ht hvm hz1 hk1 hP1 hD1
                  obtain ⟨hP, hD⟩ := hJ9
                  refine g5_rs [(b_ro, (arI G 5740 v_ro)), (b_o, (oc12 0 z36 b_rf b_ro b_im b_ke u_fd b_tp u_td u_fr u_to u_so u_wo u_fa u_bd u_nc b_nl u_co b_op b_ar u_le b_pi b_pa u_pd u_od b_ws b_hw u_la b_se b_re u_bk u_va u_su u_ce u_ho u_wy u_bt u_ps b_pt u_tg u_sn b_ip z37 b_ah b_be b_me u_wd b_tr b_ld u_st b_wn u_id)), (b_rf, (arI G 7 z38))] hP hD ?_
                  clear hP hD
                  intro hP hD
                  exact W.iret (v := (-3)) hx hb hr (fun t ht hW => ⟨⟨(-3), [(b_o, (oc12 0 z36 b_rf b_ro b_im b_ke u_fd b_tp u_td u_fr u_to u_so u_wo u_fa u_bd u_nc b_nl u_co b_op b_ar u_le b_pi b_pa u_pd u_od b_ws b_hw u_la b_se b_re u_bk u_va u_su u_ce u_ho u_wy u_bt u_ps b_pt u_tg u_sn b_ip z37 b_ah b_be b_me u_wd b_tr b_ld u_st b_wn u_id)), (b_rf, (arI G 7 z38)), (b_ro, (arI G 5740 v_ro))], rfl, ⟨(-3), 0, z36, z37, z38, v_ro, r_ro, i_35, (spot_3 (f := v_ro) (c := p_1) (s := p_2) (l := p_3) (by unfold okP; omega) i_11).1.symm, (spot_3 (f := v_ro) (c := p_1) (s := p_2) (l := p_3) (by unfold okP; omega) i_11).2.symm, rfl, rfl⟩, by rw [ht]; exact hP.sub [1, 2, 0] rfl, hD.sub [1, 2, 0] (by decide +kernel) rfl⟩, hS.F ht⟩) hS.2.2 dX12_spot_48
            ·
              exact absurd c_9 (by decide +kernel)
          ·
            have hJ9 := g5_same hP hk1
            clear hP hPc hDc hFc ht hvm hz1 hk1 hP1 hD1
            have hP := hJ9
            clear hJ9
            refine lv_if_ne (tgt := 34) hx hb dX12_spot_25 (by decide +kernel) (fun c_39 => ?_) (fun c_39 => ?_)
            ·
              exact absurd c_39 (by decide +kernel)
            ·
              refine lv_aload_n hx hb dX12_spot_28 rfl (lv_at hl 0 rfl) ?_
              refine lv_iconst (v := (-1)) hx hb dX12_spot_29 (by decide +kernel) ?_
              obtain ⟨hPc, hDc, hFc⟩ := g5_sub3 (wc := [(b_o, (oc12 0 u_sa b_rf b_ro b_im b_ke u_fd b_tp u_td u_fr u_to u_so u_wo u_fa u_bd u_nc b_nl u_co b_op b_ar u_le b_pi b_pa u_pd u_od b_ws b_hw u_la b_se b_re u_bk u_va u_su u_ce u_ho u_wy u_bt u_ps b_pt u_tg u_sn b_ip u_ic b_ah b_be b_me u_wd b_tr b_ld u_st b_wn u_id)), (b_rf, (arI G 7 v_rf))]) hP hD hS hA [0, 1] (by decide +kernel) rfl
              refine va_calli (va_runV (As := [.int (-1)]) (rest := []) ⟨hx, hb, hml, hown, hts⟩ (n_tell1 l G b_o b_rf b_ro b_im b_ke b_tp b_nl b_op b_ar b_pi b_pa b_ws b_hw b_se b_re b_pt b_ip b_ah b_be b_me b_tr b_ld b_wn H.size 0 u_sa u_fd u_td u_fr u_to u_so u_fa u_bd u_nc u_co u_le u_pd u_od u_la u_bk u_ce u_ho u_wy u_bt u_ps u_tg u_sn u_ic u_wd u_id u_wo u_va u_su u_st v_rf h_u_td h_u_fr h_u_to h_u_bd h_u_nc h_u_co h_u_pd h_u_la h_u_bk h_u_ce h_u_ho h_u_wy h_u_bt h_u_ps h_u_ic h_u_id) (cwV 1 hts gV_X12_125 rfl rfl rfl hv_X12_tell ⟨Nat.le_of_ble_eq_true rfl, Nat.le_of_ble_eq_true rfl⟩) (g5_preV hPc hK hDc hN hT hS hFc (ci := 12) (q0 := 0) rfl rfl) rfl rfl hl.1 rfl (lv_room (Nat.le_of_ble_eq_true rfl)) dX12_spot_30 ⟨Nat.le_of_ble_eq_true rfl, Nat.le_of_ble_eq_true rfl⟩) hS (fun q _ h => hFc q h) hFc (fun r u t H locs ht hvm hw hB hz1 hk1 hS => ?_)
              obtain ⟨hP1, hD1⟩ := hB
              have hP1 := g5_ht ht hP1
              obtain ⟨z41, z42, z43, (i_40 : 0 ≤ z42.toInt ∧ z42.toInt ≤ 1), rfl, rfl⟩ := hw
              have hJ9 := va_join (wr := [(b_ro, (arI G 5740 v_ro))]) hP hD [0, 1] [2] rfl rfl (by decide +kernel) (by decide +kernel) hk1 hFc hP1 hD1
              clear hP hD hPc hDc hFc ht hvm hz1 hk1 hP1 hD1
              obtain ⟨hP, hD⟩ := hJ9
              refine g5_rs [(b_ro, (arI G 5740 v_ro)), (b_o, (oc12 0 z41 b_rf b_ro b_im b_ke u_fd b_tp u_td u_fr u_to u_so u_wo u_fa u_bd u_nc b_nl u_co b_op b_ar u_le b_pi b_pa u_pd u_od b_ws b_hw u_la b_se b_re u_bk u_va u_su u_ce u_ho u_wy u_bt u_ps b_pt u_tg u_sn b_ip z42 b_ah b_be b_me u_wd b_tr b_ld u_st b_wn u_id)), (b_rf, (arI G 7 z43))] hP hD ?_
              clear hP hD
              intro hP hD
              exact W.iret (v := (-1)) hx hb hr (fun t ht hW => ⟨⟨(-1), [(b_o, (oc12 0 z41 b_rf b_ro b_im b_ke u_fd b_tp u_td u_fr u_to u_so u_wo u_fa u_bd u_nc b_nl u_co b_op b_ar u_le b_pi b_pa u_pd u_od b_ws b_hw u_la b_se b_re u_bk u_va u_su u_ce u_ho u_wy u_bt u_ps b_pt u_tg u_sn b_ip z42 b_ah b_be b_me u_wd b_tr b_ld u_st b_wn u_id)), (b_rf, (arI G 7 z43)), (b_ro, (arI G 5740 v_ro))], rfl, ⟨(-1), 0, z41, z42, z43, v_ro, r_ro, i_40, (spot_1 (f := v_ro) (c := p_1) (s := p_2) (l := p_3) (by unfold okP; omega)).1.symm, (spot_1 (f := v_ro) (c := p_1) (s := p_2) (l := p_3) (by unfold okP; omega)).2.symm, rfl, rfl⟩, by rw [ht]; exact hP.sub [1, 2, 0] rfl, hD.sub [1, 2, 0] (by decide +kernel) rfl⟩, hS.F ht⟩) hS.2.2 dX12_spot_33
      ·
        have hJ9 := g5_same hP hk1
        clear hP hPc hDc hFc ht hvm hz1 hk1 hP1 hD1
        have hP := hJ9
        clear hJ9
        refine lv_if_eq (tgt := 28) hx hb dX12_spot_17 (by decide +kernel) (fun c_44 => ?_) (fun c_44 => ?_)
        ·
          refine lv_aload_n hx hb dX12_spot_28 rfl (lv_at hl 0 rfl) ?_
          refine lv_iconst (v := (-1)) hx hb dX12_spot_29 (by decide +kernel) ?_
          obtain ⟨hPc, hDc, hFc⟩ := g5_sub3 (wc := [(b_o, (oc12 0 u_sa b_rf b_ro b_im b_ke u_fd b_tp u_td u_fr u_to u_so u_wo u_fa u_bd u_nc b_nl u_co b_op b_ar u_le b_pi b_pa u_pd u_od b_ws b_hw u_la b_se b_re u_bk u_va u_su u_ce u_ho u_wy u_bt u_ps b_pt u_tg u_sn b_ip u_ic b_ah b_be b_me u_wd b_tr b_ld u_st b_wn u_id)), (b_rf, (arI G 7 v_rf))]) hP hD hS hA [0, 1] (by decide +kernel) rfl
          refine va_calli (va_runV (As := [.int (-1)]) (rest := []) ⟨hx, hb, hml, hown, hts⟩ (n_tell1 l G b_o b_rf b_ro b_im b_ke b_tp b_nl b_op b_ar b_pi b_pa b_ws b_hw b_se b_re b_pt b_ip b_ah b_be b_me b_tr b_ld b_wn H.size 0 u_sa u_fd u_td u_fr u_to u_so u_fa u_bd u_nc u_co u_le u_pd u_od u_la u_bk u_ce u_ho u_wy u_bt u_ps u_tg u_sn u_ic u_wd u_id u_wo u_va u_su u_st v_rf h_u_td h_u_fr h_u_to h_u_bd h_u_nc h_u_co h_u_pd h_u_la h_u_bk h_u_ce h_u_ho h_u_wy h_u_bt h_u_ps h_u_ic h_u_id) (cwV 1 hts gV_X12_125 rfl rfl rfl hv_X12_tell ⟨Nat.le_of_ble_eq_true rfl, Nat.le_of_ble_eq_true rfl⟩) (g5_preV hPc hK hDc hN hT hS hFc (ci := 12) (q0 := 0) rfl rfl) rfl rfl hl.1 rfl (lv_room (Nat.le_of_ble_eq_true rfl)) dX12_spot_30 ⟨Nat.le_of_ble_eq_true rfl, Nat.le_of_ble_eq_true rfl⟩) hS (fun q _ h => hFc q h) hFc (fun r u t H locs ht hvm hw hB hz1 hk1 hS => ?_)
          obtain ⟨hP1, hD1⟩ := hB
          have hP1 := g5_ht ht hP1
          obtain ⟨z46, z47, z48, (i_45 : 0 ≤ z47.toInt ∧ z47.toInt ≤ 1), rfl, rfl⟩ := hw
          have hJ9 := va_join (wr := [(b_ro, (arI G 5740 v_ro))]) hP hD [0, 1] [2] rfl rfl (by decide +kernel) (by decide +kernel) hk1 hFc hP1 hD1
          clear hP hD hPc hDc hFc ht hvm hz1 hk1 hP1 hD1
          obtain ⟨hP, hD⟩ := hJ9
          refine g5_rs [(b_ro, (arI G 5740 v_ro)), (b_o, (oc12 0 z46 b_rf b_ro b_im b_ke u_fd b_tp u_td u_fr u_to u_so u_wo u_fa u_bd u_nc b_nl u_co b_op b_ar u_le b_pi b_pa u_pd u_od b_ws b_hw u_la b_se b_re u_bk u_va u_su u_ce u_ho u_wy u_bt u_ps b_pt u_tg u_sn b_ip z47 b_ah b_be b_me u_wd b_tr b_ld u_st b_wn u_id)), (b_rf, (arI G 7 z48))] hP hD ?_
          clear hP hD
          intro hP hD
          exact W.iret (v := (-1)) hx hb hr (fun t ht hW => ⟨⟨(-1), [(b_o, (oc12 0 z46 b_rf b_ro b_im b_ke u_fd b_tp u_td u_fr u_to u_so u_wo u_fa u_bd u_nc b_nl u_co b_op b_ar u_le b_pi b_pa u_pd u_od b_ws b_hw u_la b_se b_re u_bk u_va u_su u_ce u_ho u_wy u_bt u_ps b_pt u_tg u_sn b_ip z47 b_ah b_be b_me u_wd b_tr b_ld u_st b_wn u_id)), (b_rf, (arI G 7 z48)), (b_ro, (arI G 5740 v_ro))], rfl, ⟨(-1), 0, z46, z47, z48, v_ro, r_ro, i_45, (spot_1 (f := v_ro) (c := p_1) (s := p_2) (l := p_3) (by unfold okP; omega)).1.symm, (spot_1 (f := v_ro) (c := p_1) (s := p_2) (l := p_3) (by unfold okP; omega)).2.symm, rfl, rfl⟩, by rw [ht]; exact hP.sub [1, 2, 0] rfl, hD.sub [1, 2, 0] (by decide +kernel) rfl⟩, hS.F ht⟩) hS.2.2 dX12_spot_33
        ·
          exact absurd c_44 (by decide +kernel)
  ·
    have hJ9 := g5_same hP hk1
    clear hP hPc hDc hFc ht hvm hz1 hk1 hP1 hD1
    have hP := hJ9
    clear hJ9
    refine lv_if_eq (tgt := 28) hx hb dX12_spot_9 (by decide +kernel) (fun c_49 => ?_) (fun c_49 => ?_)
    ·
      refine lv_aload_n hx hb dX12_spot_28 rfl (lv_at hl 0 rfl) ?_
      refine lv_iconst (v := (-1)) hx hb dX12_spot_29 (by decide +kernel) ?_
      obtain ⟨hPc, hDc, hFc⟩ := g5_sub3 (wc := [(b_o, (oc12 0 u_sa b_rf b_ro b_im b_ke u_fd b_tp u_td u_fr u_to u_so u_wo u_fa u_bd u_nc b_nl u_co b_op b_ar u_le b_pi b_pa u_pd u_od b_ws b_hw u_la b_se b_re u_bk u_va u_su u_ce u_ho u_wy u_bt u_ps b_pt u_tg u_sn b_ip u_ic b_ah b_be b_me u_wd b_tr b_ld u_st b_wn u_id)), (b_rf, (arI G 7 v_rf))]) hP hD hS hA [0, 1] (by decide +kernel) rfl
      refine va_calli (va_runV (As := [.int (-1)]) (rest := []) ⟨hx, hb, hml, hown, hts⟩ (n_tell1 l G b_o b_rf b_ro b_im b_ke b_tp b_nl b_op b_ar b_pi b_pa b_ws b_hw b_se b_re b_pt b_ip b_ah b_be b_me b_tr b_ld b_wn H.size 0 u_sa u_fd u_td u_fr u_to u_so u_fa u_bd u_nc u_co u_le u_pd u_od u_la u_bk u_ce u_ho u_wy u_bt u_ps u_tg u_sn u_ic u_wd u_id u_wo u_va u_su u_st v_rf h_u_td h_u_fr h_u_to h_u_bd h_u_nc h_u_co h_u_pd h_u_la h_u_bk h_u_ce h_u_ho h_u_wy h_u_bt h_u_ps h_u_ic h_u_id) (cwV 1 hts gV_X12_125 rfl rfl rfl hv_X12_tell ⟨Nat.le_of_ble_eq_true rfl, Nat.le_of_ble_eq_true rfl⟩) (g5_preV hPc hK hDc hN hT hS hFc (ci := 12) (q0 := 0) rfl rfl) rfl rfl hl.1 rfl (lv_room (Nat.le_of_ble_eq_true rfl)) dX12_spot_30 ⟨Nat.le_of_ble_eq_true rfl, Nat.le_of_ble_eq_true rfl⟩) hS (fun q _ h => hFc q h) hFc (fun r u t H locs ht hvm hw hB hz1 hk1 hS => ?_)
      obtain ⟨hP1, hD1⟩ := hB
      have hP1 := g5_ht ht hP1
      obtain ⟨z51, z52, z53, (i_50 : 0 ≤ z52.toInt ∧ z52.toInt ≤ 1), rfl, rfl⟩ := hw
      have hJ9 := va_join (wr := [(b_ro, (arI G 5740 v_ro))]) hP hD [0, 1] [2] rfl rfl (by decide +kernel) (by decide +kernel) hk1 hFc hP1 hD1
      clear hP hD hPc hDc hFc ht hvm hz1 hk1 hP1 hD1
      obtain ⟨hP, hD⟩ := hJ9
      refine g5_rs [(b_ro, (arI G 5740 v_ro)), (b_o, (oc12 0 z51 b_rf b_ro b_im b_ke u_fd b_tp u_td u_fr u_to u_so u_wo u_fa u_bd u_nc b_nl u_co b_op b_ar u_le b_pi b_pa u_pd u_od b_ws b_hw u_la b_se b_re u_bk u_va u_su u_ce u_ho u_wy u_bt u_ps b_pt u_tg u_sn b_ip z52 b_ah b_be b_me u_wd b_tr b_ld u_st b_wn u_id)), (b_rf, (arI G 7 z53))] hP hD ?_
      clear hP hD
      intro hP hD
      exact W.iret (v := (-1)) hx hb hr (fun t ht hW => ⟨⟨(-1), [(b_o, (oc12 0 z51 b_rf b_ro b_im b_ke u_fd b_tp u_td u_fr u_to u_so u_wo u_fa u_bd u_nc b_nl u_co b_op b_ar u_le b_pi b_pa u_pd u_od b_ws b_hw u_la b_se b_re u_bk u_va u_su u_ce u_ho u_wy u_bt u_ps b_pt u_tg u_sn b_ip z52 b_ah b_be b_me u_wd b_tr b_ld u_st b_wn u_id)), (b_rf, (arI G 7 z53)), (b_ro, (arI G 5740 v_ro))], rfl, ⟨(-1), 0, z51, z52, z53, v_ro, r_ro, i_50, (spot_1 (f := v_ro) (c := p_1) (s := p_2) (l := p_3) (by unfold okP; omega)).1.symm, (spot_1 (f := v_ro) (c := p_1) (s := p_2) (l := p_3) (by unfold okP; omega)).2.symm, rfl, rfl⟩, by rw [ht]; exact hP.sub [1, 2, 0] rfl, hD.sub [1, 2, 0] (by decide +kernel) rfl⟩, hS.F ht⟩) hS.2.2 dX12_spot_33
    ·
      exact absurd c_49 (by decide +kernel)
set_option maxHeartbeats 4000000 in
set_option maxRecDepth 100000 in
theorem n_wishE (l : Launch) (G : g5_G) (b_o b_rf b_ro b_im b_ke b_tp b_nl b_op b_ar b_pi b_pa b_ws b_hw b_se b_re b_pt b_ip b_ah b_be b_me b_tr b_ld b_wn : Nat) (sz : Nat) (u_th : Int32) (u_sa : Int32) (u_fd : Int32) (u_td : Int32) (u_fr : Int32) (u_to : Int32) (u_so : Int32) (u_fa : Int32) (u_bd : Int32) (u_nc : Int32) (u_co : Int32) (u_le : Int32) (u_pd : Int32) (u_od : Int32) (u_la : Int32) (u_bk : Int32) (u_ce : Int32) (u_ho : Int32) (u_wy : Int32) (u_bt : Int32) (u_ps : Int32) (u_tg : Int32) (u_sn : Int32) (u_ic : Int32) (u_wd : Int32) (u_id : Int32) (p_1 : Int32) (p_2 : Int32) (p_3 : Int32) (p_4 : Int32) (p_5 : Int32) (p_6 : Int32) (u_wo : Int64) (u_va : Int64) (u_su : Int64) (u_st : Int64) (v_rf : Nat → Int32) (v_ro : Nat → Int32) (h_u_td : 0 ≤ u_td.toInt ∧ u_td.toInt ≤ 400) (h_u_fr : 0 ≤ u_fr.toInt ∧ u_fr.toInt ≤ 400) (h_u_to : 0 ≤ u_to.toInt ∧ u_to.toInt ≤ 400) (h_u_bd : 0 ≤ u_bd.toInt ∧ u_bd.toInt ≤ 1) (h_u_nc : 0 ≤ u_nc.toInt ∧ u_nc.toInt ≤ 12) (h_u_co : 0 ≤ u_co.toInt ∧ u_co.toInt ≤ 400) (h_u_pd : 0 ≤ u_pd.toInt ∧ u_pd.toInt ≤ 400) (h_u_la : 0 ≤ u_la.toInt ∧ u_la.toInt ≤ 4840) (h_u_bk : 0 ≤ u_bk.toInt ∧ u_bk.toInt ≤ 1) (h_u_ce : 0 ≤ u_ce.toInt ∧ u_ce.toInt ≤ 63) (h_u_ho : 0 ≤ u_ho.toInt ∧ u_ho.toInt ≤ 23) (h_u_wy : 0 ≤ u_wy.toInt ∧ u_wy.toInt ≤ 3) (h_u_bt : 0 ≤ u_bt.toInt ∧ u_bt.toInt ≤ 1000000) (h_u_ps : 0 ≤ u_ps.toInt ∧ u_ps.toInt ≤ 200) (h_u_ic : 0 ≤ u_ic.toInt ∧ u_ic.toInt ≤ 1) (h_u_id : 0 ≤ u_id.toInt ∧ u_id.toInt ≤ 1) (r_ro : MI v_ro) : Met l yX12_wish (wsG yX12_wish cX12_wish 9 (some .int)) ({ frames := 3, cells := 0, slots := 0, locals := 67 }) (va_Pc [.ref b_o, .int p_1, .int p_2, .int p_3, .int p_4, .int p_5, .int p_6] (g5_P G [(b_o, (oc12 u_th u_sa b_rf b_ro b_im b_ke u_fd b_tp u_td u_fr u_to u_so u_wo u_fa u_bd u_nc b_nl u_co b_op b_ar u_le b_pi b_pa u_pd u_od b_ws b_hw u_la b_se b_re u_bk u_va u_su u_ce u_ho u_wy u_bt u_ps b_pt u_tg u_sn b_ip u_ic b_ah b_be b_me u_wd b_tr b_ld u_st b_wn u_id)), (b_rf, (arI G 7 v_rf)), (b_ro, (arI G 5740 v_ro))] sz)) (va_Qi (fun (r : Int32) (u : va_W) => (∃ (o_r : Int32) (o_th : Int32) (o_sa : Int32) (o_ic : Int32) (o_rf : Nat → Int32) (o_ro : Nat → Int32), (MI o_ro) ∧ (0 ≤ o_ic.toInt ∧ o_ic.toInt ≤ 1) ∧ (o_r = awish v_ro p_1 p_2 p_3 p_4 p_5 p_6) ∧ (o_ro = swish v_ro p_1 p_2 p_3 p_4 p_5 p_6) ∧ (r = o_r) ∧ (u = [(b_o, (oc12 o_th o_sa b_rf b_ro b_im b_ke u_fd b_tp u_td u_fr u_to u_so u_wo u_fa u_bd u_nc b_nl u_co b_op b_ar u_le b_pi b_pa u_pd u_od b_ws b_hw u_la b_se b_re u_bk u_va u_su u_ce u_ho u_wy u_bt u_ps b_pt u_tg u_sn b_ip o_ic b_ah b_be b_me u_wd b_tr b_ld u_st b_wn u_id)), (b_rf, (arI G 7 o_rf)), (b_ro, (arI G 5740 o_ro))]))) (g5_B G (va_A [(b_o, (oc12 u_th u_sa b_rf b_ro b_im b_ke u_fd b_tp u_td u_fr u_to u_so u_wo u_fa u_bd u_nc b_nl u_co b_op b_ar u_le b_pi b_pa u_pd u_od b_ws b_hw u_la b_se b_re u_bk u_va u_su u_ce u_ho u_wy u_bt u_ps b_pt u_tg u_sn b_ip u_ic b_ah b_be b_me u_wd b_tr b_ld u_st b_wn u_id)), (b_rf, (arI G 7 v_rf)), (b_ro, (arI G 5740 v_ro))] sz)) (va_A [(b_o, (oc12 u_th u_sa b_rf b_ro b_im b_ke u_fd b_tp u_td u_fr u_to u_so u_wo u_fa u_bd u_nc b_nl u_co b_op b_ar u_le b_pi b_pa u_pd u_od b_ws b_hw u_la b_se b_re u_bk u_va u_su u_ce u_ho u_wy u_bt u_ps b_pt u_tg u_sn b_ip u_ic b_ah b_be b_me u_wd b_tr b_ld u_st b_wn u_id)), (b_rf, (arI G 7 v_rf)), (b_ro, (arI G 5740 v_ro))] sz)) 0 0 (va_A [(b_o, (oc12 u_th u_sa b_rf b_ro b_im b_ke u_fd b_tp u_td u_fr u_to u_so u_wo u_fa u_bd u_nc b_nl u_co b_op b_ar u_le b_pi b_pa u_pd u_od b_ws b_hw u_la b_se b_re u_bk u_va u_su u_ce u_ho u_wy u_bt u_ps b_pt u_tg u_sn b_ip u_ic b_ah b_be b_me u_wd b_tr b_ld u_st b_wn u_id)), (b_rf, (arI G 7 v_rf)), (b_ro, (arI G 5740 v_ro))] sz) := by
  refine Met.ofW (cc := cX12_wish) (maxL := 9) (ret := (some .int)) (by decide +kernel) rfl ?_
  intro p e s m args below meth c s₁ B hml hv
  obtain ⟨rfl, hsz, hP, hK, hD0, hN, hT⟩ := hv
  have hx := B.exec
  have hb := B.bytes
  have hr := B.returns
  have hts : ∀ w ∈ tblG, w.before _ s = true := fun w h => atoms_spec (ws := (wsG yX12_wish cX12_wish 9 (some .int))) B.pre w (List.mem_cons_of_mem _ h)
  have hown : s.vm.findClass RX12 = some m.cls := findClass_of_methodNamed B.named
  have hlocks := B.notSynchronized
  subst hsz
  have hD := hD0.self (sz := s.heap.size)
  generalize hAe : va_A [(b_o, (oc12 u_th u_sa b_rf b_ro b_im b_ke u_fd b_tp u_td u_fr u_to u_so u_wo u_fa u_bd u_nc b_nl u_co b_op b_ar u_le b_pi b_pa u_pd u_od b_ws b_hw u_la b_se b_re u_bk u_va u_su u_ce u_ho u_wy u_bt u_ps b_pt u_tg u_sn b_ip u_ic b_ah b_be b_me u_wd b_tr b_ld u_st b_wn u_id)), (b_rf, (arI G 7 v_rf)), (b_ro, (arI G 5740 v_ro))] s.heap.size = A at hD hT ⊢
  have hA : ∀ q : Nat, s.heap.size ≤ q → A q := fun q h => by rw [← hAe]; exact Or.inr h
  have hS : va_S A s.heap s.heap [] := va_S.rf
  replace hP : va_P G.1 vwCl [(b_o, (oc12 u_th u_sa b_rf b_ro b_im b_ke u_fd b_tp u_td u_fr u_to u_so u_wo u_fa u_bd u_nc b_nl u_co b_op b_ar u_le b_pi b_pa u_pd u_od b_ws b_hw u_la b_se b_re u_bk u_va u_su u_ce u_ho u_wy u_bt u_ps b_pt u_tg u_sn b_ip u_ic b_ah b_be b_me u_wd b_tr b_ld u_st b_wn u_id)), (b_rf, (arI G 7 v_rf)), (b_ro, (arI G 5740 v_ro))] s.heap := hP
  have hl := lv_entry ([.ref b_o, .int p_1, .int p_2, .int p_3, .int p_4, .int p_5, .int p_6]) (n := 9) (Nat.le_of_ble_eq_true rfl)
  rw [lg_entry_eq]
  generalize (lg_sl ([.ref b_o, .int p_1, .int p_2, .int p_3, .int p_4, .int p_5, .int p_6]) ++ List.replicate (9 - (lg_sl ([.ref b_o, .int p_1, .int p_2, .int p_3, .int p_4, .int p_5, .int p_6])).length) Slot.unset).toArray = ls at hl ⊢
  replace hl : lv_has ls 9 [(0, .ref b_o), (1, .int p_1), (2, .int p_2), (3, .int p_3), (4, .int p_4), (5, .int p_5), (6, .int p_6)] := hl
  refine lv_aload_n hx hb dX12_wish_0 rfl (lv_at hl 0 rfl) ?_
  refine lv_iconst (v := 0) hx hb dX12_wish_1 (by decide +kernel) ?_
  refine va_put (D := G.1) (ci := 12) (v := .int 0) (ty := .int) (C := RX12) (T := TX12) (N := 52) hx hb hts inG_X12 tyX12 tyX12_ok nmX12 hown hK hP hD hS 0 rfl rfl 0 (by decide +kernel) (hts _ fl_X12_107) (fun _ h9 => h9) rfl (by decide +kernel) rfl rfl (Nat.le_of_ble_eq_true rfl) dX12_wish_2 ?_
  clear hP hD hS
  intro H locs hP hD hS
  refine g5_rs [(b_o, (oc12 0 u_sa b_rf b_ro b_im b_ke u_fd b_tp u_td u_fr u_to u_so u_wo u_fa u_bd u_nc b_nl u_co b_op b_ar u_le b_pi b_pa u_pd u_od b_ws b_hw u_la b_se b_re u_bk u_va u_su u_ce u_ho u_wy u_bt u_ps b_pt u_tg u_sn b_ip u_ic b_ah b_be b_me u_wd b_tr b_ld u_st b_wn u_id)), (b_rf, (arI G 7 v_rf)), (b_ro, (arI G 5740 v_ro))] hP hD ?_
  clear hP hD
  intro hP hD
  refine lv_iload_n hx hb dX12_wish_5 rfl (lv_at hl 1 rfl) ?_
  refine W.eq (g2 := F0 m 6 ls [.int p_1]) rfl ?_
  refine lv_iload_n hx hb dX12_wish_6 rfl (lv_at hl 2 rfl) ?_
  refine lv_iload_n hx hb dX12_wish_7 rfl (lv_at hl 3 rfl) ?_
  obtain ⟨hPc, hDc, hFc⟩ := g5_sub3 (wc := []) hP hD hS hA [] (by decide +kernel) rfl
  refine va_calli (va_runS (As := [.int p_1, .int p_2, .int p_3]) (rest := []) ⟨hx, hb, hml, hown, hts⟩ (n_isLookE l G H.size p_1 p_2 p_3) (va_cwS 3 hts gS_X12_397 rfl rfl rfl hs_X12_isLook ⟨Nat.le_of_ble_eq_true rfl, Nat.le_of_ble_eq_true rfl⟩) (g5_preS hPc hK hDc hN hT hS hFc) rfl rfl hl.1 rfl (lv_room (Nat.le_of_ble_eq_true rfl)) dX12_wish_8 ⟨Nat.le_of_ble_eq_true rfl, Nat.le_of_ble_eq_true rfl⟩) hS (fun q _ h => hFc q h) hFc (fun r u t H locs ht hvm hw hB hz1 hk1 hS => ?_)
  obtain ⟨hP1, hD1⟩ := hB
  have hP1 := g5_ht ht hP1
  rcases hw with ⟨(i_1 : okL p_1 p_2 p_3), (i_2 : 0 ≤ p_1.toInt ∧ p_1.toInt ≤ 63), (i_3 : 0 ≤ p_2.toInt ∧ p_2.toInt ≤ 3), (i_4 : 0 ≤ p_3.toInt ∧ p_3.toInt ≤ 23), rfl, rfl⟩ | ⟨(i_5 : ¬ okL p_1 p_2 p_3), rfl, rfl⟩
  ·
    have hJ9 := g5_same hP hk1
    clear hP hPc hDc hFc ht hvm hz1 hk1 hP1 hD1
    have hP := hJ9
    clear hJ9
    refine lv_if_eq (tgt := 41) hx hb dX12_wish_11 (by decide +kernel) (fun c_6 => ?_) (fun c_6 => ?_)
    ·
      exact absurd c_6 (by decide +kernel)
    ·
      refine lv_iload hx hb dX12_wish_14 (lv_at hl 4 rfl) ?_
      obtain ⟨hPc, hDc, hFc⟩ := g5_sub3 (wc := []) hP hD hS hA [] (by decide +kernel) rfl
      refine va_calli (va_runS (As := [.int p_4]) (rest := []) ⟨hx, hb, hml, hown, hts⟩ (n_isCellE l G H.size p_4) (va_cwS 1 hts gS_X12_138 rfl rfl rfl hs_X12_isCell ⟨Nat.le_of_ble_eq_true rfl, Nat.le_of_ble_eq_true rfl⟩) (g5_preS hPc hK hDc hN hT hS hFc) rfl rfl hl.1 rfl (lv_room (Nat.le_of_ble_eq_true rfl)) dX12_wish_16 ⟨Nat.le_of_ble_eq_true rfl, Nat.le_of_ble_eq_true rfl⟩) hS (fun q _ h => hFc q h) hFc (fun r u t H locs ht hvm hw hB hz1 hk1 hS => ?_)
      obtain ⟨hP1, hD1⟩ := hB
      have hP1 := g5_ht ht hP1
      rcases hw with ⟨(i_7 : 0 ≤ p_4.toInt ∧ p_4.toInt ≤ 63), rfl, rfl⟩ | ⟨(i_8 : p_4.toInt < 0 ∨ 63 < p_4.toInt), rfl, rfl⟩
      ·
        have hJ9 := g5_same hP hk1
        clear hP hPc hDc hFc ht hvm hz1 hk1 hP1 hD1
        have hP := hJ9
        clear hJ9
        refine lv_if_eq (tgt := 41) hx hb dX12_wish_19 (by decide +kernel) (fun c_9 => ?_) (fun c_9 => ?_)
        ·
          exact absurd c_9 (by decide +kernel)
        ·
          refine lv_iload hx hb dX12_wish_22 (lv_at hl 5 rfl) ?_
          obtain ⟨hPc, hDc, hFc⟩ := g5_sub3 (wc := []) hP hD hS hA [] (by decide +kernel) rfl
          refine va_calli (va_runS (As := [.int p_5]) (rest := []) ⟨hx, hb, hml, hown, hts⟩ (n_isHourE l G H.size p_5) (va_cwS 1 hts gS_X12_175 rfl rfl rfl hs_X12_isHour ⟨Nat.le_of_ble_eq_true rfl, Nat.le_of_ble_eq_true rfl⟩) (g5_preS hPc hK hDc hN hT hS hFc) rfl rfl hl.1 rfl (lv_room (Nat.le_of_ble_eq_true rfl)) dX12_wish_24 ⟨Nat.le_of_ble_eq_true rfl, Nat.le_of_ble_eq_true rfl⟩) hS (fun q _ h => hFc q h) hFc (fun r u t H locs ht hvm hw hB hz1 hk1 hS => ?_)
          obtain ⟨hP1, hD1⟩ := hB
          have hP1 := g5_ht ht hP1
          rcases hw with ⟨(i_10 : 0 ≤ p_5.toInt ∧ p_5.toInt ≤ 23), rfl, rfl⟩ | ⟨(i_11 : p_5.toInt < 0 ∨ 23 < p_5.toInt), rfl, rfl⟩
          ·
            have hJ9 := g5_same hP hk1
            clear hP hPc hDc hFc ht hvm hz1 hk1 hP1 hD1
            have hP := hJ9
            clear hJ9
            refine lv_if_eq (tgt := 41) hx hb dX12_wish_27 (by decide +kernel) (fun c_12 => ?_) (fun c_12 => ?_)
            ·
              exact absurd c_12 (by decide +kernel)
            ·
              refine lv_iload hx hb dX12_wish_30 (lv_at hl 6 rfl) ?_
              refine lv_i2l (v := p_6.toInt64) hx hb dX12_wish_32 rfl ?_
              refine lv_lconst (v := 0) hx hb dX12_wish_33 (by decide +kernel) ?_
              refine lv_lconst (v := 1) hx hb dX12_wish_34 (by decide +kernel) ?_
              refine W.eq (g2 := F0 m 35 ls [.long 1, .long 0, .long p_6.toInt64]) rfl ?_
              obtain ⟨hPc, hDc, hFc⟩ := g5_sub3 (wc := []) hP hD hS hA [] (by decide +kernel) rfl
              refine va_calli (va_runS (As := [.long p_6.toInt64, .long 0, .long 1]) (rest := []) ⟨hx, hb, hml, hown, hts⟩ (n_in_0_1 l G H.size p_6) (va_cwS 3 hts gS_X12_121 rfl rfl rfl hs_X12_in ⟨Nat.le_of_ble_eq_true rfl, Nat.le_of_ble_eq_true rfl⟩) (g5_preS hPc hK hDc hN hT hS hFc) rfl rfl hl.1 rfl (lv_room (Nat.le_of_ble_eq_true rfl)) dX12_wish_35 ⟨Nat.le_of_ble_eq_true rfl, Nat.le_of_ble_eq_true rfl⟩) hS (fun q _ h => hFc q h) hFc (fun r u t H locs ht hvm hw hB hz1 hk1 hS => ?_)
              obtain ⟨hP1, hD1⟩ := hB
              have hP1 := g5_ht ht hP1
              rcases hw with ⟨(i_13 : p_6.toInt < 0 ∨ 1 < p_6.toInt), rfl, rfl⟩ | ⟨(i_14 : 0 ≤ p_6.toInt ∧ p_6.toInt ≤ 1), rfl, rfl⟩
              ·
                have hJ9 := g5_same hP hk1
                clear hP hPc hDc hFc ht hvm hz1 hk1 hP1 hD1
                have hP := hJ9
                clear hJ9
                refine lv_if_ne (tgt := 47) hx hb dX12_wish_38 (by decide +kernel) (fun c_15 => ?_) (fun c_15 => ?_)
                ·
                  exact absurd c_15 (by decide +kernel)
                ·
                  refine lv_aload_n hx hb dX12_wish_41 rfl (lv_at hl 0 rfl) ?_
                  refine lv_iconst (v := (-1)) hx hb dX12_wish_42 (by decide +kernel) ?_
                  obtain ⟨hPc, hDc, hFc⟩ := g5_sub3 (wc := [(b_o, (oc12 0 u_sa b_rf b_ro b_im b_ke u_fd b_tp u_td u_fr u_to u_so u_wo u_fa u_bd u_nc b_nl u_co b_op b_ar u_le b_pi b_pa u_pd u_od b_ws b_hw u_la b_se b_re u_bk u_va u_su u_ce u_ho u_wy u_bt u_ps b_pt u_tg u_sn b_ip u_ic b_ah b_be b_me u_wd b_tr b_ld u_st b_wn u_id)), (b_rf, (arI G 7 v_rf))]) hP hD hS hA [0, 1] (by decide +kernel) rfl
                  refine va_calli (va_runV (As := [.int (-1)]) (rest := []) ⟨hx, hb, hml, hown, hts⟩ (n_tell1 l G b_o b_rf b_ro b_im b_ke b_tp b_nl b_op b_ar b_pi b_pa b_ws b_hw b_se b_re b_pt b_ip b_ah b_be b_me b_tr b_ld b_wn H.size 0 u_sa u_fd u_td u_fr u_to u_so u_fa u_bd u_nc u_co u_le u_pd u_od u_la u_bk u_ce u_ho u_wy u_bt u_ps u_tg u_sn u_ic u_wd u_id u_wo u_va u_su u_st v_rf h_u_td h_u_fr h_u_to h_u_bd h_u_nc h_u_co h_u_pd h_u_la h_u_bk h_u_ce h_u_ho h_u_wy h_u_bt h_u_ps h_u_ic h_u_id) (cwV 1 hts gV_X12_125 rfl rfl rfl hv_X12_tell ⟨Nat.le_of_ble_eq_true rfl, Nat.le_of_ble_eq_true rfl⟩) (g5_preV hPc hK hDc hN hT hS hFc (ci := 12) (q0 := 0) rfl rfl) rfl rfl hl.1 rfl (lv_room (Nat.le_of_ble_eq_true rfl)) dX12_wish_43 ⟨Nat.le_of_ble_eq_true rfl, Nat.le_of_ble_eq_true rfl⟩) hS (fun q _ h => hFc q h) hFc (fun r u t H locs ht hvm hw hB hz1 hk1 hS => ?_)
                  obtain ⟨hP1, hD1⟩ := hB
                  have hP1 := g5_ht ht hP1
                  obtain ⟨z17, z18, z19, (i_16 : 0 ≤ z18.toInt ∧ z18.toInt ≤ 1), rfl, rfl⟩ := hw
                  have hJ9 := va_join (wr := [(b_ro, (arI G 5740 v_ro))]) hP hD [0, 1] [2] rfl rfl (by decide +kernel) (by decide +kernel) hk1 hFc hP1 hD1
                  clear hP hD hPc hDc hFc ht hvm hz1 hk1 hP1 hD1
                  obtain ⟨hP, hD⟩ := hJ9
                  refine g5_rs [(b_ro, (arI G 5740 v_ro)), (b_o, (oc12 0 z17 b_rf b_ro b_im b_ke u_fd b_tp u_td u_fr u_to u_so u_wo u_fa u_bd u_nc b_nl u_co b_op b_ar u_le b_pi b_pa u_pd u_od b_ws b_hw u_la b_se b_re u_bk u_va u_su u_ce u_ho u_wy u_bt u_ps b_pt u_tg u_sn b_ip z18 b_ah b_be b_me u_wd b_tr b_ld u_st b_wn u_id)), (b_rf, (arI G 7 z19))] hP hD ?_
                  clear hP hD
                  intro hP hD
                  exact W.iret (v := (-1)) hx hb hr (fun t ht hW => ⟨⟨(-1), [(b_o, (oc12 0 z17 b_rf b_ro b_im b_ke u_fd b_tp u_td u_fr u_to u_so u_wo u_fa u_bd u_nc b_nl u_co b_op b_ar u_le b_pi b_pa u_pd u_od b_ws b_hw u_la b_se b_re u_bk u_va u_su u_ce u_ho u_wy u_bt u_ps b_pt u_tg u_sn b_ip z18 b_ah b_be b_me u_wd b_tr b_ld u_st b_wn u_id)), (b_rf, (arI G 7 z19)), (b_ro, (arI G 5740 v_ro))], rfl, ⟨(-1), 0, z17, z18, z19, v_ro, r_ro, i_16, (wish_1 (f := v_ro) (c := p_1) (w := p_2) (h := p_3) (a := p_4) (t := p_5) (i := p_6) (fun q => by have q2 := q.2; omega)).1.symm, (wish_1 (f := v_ro) (c := p_1) (w := p_2) (h := p_3) (a := p_4) (t := p_5) (i := p_6) (fun q => by have q2 := q.2; omega)).2.symm, rfl, rfl⟩, by rw [ht]; exact hP.sub [1, 2, 0] rfl, hD.sub [1, 2, 0] (by decide +kernel) rfl⟩, hS.F ht⟩) hS.2.2 dX12_wish_46
              ·
                have hJ9 := g5_same hP hk1
                clear hP hPc hDc hFc ht hvm hz1 hk1 hP1 hD1
                have hP := hJ9
                clear hJ9
                refine lv_if_ne (tgt := 47) hx hb dX12_wish_38 (by decide +kernel) (fun c_20 => ?_) (fun c_20 => ?_)
                ·
                  refine lv_aload_n hx hb dX12_wish_47 rfl (lv_at hl 0 rfl) ?_
                  refine va_get (D := G.1) (ci := 12) (v := .ref b_ro) (C := RX12) (T := TX12) (N := 52) hx hb hts inG_X12 hown hK hP 0 rfl rfl 3 (by decide +kernel) (hts _ fl_X12_13) (fun _ h9 => h9) rfl dX12_wish_48 ?_
                  refine lv_bipush (v := 8) hx hb dX12_wish_51 (by decide +kernel) ?_
                  refine va_iald hx hb hK hP 2 0 rfl rfl (i := 8) (by unfold vp_in; decide) dX12_wish_53 ?_
                  refine g5_ti (v := (v_ro 8)) rfl ?_
                  have hr_21 : 0 ≤ (v_ro 8).toInt ∧ (v_ro 8).toInt ≤ 6 := mi_8 r_ro
                  refine W.eq (g2 := F0 m 54 ls [.int (v_ro 8)]) rfl ?_
                  refine lv_istore (lv' := [(7, .int (v_ro 8)), (0, .ref b_o), (1, .int p_1), (2, .int p_2), (3, .int p_3), (4, .int p_4), (5, .int p_5), (6, .int p_6)]) hx hb dX12_wish_54 hl (by decide +kernel) rfl ?_
                  clear hl
                  intro ls hl
                  refine lv_iload hx hb dX12_wish_56 (lv_at hl 0 rfl) ?_
                  refine lv_bipush (v := 6) hx hb dX12_wish_58 (by decide +kernel) ?_
                  refine lv_icmp_ne (tgt := 70) hx hb dX12_wish_60 (by decide +kernel) (fun c_22 => ?_) (fun c_22 => ?_)
                  ·
                    have n_22 : gNe ((v_ro 8).toInt) (6) := g5_ne (a := (v_ro 8).toInt) (b := 6) rfl (by decide +kernel) c_22
                    have i_22 : (v_ro 8).toInt ≤ 5 := by have z := g5_ne (a := (v_ro 8).toInt) (b := 6) (by rfl) (by decide +kernel) c_22; omega
                    refine lv_sipush (v := 300) hx hb dX12_wish_70 (by decide +kernel) ?_
                    refine lv_bipush (v := 6) hx hb dX12_wish_73 (by decide +kernel) ?_
                    refine lv_iload hx hb dX12_wish_75 (lv_at hl 0 rfl) ?_
                    refine lv_imul hx hb dX12_wish_77 ?_
                    have t_23 : (6 * (v_ro 8)).toInt = 6 * (v_ro 8).toInt := g5_imul (a := 6) (b := (v_ro 8).toInt) (by decide +kernel) (by rfl) (by omega) (by omega)
                    refine W.eq (g2 := F0 m 78 ls [.int (6 * (v_ro 8)), .int 300]) rfl ?_
                    refine lv_iadd hx hb dX12_wish_78 ?_
                    have t_24 : (300 + (6 * (v_ro 8))).toInt = 300 + (6 * (v_ro 8)).toInt := g5_iadd (a := 300) (b := (6 * (v_ro 8)).toInt) (by decide +kernel) (by rfl) (by omega) (by omega)
                    refine lv_istore (lv' := [(8, .int (300 + (6 * (v_ro 8)))), (7, .int (v_ro 8)), (0, .ref b_o), (1, .int p_1), (2, .int p_2), (3, .int p_3), (4, .int p_4), (5, .int p_5), (6, .int p_6)]) hx hb dX12_wish_79 hl (by decide +kernel) rfl ?_
                    clear hl
                    intro ls hl
                    refine lv_aload_n hx hb dX12_wish_81 rfl (lv_at hl 2 rfl) ?_
                    refine va_get (D := G.1) (ci := 12) (v := .ref b_ro) (C := RX12) (T := TX12) (N := 52) hx hb hts inG_X12 hown hK hP 0 rfl rfl 3 (by decide +kernel) (hts _ fl_X12_13) (fun _ h9 => h9) rfl dX12_wish_82 ?_
                    refine lv_iload hx hb dX12_wish_85 (lv_at hl 0 rfl) ?_
                    refine W.eq (g2 := F0 m 87 ls [.int (300 + (6 * (v_ro 8))), .ref b_ro]) rfl ?_
                    refine lv_iload_n hx hb dX12_wish_87 rfl (lv_at hl 3 rfl) ?_
                    refine va_iast hx hb hK hP hD hS 2 0 rfl rfl (i := (300 + (6 * (v_ro 8)))) (x := p_1) (vp_in_iff.mpr ⟨by omega, by omega⟩) dX12_wish_88 ?_
                    clear hP hD hS
                    intro H locs hP hD hS
                    refine g5_rs [(b_o, (oc12 0 u_sa b_rf b_ro b_im b_ke u_fd b_tp u_td u_fr u_to u_so u_wo u_fa u_bd u_nc b_nl u_co b_op b_ar u_le b_pi b_pa u_pd u_od b_ws b_hw u_la b_se b_re u_bk u_va u_su u_ce u_ho u_wy u_bt u_ps b_pt u_tg u_sn b_ip u_ic b_ah b_be b_me u_wd b_tr b_ld u_st b_wn u_id)), (b_rf, (arI G 7 v_rf)), (b_ro, (arI G 5740 (upd v_ro (300 + (6 * (v_ro 8))).toNatClampNeg p_1)))] hP hD ?_
                    clear hP hD
                    intro hP hD
                    refine lv_aload_n hx hb dX12_wish_89 rfl (lv_at hl 2 rfl) ?_
                    refine va_get (D := G.1) (ci := 12) (v := .ref b_ro) (C := RX12) (T := TX12) (N := 52) hx hb hts inG_X12 hown hK hP 0 rfl rfl 3 (by decide +kernel) (hts _ fl_X12_13) (fun _ h9 => h9) rfl dX12_wish_90 ?_
                    refine lv_iload hx hb dX12_wish_93 (lv_at hl 0 rfl) ?_
                    refine W.eq (g2 := F0 m 95 ls [.int (300 + (6 * (v_ro 8))), .ref b_ro]) rfl ?_
                    refine lv_iconst (v := 1) hx hb dX12_wish_95 (by decide +kernel) ?_
                    refine lv_iadd hx hb dX12_wish_96 ?_
                    have t_25 : ((300 + (6 * (v_ro 8))) + 1).toInt = (300 + (6 * (v_ro 8))).toInt + 1 := g5_iadd (a := (300 + (6 * (v_ro 8))).toInt) (b := 1) (by rfl) (by decide +kernel) (by omega) (by omega)
                    refine lv_iload_n hx hb dX12_wish_97 rfl (lv_at hl 4 rfl) ?_
                    refine va_iast hx hb hK hP hD hS 2 0 rfl rfl (i := ((300 + (6 * (v_ro 8))) + 1)) (x := p_2) (vp_in_iff.mpr ⟨by omega, by omega⟩) dX12_wish_98 ?_
                    clear hP hD hS
                    intro H locs hP hD hS
                    refine g5_rs [(b_o, (oc12 0 u_sa b_rf b_ro b_im b_ke u_fd b_tp u_td u_fr u_to u_so u_wo u_fa u_bd u_nc b_nl u_co b_op b_ar u_le b_pi b_pa u_pd u_od b_ws b_hw u_la b_se b_re u_bk u_va u_su u_ce u_ho u_wy u_bt u_ps b_pt u_tg u_sn b_ip u_ic b_ah b_be b_me u_wd b_tr b_ld u_st b_wn u_id)), (b_rf, (arI G 7 v_rf)), (b_ro, (arI G 5740 (upd (upd v_ro (300 + (6 * (v_ro 8))).toNatClampNeg p_1) ((300 + (6 * (v_ro 8))) + 1).toNatClampNeg p_2)))] hP hD ?_
                    clear hP hD
                    intro hP hD
                    refine lv_aload_n hx hb dX12_wish_99 rfl (lv_at hl 2 rfl) ?_
                    refine W.eq (g2 := F0 m 100 ls [.ref b_o]) rfl ?_
                    refine va_get (D := G.1) (ci := 12) (v := .ref b_ro) (C := RX12) (T := TX12) (N := 52) hx hb hts inG_X12 hown hK hP 0 rfl rfl 3 (by decide +kernel) (hts _ fl_X12_13) (fun _ h9 => h9) rfl dX12_wish_100 ?_
                    refine lv_iload hx hb dX12_wish_103 (lv_at hl 0 rfl) ?_
                    refine lv_iconst (v := 2) hx hb dX12_wish_105 (by decide +kernel) ?_
                    refine lv_iadd hx hb dX12_wish_106 ?_
                    have t_26 : ((300 + (6 * (v_ro 8))) + 2).toInt = (300 + (6 * (v_ro 8))).toInt + 2 := g5_iadd (a := (300 + (6 * (v_ro 8))).toInt) (b := 2) (by rfl) (by decide +kernel) (by omega) (by omega)
                    refine lv_iload_n hx hb dX12_wish_107 rfl (lv_at hl 5 rfl) ?_
                    refine W.eq (g2 := F0 m 108 ls [.int p_3, .int ((300 + (6 * (v_ro 8))) + 2), .ref b_ro]) rfl ?_
                    refine va_iast hx hb hK hP hD hS 2 0 rfl rfl (i := ((300 + (6 * (v_ro 8))) + 2)) (x := p_3) (vp_in_iff.mpr ⟨by omega, by omega⟩) dX12_wish_108 ?_
                    clear hP hD hS
                    intro H locs hP hD hS
                    refine g5_rs [(b_o, (oc12 0 u_sa b_rf b_ro b_im b_ke u_fd b_tp u_td u_fr u_to u_so u_wo u_fa u_bd u_nc b_nl u_co b_op b_ar u_le b_pi b_pa u_pd u_od b_ws b_hw u_la b_se b_re u_bk u_va u_su u_ce u_ho u_wy u_bt u_ps b_pt u_tg u_sn b_ip u_ic b_ah b_be b_me u_wd b_tr b_ld u_st b_wn u_id)), (b_rf, (arI G 7 v_rf)), (b_ro, (arI G 5740 (upd (upd (upd v_ro (300 + (6 * (v_ro 8))).toNatClampNeg p_1) ((300 + (6 * (v_ro 8))) + 1).toNatClampNeg p_2) ((300 + (6 * (v_ro 8))) + 2).toNatClampNeg p_3)))] hP hD ?_
                    clear hP hD
                    intro hP hD
                    refine lv_aload_n hx hb dX12_wish_109 rfl (lv_at hl 2 rfl) ?_
                    refine va_get (D := G.1) (ci := 12) (v := .ref b_ro) (C := RX12) (T := TX12) (N := 52) hx hb hts inG_X12 hown hK hP 0 rfl rfl 3 (by decide +kernel) (hts _ fl_X12_13) (fun _ h9 => h9) rfl dX12_wish_110 ?_
                    refine lv_iload hx hb dX12_wish_113 (lv_at hl 0 rfl) ?_
                    refine lv_iconst (v := 3) hx hb dX12_wish_115 (by decide +kernel) ?_
                    refine W.eq (g2 := F0 m 116 ls [.int 3, .int (300 + (6 * (v_ro 8))), .ref b_ro]) rfl ?_
                    refine lv_iadd hx hb dX12_wish_116 ?_
                    have t_27 : ((300 + (6 * (v_ro 8))) + 3).toInt = (300 + (6 * (v_ro 8))).toInt + 3 := g5_iadd (a := (300 + (6 * (v_ro 8))).toInt) (b := 3) (by rfl) (by decide +kernel) (by omega) (by omega)
                    refine lv_iload hx hb dX12_wish_117 (lv_at hl 6 rfl) ?_
                    refine va_iast hx hb hK hP hD hS 2 0 rfl rfl (i := ((300 + (6 * (v_ro 8))) + 3)) (x := p_4) (vp_in_iff.mpr ⟨by omega, by omega⟩) dX12_wish_119 ?_
                    clear hP hD hS
                    intro H locs hP hD hS
                    refine g5_rs [(b_o, (oc12 0 u_sa b_rf b_ro b_im b_ke u_fd b_tp u_td u_fr u_to u_so u_wo u_fa u_bd u_nc b_nl u_co b_op b_ar u_le b_pi b_pa u_pd u_od b_ws b_hw u_la b_se b_re u_bk u_va u_su u_ce u_ho u_wy u_bt u_ps b_pt u_tg u_sn b_ip u_ic b_ah b_be b_me u_wd b_tr b_ld u_st b_wn u_id)), (b_rf, (arI G 7 v_rf)), (b_ro, (arI G 5740 (upd (upd (upd (upd v_ro (300 + (6 * (v_ro 8))).toNatClampNeg p_1) ((300 + (6 * (v_ro 8))) + 1).toNatClampNeg p_2) ((300 + (6 * (v_ro 8))) + 2).toNatClampNeg p_3) ((300 + (6 * (v_ro 8))) + 3).toNatClampNeg p_4)))] hP hD ?_
                    clear hP hD
                    intro hP hD
                    refine lv_aload_n hx hb dX12_wish_120 rfl (lv_at hl 2 rfl) ?_
                    refine va_get (D := G.1) (ci := 12) (v := .ref b_ro) (C := RX12) (T := TX12) (N := 52) hx hb hts inG_X12 hown hK hP 0 rfl rfl 3 (by decide +kernel) (hts _ fl_X12_13) (fun _ h9 => h9) rfl dX12_wish_121 ?_
                    refine W.eq (g2 := F0 m 124 ls [.ref b_ro]) rfl ?_
                    refine lv_iload hx hb dX12_wish_124 (lv_at hl 0 rfl) ?_
                    refine lv_iconst (v := 4) hx hb dX12_wish_126 (by decide +kernel) ?_
                    refine lv_iadd hx hb dX12_wish_127 ?_
                    have t_28 : ((300 + (6 * (v_ro 8))) + 4).toInt = (300 + (6 * (v_ro 8))).toInt + 4 := g5_iadd (a := (300 + (6 * (v_ro 8))).toInt) (b := 4) (by rfl) (by decide +kernel) (by omega) (by omega)
                    refine lv_iload hx hb dX12_wish_128 (lv_at hl 7 rfl) ?_
                    refine va_iast hx hb hK hP hD hS 2 0 rfl rfl (i := ((300 + (6 * (v_ro 8))) + 4)) (x := p_5) (vp_in_iff.mpr ⟨by omega, by omega⟩) dX12_wish_130 ?_
                    clear hP hD hS
                    intro H locs hP hD hS
                    refine g5_rs [(b_o, (oc12 0 u_sa b_rf b_ro b_im b_ke u_fd b_tp u_td u_fr u_to u_so u_wo u_fa u_bd u_nc b_nl u_co b_op b_ar u_le b_pi b_pa u_pd u_od b_ws b_hw u_la b_se b_re u_bk u_va u_su u_ce u_ho u_wy u_bt u_ps b_pt u_tg u_sn b_ip u_ic b_ah b_be b_me u_wd b_tr b_ld u_st b_wn u_id)), (b_rf, (arI G 7 v_rf)), (b_ro, (arI G 5740 (upd (upd (upd (upd (upd v_ro (300 + (6 * (v_ro 8))).toNatClampNeg p_1) ((300 + (6 * (v_ro 8))) + 1).toNatClampNeg p_2) ((300 + (6 * (v_ro 8))) + 2).toNatClampNeg p_3) ((300 + (6 * (v_ro 8))) + 3).toNatClampNeg p_4) ((300 + (6 * (v_ro 8))) + 4).toNatClampNeg p_5)))] hP hD ?_
                    clear hP hD
                    intro hP hD
                    refine W.eq (g2 := F0 m 131 ls []) rfl ?_
                    refine lv_aload_n hx hb dX12_wish_131 rfl (lv_at hl 2 rfl) ?_
                    refine va_get (D := G.1) (ci := 12) (v := .ref b_ro) (C := RX12) (T := TX12) (N := 52) hx hb hts inG_X12 hown hK hP 0 rfl rfl 3 (by decide +kernel) (hts _ fl_X12_13) (fun _ h9 => h9) rfl dX12_wish_132 ?_
                    refine lv_iload hx hb dX12_wish_135 (lv_at hl 0 rfl) ?_
                    refine lv_iconst (v := 5) hx hb dX12_wish_137 (by decide +kernel) ?_
                    refine lv_iadd hx hb dX12_wish_138 ?_
                    have t_29 : ((300 + (6 * (v_ro 8))) + 5).toInt = (300 + (6 * (v_ro 8))).toInt + 5 := g5_iadd (a := (300 + (6 * (v_ro 8))).toInt) (b := 5) (by rfl) (by decide +kernel) (by omega) (by omega)
                    refine W.eq (g2 := F0 m 139 ls [.int ((300 + (6 * (v_ro 8))) + 5), .ref b_ro]) rfl ?_
                    refine lv_iload hx hb dX12_wish_139 (lv_at hl 8 rfl) ?_
                    refine va_iast hx hb hK hP hD hS 2 0 rfl rfl (i := ((300 + (6 * (v_ro 8))) + 5)) (x := p_6) (vp_in_iff.mpr ⟨by omega, by omega⟩) dX12_wish_141 ?_
                    clear hP hD hS
                    intro H locs hP hD hS
                    refine g5_rs [(b_o, (oc12 0 u_sa b_rf b_ro b_im b_ke u_fd b_tp u_td u_fr u_to u_so u_wo u_fa u_bd u_nc b_nl u_co b_op b_ar u_le b_pi b_pa u_pd u_od b_ws b_hw u_la b_se b_re u_bk u_va u_su u_ce u_ho u_wy u_bt u_ps b_pt u_tg u_sn b_ip u_ic b_ah b_be b_me u_wd b_tr b_ld u_st b_wn u_id)), (b_rf, (arI G 7 v_rf)), (b_ro, (arI G 5740 (upd (upd (upd (upd (upd (upd v_ro (300 + (6 * (v_ro 8))).toNatClampNeg p_1) ((300 + (6 * (v_ro 8))) + 1).toNatClampNeg p_2) ((300 + (6 * (v_ro 8))) + 2).toNatClampNeg p_3) ((300 + (6 * (v_ro 8))) + 3).toNatClampNeg p_4) ((300 + (6 * (v_ro 8))) + 4).toNatClampNeg p_5) ((300 + (6 * (v_ro 8))) + 5).toNatClampNeg p_6)))] hP hD ?_
                    clear hP hD
                    intro hP hD
                    refine lv_aload_n hx hb dX12_wish_142 rfl (lv_at hl 2 rfl) ?_
                    refine va_get (D := G.1) (ci := 12) (v := .ref b_ro) (C := RX12) (T := TX12) (N := 52) hx hb hts inG_X12 hown hK hP 0 rfl rfl 3 (by decide +kernel) (hts _ fl_X12_13) (fun _ h9 => h9) rfl dX12_wish_143 ?_
                    refine lv_bipush (v := 8) hx hb dX12_wish_146 (by decide +kernel) ?_
                    refine W.eq (g2 := F0 m 148 ls [.int 8, .ref b_ro]) rfl ?_
                    refine lv_dup2_11 hx hb dX12_wish_148 rfl rfl ?_
                    refine va_iald hx hb hK hP 2 0 rfl rfl (i := 8) (by unfold vp_in; decide) dX12_wish_149 ?_
                    refine g5_ti (v := ((upd (upd (upd (upd (upd (upd v_ro (300 + (6 * (v_ro 8))).toNatClampNeg p_1) ((300 + (6 * (v_ro 8))) + 1).toNatClampNeg p_2) ((300 + (6 * (v_ro 8))) + 2).toNatClampNeg p_3) ((300 + (6 * (v_ro 8))) + 3).toNatClampNeg p_4) ((300 + (6 * (v_ro 8))) + 4).toNatClampNeg p_5) ((300 + (6 * (v_ro 8))) + 5).toNatClampNeg p_6) 8)) rfl ?_
                    have hu_30 : ((upd (upd (upd (upd (upd (upd v_ro (300 + (6 * (v_ro 8))).toNatClampNeg p_1) ((300 + (6 * (v_ro 8))) + 1).toNatClampNeg p_2) ((300 + (6 * (v_ro 8))) + 2).toNatClampNeg p_3) ((300 + (6 * (v_ro 8))) + 3).toNatClampNeg p_4) ((300 + (6 * (v_ro 8))) + 4).toNatClampNeg p_5) ((300 + (6 * (v_ro 8))) + 5).toNatClampNeg p_6) 8) = (v_ro 8) := by unfold upd; rw [if_neg (by have zz := g5_clamp ((300 + (6 * (v_ro 8))) + 5); omega), if_neg (by have zz := g5_clamp ((300 + (6 * (v_ro 8))) + 4); omega), if_neg (by have zz := g5_clamp ((300 + (6 * (v_ro 8))) + 3); omega), if_neg (by have zz := g5_clamp ((300 + (6 * (v_ro 8))) + 2); omega), if_neg (by have zz := g5_clamp ((300 + (6 * (v_ro 8))) + 1); omega), if_neg (by have zz := g5_clamp (300 + (6 * (v_ro 8))); omega)]
                    refine g5_ti (v := (v_ro 8)) hu_30 ?_
                    have hr_31 : 0 ≤ (v_ro 8).toInt ∧ (v_ro 8).toInt ≤ 6 := mi_8 r_ro
                    refine lv_iconst (v := 1) hx hb dX12_wish_150 (by decide +kernel) ?_
                    refine lv_iadd hx hb dX12_wish_151 ?_
                    have t_32 : ((v_ro 8) + 1).toInt = (v_ro 8).toInt + 1 := g5_iadd (a := (v_ro 8).toInt) (b := 1) (by rfl) (by decide +kernel) (by omega) (by omega)
                    refine va_iast hx hb hK hP hD hS 2 0 rfl rfl (i := 8) (x := ((v_ro 8) + 1)) (by unfold vp_in; decide) dX12_wish_152 ?_
                    clear hP hD hS
                    intro H locs hP hD hS
                    refine g5_rs [(b_o, (oc12 0 u_sa b_rf b_ro b_im b_ke u_fd b_tp u_td u_fr u_to u_so u_wo u_fa u_bd u_nc b_nl u_co b_op b_ar u_le b_pi b_pa u_pd u_od b_ws b_hw u_la b_se b_re u_bk u_va u_su u_ce u_ho u_wy u_bt u_ps b_pt u_tg u_sn b_ip u_ic b_ah b_be b_me u_wd b_tr b_ld u_st b_wn u_id)), (b_rf, (arI G 7 v_rf)), (b_ro, (arI G 5740 (upd (upd (upd (upd (upd (upd (upd v_ro (300 + (6 * (v_ro 8))).toNatClampNeg p_1) ((300 + (6 * (v_ro 8))) + 1).toNatClampNeg p_2) ((300 + (6 * (v_ro 8))) + 2).toNatClampNeg p_3) ((300 + (6 * (v_ro 8))) + 3).toNatClampNeg p_4) ((300 + (6 * (v_ro 8))) + 4).toNatClampNeg p_5) ((300 + (6 * (v_ro 8))) + 5).toNatClampNeg p_6) 8 ((v_ro 8) + 1))))] hP hD ?_
                    clear hP hD
                    intro hP hD
                    refine W.eq (g2 := F0 m 153 ls []) rfl ?_
                    refine lv_aload_n hx hb dX12_wish_153 rfl (lv_at hl 2 rfl) ?_
                    refine lv_iload hx hb dX12_wish_154 (lv_at hl 1 rfl) ?_
                    refine lv_iconst (v := 1) hx hb dX12_wish_156 (by decide +kernel) ?_
                    refine lv_iadd hx hb dX12_wish_157 ?_
                    have t_33 : ((v_ro 8) + 1).toInt = (v_ro 8).toInt + 1 := g5_iadd (a := (v_ro 8).toInt) (b := 1) (by rfl) (by decide +kernel) (by omega) (by omega)
                    obtain ⟨hPc, hDc, hFc⟩ := g5_sub3 (wc := [(b_o, (oc12 0 u_sa b_rf b_ro b_im b_ke u_fd b_tp u_td u_fr u_to u_so u_wo u_fa u_bd u_nc b_nl u_co b_op b_ar u_le b_pi b_pa u_pd u_od b_ws b_hw u_la b_se b_re u_bk u_va u_su u_ce u_ho u_wy u_bt u_ps b_pt u_tg u_sn b_ip u_ic b_ah b_be b_me u_wd b_tr b_ld u_st b_wn u_id)), (b_rf, (arI G 7 v_rf))]) hP hD hS hA [0, 1] (by decide +kernel) rfl
                    refine va_calli (va_runV (As := [.int ((v_ro 8) + 1)]) (rest := []) ⟨hx, hb, hml, hown, hts⟩ (n_tell l G b_o b_rf b_ro b_im b_ke b_tp b_nl b_op b_ar b_pi b_pa b_ws b_hw b_se b_re b_pt b_ip b_ah b_be b_me b_tr b_ld b_wn H.size 0 u_sa u_fd u_td u_fr u_to u_so u_fa u_bd u_nc u_co u_le u_pd u_od u_la u_bk u_ce u_ho u_wy u_bt u_ps u_tg u_sn u_ic u_wd u_id ((v_ro 8) + 1) u_wo u_va u_su u_st v_rf h_u_td h_u_fr h_u_to h_u_bd h_u_nc h_u_co h_u_pd h_u_la h_u_bk h_u_ce h_u_ho h_u_wy h_u_bt h_u_ps h_u_ic h_u_id ⟨by omega, by omega⟩) (cwV 1 hts gV_X12_125 rfl rfl rfl hv_X12_tell ⟨Nat.le_of_ble_eq_true rfl, Nat.le_of_ble_eq_true rfl⟩) (g5_preV hPc hK hDc hN hT hS hFc (ci := 12) (q0 := 0) rfl rfl) rfl rfl hl.1 rfl (lv_room (Nat.le_of_ble_eq_true rfl)) dX12_wish_158 ⟨Nat.le_of_ble_eq_true rfl, Nat.le_of_ble_eq_true rfl⟩) hS (fun q _ h => hFc q h) hFc (fun r u t H locs ht hvm hw hB hz1 hk1 hS => ?_)
                    obtain ⟨hP1, hD1⟩ := hB
                    have hP1 := g5_ht ht hP1
                    obtain ⟨z35, z36, z37, (i_34 : 0 ≤ z36.toInt ∧ z36.toInt ≤ 1), rfl, rfl⟩ := hw
                    have hJ9 := va_join (wr := [(b_ro, (arI G 5740 (upd (upd (upd (upd (upd (upd (upd v_ro (300 + (6 * (v_ro 8))).toNatClampNeg p_1) ((300 + (6 * (v_ro 8))) + 1).toNatClampNeg p_2) ((300 + (6 * (v_ro 8))) + 2).toNatClampNeg p_3) ((300 + (6 * (v_ro 8))) + 3).toNatClampNeg p_4) ((300 + (6 * (v_ro 8))) + 4).toNatClampNeg p_5) ((300 + (6 * (v_ro 8))) + 5).toNatClampNeg p_6) 8 ((v_ro 8) + 1))))]) hP hD [0, 1] [2] rfl rfl (by decide +kernel) (by decide +kernel) hk1 hFc hP1 hD1
                    clear hP hD hPc hDc hFc ht hvm hz1 hk1 hP1 hD1
                    obtain ⟨hP, hD⟩ := hJ9
                    refine g5_rs [(b_ro, (arI G 5740 (upd (upd (upd (upd (upd (upd (upd v_ro (300 + (6 * (v_ro 8))).toNatClampNeg p_1) ((300 + (6 * (v_ro 8))) + 1).toNatClampNeg p_2) ((300 + (6 * (v_ro 8))) + 2).toNatClampNeg p_3) ((300 + (6 * (v_ro 8))) + 3).toNatClampNeg p_4) ((300 + (6 * (v_ro 8))) + 4).toNatClampNeg p_5) ((300 + (6 * (v_ro 8))) + 5).toNatClampNeg p_6) 8 ((v_ro 8) + 1)))), (b_o, (oc12 0 z35 b_rf b_ro b_im b_ke u_fd b_tp u_td u_fr u_to u_so u_wo u_fa u_bd u_nc b_nl u_co b_op b_ar u_le b_pi b_pa u_pd u_od b_ws b_hw u_la b_se b_re u_bk u_va u_su u_ce u_ho u_wy u_bt u_ps b_pt u_tg u_sn b_ip z36 b_ah b_be b_me u_wd b_tr b_ld u_st b_wn u_id)), (b_rf, (arI G 7 z37))] hP hD ?_
                    clear hP hD
                    intro hP hD
                    refine W.eq (g2 := F0 m 161 ls [.int ((v_ro 8) + 1)]) rfl ?_
                    exact W.iret (v := ((v_ro 8) + 1)) hx hb hr (fun t ht hW => ⟨⟨((v_ro 8) + 1), [(b_o, (oc12 0 z35 b_rf b_ro b_im b_ke u_fd b_tp u_td u_fr u_to u_so u_wo u_fa u_bd u_nc b_nl u_co b_op b_ar u_le b_pi b_pa u_pd u_od b_ws b_hw u_la b_se b_re u_bk u_va u_su u_ce u_ho u_wy u_bt u_ps b_pt u_tg u_sn b_ip z36 b_ah b_be b_me u_wd b_tr b_ld u_st b_wn u_id)), (b_rf, (arI G 7 z37)), (b_ro, (arI G 5740 (upd (upd (upd (upd (upd (upd (upd v_ro (300 + (6 * (v_ro 8))).toNatClampNeg p_1) ((300 + (6 * (v_ro 8))) + 1).toNatClampNeg p_2) ((300 + (6 * (v_ro 8))) + 2).toNatClampNeg p_3) ((300 + (6 * (v_ro 8))) + 3).toNatClampNeg p_4) ((300 + (6 * (v_ro 8))) + 4).toNatClampNeg p_5) ((300 + (6 * (v_ro 8))) + 5).toNatClampNeg p_6) 8 ((v_ro 8) + 1))))], rfl, ⟨((v_ro 8) + 1), 0, z35, z36, z37, (upd (upd (upd (upd (upd (upd (upd v_ro (300 + (6 * (v_ro 8))).toNatClampNeg p_1) ((300 + (6 * (v_ro 8))) + 1).toNatClampNeg p_2) ((300 + (6 * (v_ro 8))) + 2).toNatClampNeg p_3) ((300 + (6 * (v_ro 8))) + 3).toNatClampNeg p_4) ((300 + (6 * (v_ro 8))) + 4).toNatClampNeg p_5) ((300 + (6 * (v_ro 8))) + 5).toNatClampNeg p_6) 8 ((v_ro 8) + 1)), mi_upd (mi_upd (mi_upd (mi_upd (mi_upd (mi_upd (mi_upd r_ro (by have zz := g5_clamp (300 + (6 * (v_ro 8))); unfold rOK; refine ⟨?_, ?_, ?_, ?_, ?_, ?_, ?_, ?_, ?_, ?_, ?_, ?_, ?_, ?_, ?_, ?_, ?_, ?_, ?_, ?_, ?_, ?_, ?_⟩ <;> (intros; omega)) (by have zz := g5_clamp (300 + (6 * (v_ro 8))); omega) (by have zz := g5_clamp (300 + (6 * (v_ro 8))); omega) (by have zz := g5_clamp (300 + (6 * (v_ro 8))); omega) (by have zz := g5_clamp (300 + (6 * (v_ro 8))); omega) (by have zz := g5_clamp (300 + (6 * (v_ro 8))); omega)) (by have zz := g5_clamp ((300 + (6 * (v_ro 8))) + 1); unfold rOK; refine ⟨?_, ?_, ?_, ?_, ?_, ?_, ?_, ?_, ?_, ?_, ?_, ?_, ?_, ?_, ?_, ?_, ?_, ?_, ?_, ?_, ?_, ?_, ?_⟩ <;> (intros; omega)) (by have zz := g5_clamp ((300 + (6 * (v_ro 8))) + 1); omega) (by have zz := g5_clamp ((300 + (6 * (v_ro 8))) + 1); omega) (by have zz := g5_clamp ((300 + (6 * (v_ro 8))) + 1); omega) (by have zz := g5_clamp ((300 + (6 * (v_ro 8))) + 1); omega) (by have zz := g5_clamp ((300 + (6 * (v_ro 8))) + 1); omega)) (by have zz := g5_clamp ((300 + (6 * (v_ro 8))) + 2); unfold rOK; refine ⟨?_, ?_, ?_, ?_, ?_, ?_, ?_, ?_, ?_, ?_, ?_, ?_, ?_, ?_, ?_, ?_, ?_, ?_, ?_, ?_, ?_, ?_, ?_⟩ <;> (intros; omega)) (by have zz := g5_clamp ((300 + (6 * (v_ro 8))) + 2); omega) (by have zz := g5_clamp ((300 + (6 * (v_ro 8))) + 2); omega) (by have zz := g5_clamp ((300 + (6 * (v_ro 8))) + 2); omega) (by have zz := g5_clamp ((300 + (6 * (v_ro 8))) + 2); omega) (by have zz := g5_clamp ((300 + (6 * (v_ro 8))) + 2); omega)) (by have zz := g5_clamp ((300 + (6 * (v_ro 8))) + 3); unfold rOK; refine ⟨?_, ?_, ?_, ?_, ?_, ?_, ?_, ?_, ?_, ?_, ?_, ?_, ?_, ?_, ?_, ?_, ?_, ?_, ?_, ?_, ?_, ?_, ?_⟩ <;> (intros; omega)) (by have zz := g5_clamp ((300 + (6 * (v_ro 8))) + 3); omega) (by have zz := g5_clamp ((300 + (6 * (v_ro 8))) + 3); omega) (by have zz := g5_clamp ((300 + (6 * (v_ro 8))) + 3); omega) (by have zz := g5_clamp ((300 + (6 * (v_ro 8))) + 3); omega) (by have zz := g5_clamp ((300 + (6 * (v_ro 8))) + 3); omega)) (by have zz := g5_clamp ((300 + (6 * (v_ro 8))) + 4); unfold rOK; refine ⟨?_, ?_, ?_, ?_, ?_, ?_, ?_, ?_, ?_, ?_, ?_, ?_, ?_, ?_, ?_, ?_, ?_, ?_, ?_, ?_, ?_, ?_, ?_⟩ <;> (intros; omega)) (by have zz := g5_clamp ((300 + (6 * (v_ro 8))) + 4); omega) (by have zz := g5_clamp ((300 + (6 * (v_ro 8))) + 4); omega) (by have zz := g5_clamp ((300 + (6 * (v_ro 8))) + 4); omega) (by have zz := g5_clamp ((300 + (6 * (v_ro 8))) + 4); omega) (by have zz := g5_clamp ((300 + (6 * (v_ro 8))) + 4); omega)) (by have zz := g5_clamp ((300 + (6 * (v_ro 8))) + 5); unfold rOK; refine ⟨?_, ?_, ?_, ?_, ?_, ?_, ?_, ?_, ?_, ?_, ?_, ?_, ?_, ?_, ?_, ?_, ?_, ?_, ?_, ?_, ?_, ?_, ?_⟩ <;> (intros; omega)) (by have zz := g5_clamp ((300 + (6 * (v_ro 8))) + 5); omega) (by have zz := g5_clamp ((300 + (6 * (v_ro 8))) + 5); omega) (by have zz := g5_clamp ((300 + (6 * (v_ro 8))) + 5); omega) (by have zz := g5_clamp ((300 + (6 * (v_ro 8))) + 5); omega) (by have zz := g5_clamp ((300 + (6 * (v_ro 8))) + 5); omega)) (by unfold rOK; refine ⟨?_, ?_, ?_, ?_, ?_, ?_, ?_, ?_, ?_, ?_, ?_, ?_, ?_, ?_, ?_, ?_, ?_, ?_, ?_, ?_, ?_, ?_, ?_⟩ <;> (intros; omega)) (by omega) (by omega) (by omega) (by omega) (by omega), i_34, (wish_0 (f := v_ro) (c := p_1) (w := p_2) (h := p_3) (a := p_4) (t := p_5) (i := p_6) ⟨i_1, ⟨by omega, by omega⟩, ⟨by omega, by omega⟩, ⟨by omega, by omega⟩⟩ (by omega)).1.symm, (mr6 (f := v_ro) (ci := 8) (B := 300) (n := (v_ro 8).toInt.toNat) (by omega) (by have zz := g5_clamp (300 + (6 * (v_ro 8))); omega) (by have zz := g5_clamp ((300 + (6 * (v_ro 8))) + 1); omega) (by have zz := g5_clamp ((300 + (6 * (v_ro 8))) + 2); omega) (by have zz := g5_clamp ((300 + (6 * (v_ro 8))) + 3); omega) (by have zz := g5_clamp ((300 + (6 * (v_ro 8))) + 4); omega) (by have zz := g5_clamp ((300 + (6 * (v_ro 8))) + 5); omega)).trans (wish_0 (f := v_ro) (c := p_1) (w := p_2) (h := p_3) (a := p_4) (t := p_5) (i := p_6) ⟨i_1, ⟨by omega, by omega⟩, ⟨by omega, by omega⟩, ⟨by omega, by omega⟩⟩ (by omega)).2.symm, rfl, rfl⟩, by rw [ht]; exact hP.sub [1, 2, 0] rfl, hD.sub [1, 2, 0] (by decide +kernel) rfl⟩, hS.F ht⟩) hS.2.2 dX12_wish_161
                  ·
                    have i_22 : (v_ro 8).toInt = 6 := g5_neN (a := (v_ro 8).toInt) (b := 6) rfl (by decide +kernel) c_22
                    refine lv_aload_n hx hb dX12_wish_63 rfl (lv_at hl 1 rfl) ?_
                    refine lv_bipush (v := (-5)) hx hb dX12_wish_64 (by decide +kernel) ?_
                    obtain ⟨hPc, hDc, hFc⟩ := g5_sub3 (wc := [(b_o, (oc12 0 u_sa b_rf b_ro b_im b_ke u_fd b_tp u_td u_fr u_to u_so u_wo u_fa u_bd u_nc b_nl u_co b_op b_ar u_le b_pi b_pa u_pd u_od b_ws b_hw u_la b_se b_re u_bk u_va u_su u_ce u_ho u_wy u_bt u_ps b_pt u_tg u_sn b_ip u_ic b_ah b_be b_me u_wd b_tr b_ld u_st b_wn u_id)), (b_rf, (arI G 7 v_rf))]) hP hD hS hA [0, 1] (by decide +kernel) rfl
                    refine va_calli (va_runV (As := [.int (-5)]) (rest := []) ⟨hx, hb, hml, hown, hts⟩ (n_tell5 l G b_o b_rf b_ro b_im b_ke b_tp b_nl b_op b_ar b_pi b_pa b_ws b_hw b_se b_re b_pt b_ip b_ah b_be b_me b_tr b_ld b_wn H.size 0 u_sa u_fd u_td u_fr u_to u_so u_fa u_bd u_nc u_co u_le u_pd u_od u_la u_bk u_ce u_ho u_wy u_bt u_ps u_tg u_sn u_ic u_wd u_id u_wo u_va u_su u_st v_rf h_u_td h_u_fr h_u_to h_u_bd h_u_nc h_u_co h_u_pd h_u_la h_u_bk h_u_ce h_u_ho h_u_wy h_u_bt h_u_ps h_u_ic h_u_id) (cwV 1 hts gV_X12_125 rfl rfl rfl hv_X12_tell ⟨Nat.le_of_ble_eq_true rfl, Nat.le_of_ble_eq_true rfl⟩) (g5_preV hPc hK hDc hN hT hS hFc (ci := 12) (q0 := 0) rfl rfl) rfl rfl hl.1 rfl (lv_room (Nat.le_of_ble_eq_true rfl)) dX12_wish_66 ⟨Nat.le_of_ble_eq_true rfl, Nat.le_of_ble_eq_true rfl⟩) hS (fun q _ h => hFc q h) hFc (fun r u t H locs ht hvm hw hB hz1 hk1 hS => ?_)
                    obtain ⟨hP1, hD1⟩ := hB
                    have hP1 := g5_ht ht hP1
                    obtain ⟨z39, z40, z41, (i_38 : 0 ≤ z40.toInt ∧ z40.toInt ≤ 1), rfl, rfl⟩ := hw
                    have hJ9 := va_join (wr := [(b_ro, (arI G 5740 v_ro))]) hP hD [0, 1] [2] rfl rfl (by decide +kernel) (by decide +kernel) hk1 hFc hP1 hD1
                    clear hP hD hPc hDc hFc ht hvm hz1 hk1 hP1 hD1
                    obtain ⟨hP, hD⟩ := hJ9
                    refine g5_rs [(b_ro, (arI G 5740 v_ro)), (b_o, (oc12 0 z39 b_rf b_ro b_im b_ke u_fd b_tp u_td u_fr u_to u_so u_wo u_fa u_bd u_nc b_nl u_co b_op b_ar u_le b_pi b_pa u_pd u_od b_ws b_hw u_la b_se b_re u_bk u_va u_su u_ce u_ho u_wy u_bt u_ps b_pt u_tg u_sn b_ip z40 b_ah b_be b_me u_wd b_tr b_ld u_st b_wn u_id)), (b_rf, (arI G 7 z41))] hP hD ?_
                    clear hP hD
                    intro hP hD
                    exact W.iret (v := (-5)) hx hb hr (fun t ht hW => ⟨⟨(-5), [(b_o, (oc12 0 z39 b_rf b_ro b_im b_ke u_fd b_tp u_td u_fr u_to u_so u_wo u_fa u_bd u_nc b_nl u_co b_op b_ar u_le b_pi b_pa u_pd u_od b_ws b_hw u_la b_se b_re u_bk u_va u_su u_ce u_ho u_wy u_bt u_ps b_pt u_tg u_sn b_ip z40 b_ah b_be b_me u_wd b_tr b_ld u_st b_wn u_id)), (b_rf, (arI G 7 z41)), (b_ro, (arI G 5740 v_ro))], rfl, ⟨(-5), 0, z39, z40, z41, v_ro, r_ro, i_38, (wish_5 (f := v_ro) (c := p_1) (w := p_2) (h := p_3) (a := p_4) (t := p_5) (i := p_6) ⟨i_1, ⟨by omega, by omega⟩, ⟨by omega, by omega⟩, ⟨by omega, by omega⟩⟩ (by omega)).1.symm, (wish_5 (f := v_ro) (c := p_1) (w := p_2) (h := p_3) (a := p_4) (t := p_5) (i := p_6) ⟨i_1, ⟨by omega, by omega⟩, ⟨by omega, by omega⟩, ⟨by omega, by omega⟩⟩ (by omega)).2.symm, rfl, rfl⟩, by rw [ht]; exact hP.sub [1, 2, 0] rfl, hD.sub [1, 2, 0] (by decide +kernel) rfl⟩, hS.F ht⟩) hS.2.2 dX12_wish_69
                ·
                  exact absurd c_20 (by decide +kernel)
          ·
            have hJ9 := g5_same hP hk1
            clear hP hPc hDc hFc ht hvm hz1 hk1 hP1 hD1
            have hP := hJ9
            clear hJ9
            refine lv_if_eq (tgt := 41) hx hb dX12_wish_27 (by decide +kernel) (fun c_42 => ?_) (fun c_42 => ?_)
            ·
              refine lv_aload_n hx hb dX12_wish_41 rfl (lv_at hl 0 rfl) ?_
              refine lv_iconst (v := (-1)) hx hb dX12_wish_42 (by decide +kernel) ?_
              obtain ⟨hPc, hDc, hFc⟩ := g5_sub3 (wc := [(b_o, (oc12 0 u_sa b_rf b_ro b_im b_ke u_fd b_tp u_td u_fr u_to u_so u_wo u_fa u_bd u_nc b_nl u_co b_op b_ar u_le b_pi b_pa u_pd u_od b_ws b_hw u_la b_se b_re u_bk u_va u_su u_ce u_ho u_wy u_bt u_ps b_pt u_tg u_sn b_ip u_ic b_ah b_be b_me u_wd b_tr b_ld u_st b_wn u_id)), (b_rf, (arI G 7 v_rf))]) hP hD hS hA [0, 1] (by decide +kernel) rfl
              refine va_calli (va_runV (As := [.int (-1)]) (rest := []) ⟨hx, hb, hml, hown, hts⟩ (n_tell1 l G b_o b_rf b_ro b_im b_ke b_tp b_nl b_op b_ar b_pi b_pa b_ws b_hw b_se b_re b_pt b_ip b_ah b_be b_me b_tr b_ld b_wn H.size 0 u_sa u_fd u_td u_fr u_to u_so u_fa u_bd u_nc u_co u_le u_pd u_od u_la u_bk u_ce u_ho u_wy u_bt u_ps u_tg u_sn u_ic u_wd u_id u_wo u_va u_su u_st v_rf h_u_td h_u_fr h_u_to h_u_bd h_u_nc h_u_co h_u_pd h_u_la h_u_bk h_u_ce h_u_ho h_u_wy h_u_bt h_u_ps h_u_ic h_u_id) (cwV 1 hts gV_X12_125 rfl rfl rfl hv_X12_tell ⟨Nat.le_of_ble_eq_true rfl, Nat.le_of_ble_eq_true rfl⟩) (g5_preV hPc hK hDc hN hT hS hFc (ci := 12) (q0 := 0) rfl rfl) rfl rfl hl.1 rfl (lv_room (Nat.le_of_ble_eq_true rfl)) dX12_wish_43 ⟨Nat.le_of_ble_eq_true rfl, Nat.le_of_ble_eq_true rfl⟩) hS (fun q _ h => hFc q h) hFc (fun r u t H locs ht hvm hw hB hz1 hk1 hS => ?_)
              obtain ⟨hP1, hD1⟩ := hB
              have hP1 := g5_ht ht hP1
              obtain ⟨z44, z45, z46, (i_43 : 0 ≤ z45.toInt ∧ z45.toInt ≤ 1), rfl, rfl⟩ := hw
              have hJ9 := va_join (wr := [(b_ro, (arI G 5740 v_ro))]) hP hD [0, 1] [2] rfl rfl (by decide +kernel) (by decide +kernel) hk1 hFc hP1 hD1
              clear hP hD hPc hDc hFc ht hvm hz1 hk1 hP1 hD1
              obtain ⟨hP, hD⟩ := hJ9
              refine g5_rs [(b_ro, (arI G 5740 v_ro)), (b_o, (oc12 0 z44 b_rf b_ro b_im b_ke u_fd b_tp u_td u_fr u_to u_so u_wo u_fa u_bd u_nc b_nl u_co b_op b_ar u_le b_pi b_pa u_pd u_od b_ws b_hw u_la b_se b_re u_bk u_va u_su u_ce u_ho u_wy u_bt u_ps b_pt u_tg u_sn b_ip z45 b_ah b_be b_me u_wd b_tr b_ld u_st b_wn u_id)), (b_rf, (arI G 7 z46))] hP hD ?_
              clear hP hD
              intro hP hD
              exact W.iret (v := (-1)) hx hb hr (fun t ht hW => ⟨⟨(-1), [(b_o, (oc12 0 z44 b_rf b_ro b_im b_ke u_fd b_tp u_td u_fr u_to u_so u_wo u_fa u_bd u_nc b_nl u_co b_op b_ar u_le b_pi b_pa u_pd u_od b_ws b_hw u_la b_se b_re u_bk u_va u_su u_ce u_ho u_wy u_bt u_ps b_pt u_tg u_sn b_ip z45 b_ah b_be b_me u_wd b_tr b_ld u_st b_wn u_id)), (b_rf, (arI G 7 z46)), (b_ro, (arI G 5740 v_ro))], rfl, ⟨(-1), 0, z44, z45, z46, v_ro, r_ro, i_43, (wish_1 (f := v_ro) (c := p_1) (w := p_2) (h := p_3) (a := p_4) (t := p_5) (i := p_6) (fun q => by have q2 := q.2; omega)).1.symm, (wish_1 (f := v_ro) (c := p_1) (w := p_2) (h := p_3) (a := p_4) (t := p_5) (i := p_6) (fun q => by have q2 := q.2; omega)).2.symm, rfl, rfl⟩, by rw [ht]; exact hP.sub [1, 2, 0] rfl, hD.sub [1, 2, 0] (by decide +kernel) rfl⟩, hS.F ht⟩) hS.2.2 dX12_wish_46
            ·
              exact absurd c_42 (by decide +kernel)
      ·
        have hJ9 := g5_same hP hk1
        clear hP hPc hDc hFc ht hvm hz1 hk1 hP1 hD1
        have hP := hJ9
        clear hJ9
        refine lv_if_eq (tgt := 41) hx hb dX12_wish_19 (by decide +kernel) (fun c_47 => ?_) (fun c_47 => ?_)
        ·
          refine lv_aload_n hx hb dX12_wish_41 rfl (lv_at hl 0 rfl) ?_
          refine lv_iconst (v := (-1)) hx hb dX12_wish_42 (by decide +kernel) ?_
          obtain ⟨hPc, hDc, hFc⟩ := g5_sub3 (wc := [(b_o, (oc12 0 u_sa b_rf b_ro b_im b_ke u_fd b_tp u_td u_fr u_to u_so u_wo u_fa u_bd u_nc b_nl u_co b_op b_ar u_le b_pi b_pa u_pd u_od b_ws b_hw u_la b_se b_re u_bk u_va u_su u_ce u_ho u_wy u_bt u_ps b_pt u_tg u_sn b_ip u_ic b_ah b_be b_me u_wd b_tr b_ld u_st b_wn u_id)), (b_rf, (arI G 7 v_rf))]) hP hD hS hA [0, 1] (by decide +kernel) rfl
          refine va_calli (va_runV (As := [.int (-1)]) (rest := []) ⟨hx, hb, hml, hown, hts⟩ (n_tell1 l G b_o b_rf b_ro b_im b_ke b_tp b_nl b_op b_ar b_pi b_pa b_ws b_hw b_se b_re b_pt b_ip b_ah b_be b_me b_tr b_ld b_wn H.size 0 u_sa u_fd u_td u_fr u_to u_so u_fa u_bd u_nc u_co u_le u_pd u_od u_la u_bk u_ce u_ho u_wy u_bt u_ps u_tg u_sn u_ic u_wd u_id u_wo u_va u_su u_st v_rf h_u_td h_u_fr h_u_to h_u_bd h_u_nc h_u_co h_u_pd h_u_la h_u_bk h_u_ce h_u_ho h_u_wy h_u_bt h_u_ps h_u_ic h_u_id) (cwV 1 hts gV_X12_125 rfl rfl rfl hv_X12_tell ⟨Nat.le_of_ble_eq_true rfl, Nat.le_of_ble_eq_true rfl⟩) (g5_preV hPc hK hDc hN hT hS hFc (ci := 12) (q0 := 0) rfl rfl) rfl rfl hl.1 rfl (lv_room (Nat.le_of_ble_eq_true rfl)) dX12_wish_43 ⟨Nat.le_of_ble_eq_true rfl, Nat.le_of_ble_eq_true rfl⟩) hS (fun q _ h => hFc q h) hFc (fun r u t H locs ht hvm hw hB hz1 hk1 hS => ?_)
          obtain ⟨hP1, hD1⟩ := hB
          have hP1 := g5_ht ht hP1
          obtain ⟨z49, z50, z51, (i_48 : 0 ≤ z50.toInt ∧ z50.toInt ≤ 1), rfl, rfl⟩ := hw
          have hJ9 := va_join (wr := [(b_ro, (arI G 5740 v_ro))]) hP hD [0, 1] [2] rfl rfl (by decide +kernel) (by decide +kernel) hk1 hFc hP1 hD1
          clear hP hD hPc hDc hFc ht hvm hz1 hk1 hP1 hD1
          obtain ⟨hP, hD⟩ := hJ9
          refine g5_rs [(b_ro, (arI G 5740 v_ro)), (b_o, (oc12 0 z49 b_rf b_ro b_im b_ke u_fd b_tp u_td u_fr u_to u_so u_wo u_fa u_bd u_nc b_nl u_co b_op b_ar u_le b_pi b_pa u_pd u_od b_ws b_hw u_la b_se b_re u_bk u_va u_su u_ce u_ho u_wy u_bt u_ps b_pt u_tg u_sn b_ip z50 b_ah b_be b_me u_wd b_tr b_ld u_st b_wn u_id)), (b_rf, (arI G 7 z51))] hP hD ?_
          clear hP hD
          intro hP hD
          exact W.iret (v := (-1)) hx hb hr (fun t ht hW => ⟨⟨(-1), [(b_o, (oc12 0 z49 b_rf b_ro b_im b_ke u_fd b_tp u_td u_fr u_to u_so u_wo u_fa u_bd u_nc b_nl u_co b_op b_ar u_le b_pi b_pa u_pd u_od b_ws b_hw u_la b_se b_re u_bk u_va u_su u_ce u_ho u_wy u_bt u_ps b_pt u_tg u_sn b_ip z50 b_ah b_be b_me u_wd b_tr b_ld u_st b_wn u_id)), (b_rf, (arI G 7 z51)), (b_ro, (arI G 5740 v_ro))], rfl, ⟨(-1), 0, z49, z50, z51, v_ro, r_ro, i_48, (wish_1 (f := v_ro) (c := p_1) (w := p_2) (h := p_3) (a := p_4) (t := p_5) (i := p_6) (fun q => by have q2 := q.2; omega)).1.symm, (wish_1 (f := v_ro) (c := p_1) (w := p_2) (h := p_3) (a := p_4) (t := p_5) (i := p_6) (fun q => by have q2 := q.2; omega)).2.symm, rfl, rfl⟩, by rw [ht]; exact hP.sub [1, 2, 0] rfl, hD.sub [1, 2, 0] (by decide +kernel) rfl⟩, hS.F ht⟩) hS.2.2 dX12_wish_46
        ·
          exact absurd c_47 (by decide +kernel)
  ·
    have hJ9 := g5_same hP hk1
    clear hP hPc hDc hFc ht hvm hz1 hk1 hP1 hD1
    have hP := hJ9
    clear hJ9
    refine lv_if_eq (tgt := 41) hx hb dX12_wish_11 (by decide +kernel) (fun c_52 => ?_) (fun c_52 => ?_)
    ·
      refine lv_aload_n hx hb dX12_wish_41 rfl (lv_at hl 0 rfl) ?_
      refine lv_iconst (v := (-1)) hx hb dX12_wish_42 (by decide +kernel) ?_
      obtain ⟨hPc, hDc, hFc⟩ := g5_sub3 (wc := [(b_o, (oc12 0 u_sa b_rf b_ro b_im b_ke u_fd b_tp u_td u_fr u_to u_so u_wo u_fa u_bd u_nc b_nl u_co b_op b_ar u_le b_pi b_pa u_pd u_od b_ws b_hw u_la b_se b_re u_bk u_va u_su u_ce u_ho u_wy u_bt u_ps b_pt u_tg u_sn b_ip u_ic b_ah b_be b_me u_wd b_tr b_ld u_st b_wn u_id)), (b_rf, (arI G 7 v_rf))]) hP hD hS hA [0, 1] (by decide +kernel) rfl
      refine va_calli (va_runV (As := [.int (-1)]) (rest := []) ⟨hx, hb, hml, hown, hts⟩ (n_tell1 l G b_o b_rf b_ro b_im b_ke b_tp b_nl b_op b_ar b_pi b_pa b_ws b_hw b_se b_re b_pt b_ip b_ah b_be b_me b_tr b_ld b_wn H.size 0 u_sa u_fd u_td u_fr u_to u_so u_fa u_bd u_nc u_co u_le u_pd u_od u_la u_bk u_ce u_ho u_wy u_bt u_ps u_tg u_sn u_ic u_wd u_id u_wo u_va u_su u_st v_rf h_u_td h_u_fr h_u_to h_u_bd h_u_nc h_u_co h_u_pd h_u_la h_u_bk h_u_ce h_u_ho h_u_wy h_u_bt h_u_ps h_u_ic h_u_id) (cwV 1 hts gV_X12_125 rfl rfl rfl hv_X12_tell ⟨Nat.le_of_ble_eq_true rfl, Nat.le_of_ble_eq_true rfl⟩) (g5_preV hPc hK hDc hN hT hS hFc (ci := 12) (q0 := 0) rfl rfl) rfl rfl hl.1 rfl (lv_room (Nat.le_of_ble_eq_true rfl)) dX12_wish_43 ⟨Nat.le_of_ble_eq_true rfl, Nat.le_of_ble_eq_true rfl⟩) hS (fun q _ h => hFc q h) hFc (fun r u t H locs ht hvm hw hB hz1 hk1 hS => ?_)
      obtain ⟨hP1, hD1⟩ := hB
      have hP1 := g5_ht ht hP1
      obtain ⟨z54, z55, z56, (i_53 : 0 ≤ z55.toInt ∧ z55.toInt ≤ 1), rfl, rfl⟩ := hw
      have hJ9 := va_join (wr := [(b_ro, (arI G 5740 v_ro))]) hP hD [0, 1] [2] rfl rfl (by decide +kernel) (by decide +kernel) hk1 hFc hP1 hD1
      clear hP hD hPc hDc hFc ht hvm hz1 hk1 hP1 hD1
      obtain ⟨hP, hD⟩ := hJ9
      refine g5_rs [(b_ro, (arI G 5740 v_ro)), (b_o, (oc12 0 z54 b_rf b_ro b_im b_ke u_fd b_tp u_td u_fr u_to u_so u_wo u_fa u_bd u_nc b_nl u_co b_op b_ar u_le b_pi b_pa u_pd u_od b_ws b_hw u_la b_se b_re u_bk u_va u_su u_ce u_ho u_wy u_bt u_ps b_pt u_tg u_sn b_ip z55 b_ah b_be b_me u_wd b_tr b_ld u_st b_wn u_id)), (b_rf, (arI G 7 z56))] hP hD ?_
      clear hP hD
      intro hP hD
      exact W.iret (v := (-1)) hx hb hr (fun t ht hW => ⟨⟨(-1), [(b_o, (oc12 0 z54 b_rf b_ro b_im b_ke u_fd b_tp u_td u_fr u_to u_so u_wo u_fa u_bd u_nc b_nl u_co b_op b_ar u_le b_pi b_pa u_pd u_od b_ws b_hw u_la b_se b_re u_bk u_va u_su u_ce u_ho u_wy u_bt u_ps b_pt u_tg u_sn b_ip z55 b_ah b_be b_me u_wd b_tr b_ld u_st b_wn u_id)), (b_rf, (arI G 7 z56)), (b_ro, (arI G 5740 v_ro))], rfl, ⟨(-1), 0, z54, z55, z56, v_ro, r_ro, i_53, (wish_1 (f := v_ro) (c := p_1) (w := p_2) (h := p_3) (a := p_4) (t := p_5) (i := p_6) (fun q => i_5 q.1)).1.symm, (wish_1 (f := v_ro) (c := p_1) (w := p_2) (h := p_3) (a := p_4) (t := p_5) (i := p_6) (fun q => i_5 q.1)).2.symm, rfl, rfl⟩, by rw [ht]; exact hP.sub [1, 2, 0] rfl, hD.sub [1, 2, 0] (by decide +kernel) rfl⟩, hS.F ht⟩) hS.2.2 dX12_wish_46
    ·
      exact absurd c_52 (by decide +kernel)
set_option maxHeartbeats 4000000 in
set_option maxRecDepth 100000 in
theorem n_sightingE (l : Launch) (G : g5_G) (b_o b_rf b_ro b_im b_ke b_tp b_nl b_op b_ar b_pi b_pa b_ws b_hw b_se b_re b_pt b_ip b_ah b_be b_me b_tr b_ld b_wn : Nat) (sz : Nat) (u_th : Int32) (u_sa : Int32) (u_fd : Int32) (u_td : Int32) (u_fr : Int32) (u_to : Int32) (u_so : Int32) (u_fa : Int32) (u_bd : Int32) (u_nc : Int32) (u_co : Int32) (u_le : Int32) (u_pd : Int32) (u_od : Int32) (u_la : Int32) (u_bk : Int32) (u_ce : Int32) (u_ho : Int32) (u_wy : Int32) (u_bt : Int32) (u_ps : Int32) (u_tg : Int32) (u_sn : Int32) (u_ic : Int32) (u_wd : Int32) (u_id : Int32) (p_1 : Int32) (p_2 : Int32) (p_3 : Int32) (p_4 : Int32) (u_wo : Int64) (u_va : Int64) (u_su : Int64) (u_st : Int64) (v_rf : Nat → Int32) (v_ro : Nat → Int32) (h_u_td : 0 ≤ u_td.toInt ∧ u_td.toInt ≤ 400) (h_u_fr : 0 ≤ u_fr.toInt ∧ u_fr.toInt ≤ 400) (h_u_to : 0 ≤ u_to.toInt ∧ u_to.toInt ≤ 400) (h_u_bd : 0 ≤ u_bd.toInt ∧ u_bd.toInt ≤ 1) (h_u_nc : 0 ≤ u_nc.toInt ∧ u_nc.toInt ≤ 12) (h_u_co : 0 ≤ u_co.toInt ∧ u_co.toInt ≤ 400) (h_u_pd : 0 ≤ u_pd.toInt ∧ u_pd.toInt ≤ 400) (h_u_la : 0 ≤ u_la.toInt ∧ u_la.toInt ≤ 4840) (h_u_bk : 0 ≤ u_bk.toInt ∧ u_bk.toInt ≤ 1) (h_u_ce : 0 ≤ u_ce.toInt ∧ u_ce.toInt ≤ 63) (h_u_ho : 0 ≤ u_ho.toInt ∧ u_ho.toInt ≤ 23) (h_u_wy : 0 ≤ u_wy.toInt ∧ u_wy.toInt ≤ 3) (h_u_bt : 0 ≤ u_bt.toInt ∧ u_bt.toInt ≤ 1000000) (h_u_ps : 0 ≤ u_ps.toInt ∧ u_ps.toInt ≤ 200) (h_u_ic : 0 ≤ u_ic.toInt ∧ u_ic.toInt ≤ 1) (h_u_id : 0 ≤ u_id.toInt ∧ u_id.toInt ≤ 1) (r_ro : MI v_ro) : Met l yX12_sighting (wsG yX12_sighting cX12_sighting 8 (some .int)) ({ frames := 3, cells := 0, slots := 0, locals := 67 }) (va_Pc [.ref b_o, .int p_1, .int p_2, .int p_3, .int p_4] (g5_P G [(b_o, (oc12 u_th u_sa b_rf b_ro b_im b_ke u_fd b_tp u_td u_fr u_to u_so u_wo u_fa u_bd u_nc b_nl u_co b_op b_ar u_le b_pi b_pa u_pd u_od b_ws b_hw u_la b_se b_re u_bk u_va u_su u_ce u_ho u_wy u_bt u_ps b_pt u_tg u_sn b_ip u_ic b_ah b_be b_me u_wd b_tr b_ld u_st b_wn u_id)), (b_rf, (arI G 7 v_rf)), (b_ro, (arI G 5740 v_ro))] sz)) (va_Qi (fun (r : Int32) (u : va_W) => (∃ (o_r : Int32) (o_th : Int32) (o_sa : Int32) (o_ic : Int32) (o_rf : Nat → Int32) (o_ro : Nat → Int32), (MI o_ro) ∧ (0 ≤ o_ic.toInt ∧ o_ic.toInt ≤ 1) ∧ (o_r = asight v_ro p_1 p_2 p_3 p_4) ∧ (o_ro = ssight v_ro p_1 p_2 p_3 p_4) ∧ (r = o_r) ∧ (u = [(b_o, (oc12 o_th o_sa b_rf b_ro b_im b_ke u_fd b_tp u_td u_fr u_to u_so u_wo u_fa u_bd u_nc b_nl u_co b_op b_ar u_le b_pi b_pa u_pd u_od b_ws b_hw u_la b_se b_re u_bk u_va u_su u_ce u_ho u_wy u_bt u_ps b_pt u_tg u_sn b_ip o_ic b_ah b_be b_me u_wd b_tr b_ld u_st b_wn u_id)), (b_rf, (arI G 7 o_rf)), (b_ro, (arI G 5740 o_ro))]))) (g5_B G (va_A [(b_o, (oc12 u_th u_sa b_rf b_ro b_im b_ke u_fd b_tp u_td u_fr u_to u_so u_wo u_fa u_bd u_nc b_nl u_co b_op b_ar u_le b_pi b_pa u_pd u_od b_ws b_hw u_la b_se b_re u_bk u_va u_su u_ce u_ho u_wy u_bt u_ps b_pt u_tg u_sn b_ip u_ic b_ah b_be b_me u_wd b_tr b_ld u_st b_wn u_id)), (b_rf, (arI G 7 v_rf)), (b_ro, (arI G 5740 v_ro))] sz)) (va_A [(b_o, (oc12 u_th u_sa b_rf b_ro b_im b_ke u_fd b_tp u_td u_fr u_to u_so u_wo u_fa u_bd u_nc b_nl u_co b_op b_ar u_le b_pi b_pa u_pd u_od b_ws b_hw u_la b_se b_re u_bk u_va u_su u_ce u_ho u_wy u_bt u_ps b_pt u_tg u_sn b_ip u_ic b_ah b_be b_me u_wd b_tr b_ld u_st b_wn u_id)), (b_rf, (arI G 7 v_rf)), (b_ro, (arI G 5740 v_ro))] sz)) 0 0 (va_A [(b_o, (oc12 u_th u_sa b_rf b_ro b_im b_ke u_fd b_tp u_td u_fr u_to u_so u_wo u_fa u_bd u_nc b_nl u_co b_op b_ar u_le b_pi b_pa u_pd u_od b_ws b_hw u_la b_se b_re u_bk u_va u_su u_ce u_ho u_wy u_bt u_ps b_pt u_tg u_sn b_ip u_ic b_ah b_be b_me u_wd b_tr b_ld u_st b_wn u_id)), (b_rf, (arI G 7 v_rf)), (b_ro, (arI G 5740 v_ro))] sz) := by
  refine Met.ofW (cc := cX12_sighting) (maxL := 8) (ret := (some .int)) (by decide +kernel) rfl ?_
  intro p e s m args below meth c s₁ B hml hv
  obtain ⟨rfl, hsz, hP, hK, hD0, hN, hT⟩ := hv
  have hx := B.exec
  have hb := B.bytes
  have hr := B.returns
  have hts : ∀ w ∈ tblG, w.before _ s = true := fun w h => atoms_spec (ws := (wsG yX12_sighting cX12_sighting 8 (some .int))) B.pre w (List.mem_cons_of_mem _ h)
  have hown : s.vm.findClass RX12 = some m.cls := findClass_of_methodNamed B.named
  have hlocks := B.notSynchronized
  subst hsz
  have hD := hD0.self (sz := s.heap.size)
  generalize hAe : va_A [(b_o, (oc12 u_th u_sa b_rf b_ro b_im b_ke u_fd b_tp u_td u_fr u_to u_so u_wo u_fa u_bd u_nc b_nl u_co b_op b_ar u_le b_pi b_pa u_pd u_od b_ws b_hw u_la b_se b_re u_bk u_va u_su u_ce u_ho u_wy u_bt u_ps b_pt u_tg u_sn b_ip u_ic b_ah b_be b_me u_wd b_tr b_ld u_st b_wn u_id)), (b_rf, (arI G 7 v_rf)), (b_ro, (arI G 5740 v_ro))] s.heap.size = A at hD hT ⊢
  have hA : ∀ q : Nat, s.heap.size ≤ q → A q := fun q h => by rw [← hAe]; exact Or.inr h
  have hS : va_S A s.heap s.heap [] := va_S.rf
  replace hP : va_P G.1 vwCl [(b_o, (oc12 u_th u_sa b_rf b_ro b_im b_ke u_fd b_tp u_td u_fr u_to u_so u_wo u_fa u_bd u_nc b_nl u_co b_op b_ar u_le b_pi b_pa u_pd u_od b_ws b_hw u_la b_se b_re u_bk u_va u_su u_ce u_ho u_wy u_bt u_ps b_pt u_tg u_sn b_ip u_ic b_ah b_be b_me u_wd b_tr b_ld u_st b_wn u_id)), (b_rf, (arI G 7 v_rf)), (b_ro, (arI G 5740 v_ro))] s.heap := hP
  have hl := lv_entry ([.ref b_o, .int p_1, .int p_2, .int p_3, .int p_4]) (n := 8) (Nat.le_of_ble_eq_true rfl)
  rw [lg_entry_eq]
  generalize (lg_sl ([.ref b_o, .int p_1, .int p_2, .int p_3, .int p_4]) ++ List.replicate (8 - (lg_sl ([.ref b_o, .int p_1, .int p_2, .int p_3, .int p_4])).length) Slot.unset).toArray = ls at hl ⊢
  replace hl : lv_has ls 8 [(0, .ref b_o), (1, .int p_1), (2, .int p_2), (3, .int p_3), (4, .int p_4)] := hl
  refine lv_aload_n hx hb dX12_sighting_0 rfl (lv_at hl 0 rfl) ?_
  refine lv_iconst (v := 0) hx hb dX12_sighting_1 (by decide +kernel) ?_
  refine va_put (D := G.1) (ci := 12) (v := .int 0) (ty := .int) (C := RX12) (T := TX12) (N := 52) hx hb hts inG_X12 tyX12 tyX12_ok nmX12 hown hK hP hD hS 0 rfl rfl 0 (by decide +kernel) (hts _ fl_X12_107) (fun _ h9 => h9) rfl (by decide +kernel) rfl rfl (Nat.le_of_ble_eq_true rfl) dX12_sighting_2 ?_
  clear hP hD hS
  intro H locs hP hD hS
  refine g5_rs [(b_o, (oc12 0 u_sa b_rf b_ro b_im b_ke u_fd b_tp u_td u_fr u_to u_so u_wo u_fa u_bd u_nc b_nl u_co b_op b_ar u_le b_pi b_pa u_pd u_od b_ws b_hw u_la b_se b_re u_bk u_va u_su u_ce u_ho u_wy u_bt u_ps b_pt u_tg u_sn b_ip u_ic b_ah b_be b_me u_wd b_tr b_ld u_st b_wn u_id)), (b_rf, (arI G 7 v_rf)), (b_ro, (arI G 5740 v_ro))] hP hD ?_
  clear hP hD
  intro hP hD
  refine lv_iload_n hx hb dX12_sighting_5 rfl (lv_at hl 1 rfl) ?_
  refine W.eq (g2 := F0 m 6 ls [.int p_1]) rfl ?_
  refine lv_iload_n hx hb dX12_sighting_6 rfl (lv_at hl 2 rfl) ?_
  refine lv_iload_n hx hb dX12_sighting_7 rfl (lv_at hl 3 rfl) ?_
  obtain ⟨hPc, hDc, hFc⟩ := g5_sub3 (wc := []) hP hD hS hA [] (by decide +kernel) rfl
  refine va_calli (va_runS (As := [.int p_1, .int p_2, .int p_3]) (rest := []) ⟨hx, hb, hml, hown, hts⟩ (n_isLookE l G H.size p_1 p_2 p_3) (va_cwS 3 hts gS_X12_397 rfl rfl rfl hs_X12_isLook ⟨Nat.le_of_ble_eq_true rfl, Nat.le_of_ble_eq_true rfl⟩) (g5_preS hPc hK hDc hN hT hS hFc) rfl rfl hl.1 rfl (lv_room (Nat.le_of_ble_eq_true rfl)) dX12_sighting_8 ⟨Nat.le_of_ble_eq_true rfl, Nat.le_of_ble_eq_true rfl⟩) hS (fun q _ h => hFc q h) hFc (fun r u t H locs ht hvm hw hB hz1 hk1 hS => ?_)
  obtain ⟨hP1, hD1⟩ := hB
  have hP1 := g5_ht ht hP1
  rcases hw with ⟨(i_1 : okL p_1 p_2 p_3), (i_2 : 0 ≤ p_1.toInt ∧ p_1.toInt ≤ 63), (i_3 : 0 ≤ p_2.toInt ∧ p_2.toInt ≤ 3), (i_4 : 0 ≤ p_3.toInt ∧ p_3.toInt ≤ 23), rfl, rfl⟩ | ⟨(i_5 : ¬ okL p_1 p_2 p_3), rfl, rfl⟩
  ·
    have hJ9 := g5_same hP hk1
    clear hP hPc hDc hFc ht hvm hz1 hk1 hP1 hD1
    have hP := hJ9
    clear hJ9
    refine lv_if_eq (tgt := 25) hx hb dX12_sighting_11 (by decide +kernel) (fun c_6 => ?_) (fun c_6 => ?_)
    ·
      exact absurd c_6 (by decide +kernel)
    ·
      refine lv_iload hx hb dX12_sighting_14 (lv_at hl 4 rfl) ?_
      refine lv_i2l (v := p_4.toInt64) hx hb dX12_sighting_16 rfl ?_
      refine lv_lconst (v := 0) hx hb dX12_sighting_17 (by decide +kernel) ?_
      refine lv_lconst (v := 1) hx hb dX12_sighting_18 (by decide +kernel) ?_
      refine W.eq (g2 := F0 m 19 ls [.long 1, .long 0, .long p_4.toInt64]) rfl ?_
      obtain ⟨hPc, hDc, hFc⟩ := g5_sub3 (wc := []) hP hD hS hA [] (by decide +kernel) rfl
      refine va_calli (va_runS (As := [.long p_4.toInt64, .long 0, .long 1]) (rest := []) ⟨hx, hb, hml, hown, hts⟩ (n_in_0_1 l G H.size p_4) (va_cwS 3 hts gS_X12_121 rfl rfl rfl hs_X12_in ⟨Nat.le_of_ble_eq_true rfl, Nat.le_of_ble_eq_true rfl⟩) (g5_preS hPc hK hDc hN hT hS hFc) rfl rfl hl.1 rfl (lv_room (Nat.le_of_ble_eq_true rfl)) dX12_sighting_19 ⟨Nat.le_of_ble_eq_true rfl, Nat.le_of_ble_eq_true rfl⟩) hS (fun q _ h => hFc q h) hFc (fun r u t H locs ht hvm hw hB hz1 hk1 hS => ?_)
      obtain ⟨hP1, hD1⟩ := hB
      have hP1 := g5_ht ht hP1
      rcases hw with ⟨(i_7 : p_4.toInt < 0 ∨ 1 < p_4.toInt), rfl, rfl⟩ | ⟨(i_8 : 0 ≤ p_4.toInt ∧ p_4.toInt ≤ 1), rfl, rfl⟩
      ·
        have hJ9 := g5_same hP hk1
        clear hP hPc hDc hFc ht hvm hz1 hk1 hP1 hD1
        have hP := hJ9
        clear hJ9
        refine lv_if_ne (tgt := 31) hx hb dX12_sighting_22 (by decide +kernel) (fun c_9 => ?_) (fun c_9 => ?_)
        ·
          exact absurd c_9 (by decide +kernel)
        ·
          refine lv_aload_n hx hb dX12_sighting_25 rfl (lv_at hl 0 rfl) ?_
          refine lv_iconst (v := (-1)) hx hb dX12_sighting_26 (by decide +kernel) ?_
          obtain ⟨hPc, hDc, hFc⟩ := g5_sub3 (wc := [(b_o, (oc12 0 u_sa b_rf b_ro b_im b_ke u_fd b_tp u_td u_fr u_to u_so u_wo u_fa u_bd u_nc b_nl u_co b_op b_ar u_le b_pi b_pa u_pd u_od b_ws b_hw u_la b_se b_re u_bk u_va u_su u_ce u_ho u_wy u_bt u_ps b_pt u_tg u_sn b_ip u_ic b_ah b_be b_me u_wd b_tr b_ld u_st b_wn u_id)), (b_rf, (arI G 7 v_rf))]) hP hD hS hA [0, 1] (by decide +kernel) rfl
          refine va_calli (va_runV (As := [.int (-1)]) (rest := []) ⟨hx, hb, hml, hown, hts⟩ (n_tell1 l G b_o b_rf b_ro b_im b_ke b_tp b_nl b_op b_ar b_pi b_pa b_ws b_hw b_se b_re b_pt b_ip b_ah b_be b_me b_tr b_ld b_wn H.size 0 u_sa u_fd u_td u_fr u_to u_so u_fa u_bd u_nc u_co u_le u_pd u_od u_la u_bk u_ce u_ho u_wy u_bt u_ps u_tg u_sn u_ic u_wd u_id u_wo u_va u_su u_st v_rf h_u_td h_u_fr h_u_to h_u_bd h_u_nc h_u_co h_u_pd h_u_la h_u_bk h_u_ce h_u_ho h_u_wy h_u_bt h_u_ps h_u_ic h_u_id) (cwV 1 hts gV_X12_125 rfl rfl rfl hv_X12_tell ⟨Nat.le_of_ble_eq_true rfl, Nat.le_of_ble_eq_true rfl⟩) (g5_preV hPc hK hDc hN hT hS hFc (ci := 12) (q0 := 0) rfl rfl) rfl rfl hl.1 rfl (lv_room (Nat.le_of_ble_eq_true rfl)) dX12_sighting_27 ⟨Nat.le_of_ble_eq_true rfl, Nat.le_of_ble_eq_true rfl⟩) hS (fun q _ h => hFc q h) hFc (fun r u t H locs ht hvm hw hB hz1 hk1 hS => ?_)
          obtain ⟨hP1, hD1⟩ := hB
          have hP1 := g5_ht ht hP1
          obtain ⟨z11, z12, z13, (i_10 : 0 ≤ z12.toInt ∧ z12.toInt ≤ 1), rfl, rfl⟩ := hw
          have hJ9 := va_join (wr := [(b_ro, (arI G 5740 v_ro))]) hP hD [0, 1] [2] rfl rfl (by decide +kernel) (by decide +kernel) hk1 hFc hP1 hD1
          clear hP hD hPc hDc hFc ht hvm hz1 hk1 hP1 hD1
          obtain ⟨hP, hD⟩ := hJ9
          refine g5_rs [(b_ro, (arI G 5740 v_ro)), (b_o, (oc12 0 z11 b_rf b_ro b_im b_ke u_fd b_tp u_td u_fr u_to u_so u_wo u_fa u_bd u_nc b_nl u_co b_op b_ar u_le b_pi b_pa u_pd u_od b_ws b_hw u_la b_se b_re u_bk u_va u_su u_ce u_ho u_wy u_bt u_ps b_pt u_tg u_sn b_ip z12 b_ah b_be b_me u_wd b_tr b_ld u_st b_wn u_id)), (b_rf, (arI G 7 z13))] hP hD ?_
          clear hP hD
          intro hP hD
          exact W.iret (v := (-1)) hx hb hr (fun t ht hW => ⟨⟨(-1), [(b_o, (oc12 0 z11 b_rf b_ro b_im b_ke u_fd b_tp u_td u_fr u_to u_so u_wo u_fa u_bd u_nc b_nl u_co b_op b_ar u_le b_pi b_pa u_pd u_od b_ws b_hw u_la b_se b_re u_bk u_va u_su u_ce u_ho u_wy u_bt u_ps b_pt u_tg u_sn b_ip z12 b_ah b_be b_me u_wd b_tr b_ld u_st b_wn u_id)), (b_rf, (arI G 7 z13)), (b_ro, (arI G 5740 v_ro))], rfl, ⟨(-1), 0, z11, z12, z13, v_ro, r_ro, i_10, (sight_1 (f := v_ro) (c := p_1) (w := p_2) (h := p_3) (s := p_4) (fun q => by have q2 := q.2; omega)).1.symm, (sight_1 (f := v_ro) (c := p_1) (w := p_2) (h := p_3) (s := p_4) (fun q => by have q2 := q.2; omega)).2.symm, rfl, rfl⟩, by rw [ht]; exact hP.sub [1, 2, 0] rfl, hD.sub [1, 2, 0] (by decide +kernel) rfl⟩, hS.F ht⟩) hS.2.2 dX12_sighting_30
      ·
        have hJ9 := g5_same hP hk1
        clear hP hPc hDc hFc ht hvm hz1 hk1 hP1 hD1
        have hP := hJ9
        clear hJ9
        refine lv_if_ne (tgt := 31) hx hb dX12_sighting_22 (by decide +kernel) (fun c_14 => ?_) (fun c_14 => ?_)
        ·
          refine lv_aload_n hx hb dX12_sighting_31 rfl (lv_at hl 0 rfl) ?_
          refine va_get (D := G.1) (ci := 12) (v := .ref b_ro) (C := RX12) (T := TX12) (N := 52) hx hb hts inG_X12 hown hK hP 0 rfl rfl 3 (by decide +kernel) (hts _ fl_X12_13) (fun _ h9 => h9) rfl dX12_sighting_32 ?_
          refine lv_iconst (v := 5) hx hb dX12_sighting_35 (by decide +kernel) ?_
          refine va_iald hx hb hK hP 2 0 rfl rfl (i := 5) (by unfold vp_in; decide) dX12_sighting_36 ?_
          refine g5_ti (v := (v_ro 5)) rfl ?_
          have hr_15 : 0 ≤ (v_ro 5).toInt ∧ (v_ro 5).toInt ≤ 10 := mi_5 r_ro
          refine W.eq (g2 := F0 m 37 ls [.int (v_ro 5)]) rfl ?_
          refine lv_istore (lv' := [(5, .int (v_ro 5)), (0, .ref b_o), (1, .int p_1), (2, .int p_2), (3, .int p_3), (4, .int p_4)]) hx hb dX12_sighting_37 hl (by decide +kernel) rfl ?_
          clear hl
          intro ls hl
          refine lv_iconst (v := 0) hx hb dX12_sighting_39 (by decide +kernel) ?_
          refine lv_istore (lv' := [(6, .int 0), (5, .int (v_ro 5)), (0, .ref b_o), (1, .int p_1), (2, .int p_2), (3, .int p_3), (4, .int p_4)]) hx hb dX12_sighting_40 hl (by decide +kernel) rfl ?_
          clear hl
          intro ls hl
          refine lv_iconst (v := 0) hx hb dX12_sighting_42 (by decide +kernel) ?_
          refine lv_istore (lv' := [(7, .int 0), (6, .int 0), (5, .int (v_ro 5)), (0, .ref b_o), (1, .int p_1), (2, .int p_2), (3, .int p_3), (4, .int p_4)]) hx hb dX12_sighting_43 hl (by decide +kernel) rfl ?_
          clear hl
          intro ls hl
          refine g5_loop (α := (Int32) × (Int32)) (fun (q : (Int32) × (Int32)) (ls : Array Slot) (H : Heap) (locs : List Loc) => match q with | (k45_7, k45_6) => lv_has ls 8 [(6, .int k45_6), (7, .int k45_7), (5, .int (v_ro 5)), (0, .ref b_o), (1, .int p_1), (2, .int p_2), (3, .int p_3), (4, .int p_4)] ∧ va_P G.1 vwCl [(b_o, (oc12 0 u_sa b_rf b_ro b_im b_ke u_fd b_tp u_td u_fr u_to u_so u_wo u_fa u_bd u_nc b_nl u_co b_op b_ar u_le b_pi b_pa u_pd u_od b_ws b_hw u_la b_se b_re u_bk u_va u_su u_ce u_ho u_wy u_bt u_ps b_pt u_tg u_sn b_ip u_ic b_ah b_be b_me u_wd b_tr b_ld u_st b_wn u_id)), (b_rf, (arI G 7 v_rf)), (b_ro, (arI G 5740 v_ro))] H ∧ va_D A [(b_o, (oc12 0 u_sa b_rf b_ro b_im b_ke u_fd b_tp u_td u_fr u_to u_so u_wo u_fa u_bd u_nc b_nl u_co b_op b_ar u_le b_pi b_pa u_pd u_od b_ws b_hw u_la b_se b_re u_bk u_va u_su u_ce u_ho u_wy u_bt u_ps b_pt u_tg u_sn b_ip u_ic b_ah b_be b_me u_wd b_tr b_ld u_st b_wn u_id)), (b_rf, (arI G 7 v_rf)), (b_ro, (arI G 5740 v_ro))] ∧ va_S A s.heap H locs ∧ (0 ≤ k45_7.toInt ∧ k45_7.toInt ≤ 10) ∧ (0 ≤ k45_6.toInt ∧ k45_6.toInt ≤ 10) ∧ (k45_6.toInt ≤ k45_7.toInt) ∧ (k45_7.toInt ≤ (v_ro 5).toInt) ∧ (k45_6.toInt = snS (fun j => v_ro (230 + j)) (v_ro 5).toInt k45_7.toInt.toNat)) (fun (q : (Int32) × (Int32)) => match q with | (k45_7, k45_6) => Int.toNat (10 - k45_7.toInt)) (0, 0) ⟨lv_sub hl [1, 0, 2, 3, 4, 5, 6, 7] rfl, hP, hD, hS, ⟨by decide, by decide⟩, ⟨by decide, by decide⟩, Int.le_refl _, by have z0 : (0 : Int32).toInt = 0 := (by decide +kernel); have z5 := mi_5 r_ro; omega, h_snS0⟩ ?_
          rintro ⟨k45_7, k45_6⟩ ls H locs ⟨hl, hP, hD, hS, (i_16 : 0 ≤ k45_7.toInt ∧ k45_7.toInt ≤ 10), (i_17 : 0 ≤ k45_6.toInt ∧ k45_6.toInt ≤ 10), (i_18 : k45_6.toInt ≤ k45_7.toInt), (i_19 : k45_7.toInt ≤ (v_ro 5).toInt), (i_20 : k45_6.toInt = snS (fun j => v_ro (230 + j)) (v_ro 5).toInt k45_7.toInt.toNat)⟩ ih_45_21
          replace hl : lv_has ls 8 [(6, .int k45_6), (7, .int k45_7), (5, .int (v_ro 5)), (0, .ref b_o), (1, .int p_1), (2, .int p_2), (3, .int p_3), (4, .int p_4)] := hl
          refine g5_rs [(b_o, (oc12 0 u_sa b_rf b_ro b_im b_ke u_fd b_tp u_td u_fr u_to u_so u_wo u_fa u_bd u_nc b_nl u_co b_op b_ar u_le b_pi b_pa u_pd u_od b_ws b_hw u_la b_se b_re u_bk u_va u_su u_ce u_ho u_wy u_bt u_ps b_pt u_tg u_sn b_ip u_ic b_ah b_be b_me u_wd b_tr b_ld u_st b_wn u_id)), (b_rf, (arI G 7 v_rf)), (b_ro, (arI G 5740 v_ro))] hP hD ?_
          clear hP hD
          intro hP hD
          refine lv_iload hx hb dX12_sighting_45 (lv_at hl 1 rfl) ?_
          refine lv_iload hx hb dX12_sighting_47 (lv_at hl 2 rfl) ?_
          refine lv_icmp_ge (tgt := 78) hx hb dX12_sighting_49 (by decide +kernel) (fun c_22 => ?_) (fun c_22 => ?_)
          ·
            have i_22 : k45_7.toInt ≥ (v_ro 5).toInt := g5_ge (a := k45_7.toInt) (b := (v_ro 5).toInt) rfl rfl c_22
            refine lv_iload hx hb dX12_sighting_78 (lv_at hl 2 rfl) ?_
            refine lv_bipush (v := 10) hx hb dX12_sighting_80 (by decide +kernel) ?_
            refine lv_icmp_eq (tgt := 97) hx hb dX12_sighting_82 (by decide +kernel) (fun c_23 => ?_) (fun c_23 => ?_)
            ·
              have i_23 : (v_ro 5).toInt = 10 := g5_eq (a := (v_ro 5).toInt) (b := 10) rfl (by decide +kernel) c_23
              refine lv_aload_n hx hb dX12_sighting_97 rfl (lv_at hl 3 rfl) ?_
              refine lv_bipush (v := (-5)) hx hb dX12_sighting_98 (by decide +kernel) ?_
              obtain ⟨hPc, hDc, hFc⟩ := g5_sub3 (wc := [(b_o, (oc12 0 u_sa b_rf b_ro b_im b_ke u_fd b_tp u_td u_fr u_to u_so u_wo u_fa u_bd u_nc b_nl u_co b_op b_ar u_le b_pi b_pa u_pd u_od b_ws b_hw u_la b_se b_re u_bk u_va u_su u_ce u_ho u_wy u_bt u_ps b_pt u_tg u_sn b_ip u_ic b_ah b_be b_me u_wd b_tr b_ld u_st b_wn u_id)), (b_rf, (arI G 7 v_rf))]) hP hD hS hA [0, 1] (by decide +kernel) rfl
              refine va_calli (va_runV (As := [.int (-5)]) (rest := []) ⟨hx, hb, hml, hown, hts⟩ (n_tell5 l G b_o b_rf b_ro b_im b_ke b_tp b_nl b_op b_ar b_pi b_pa b_ws b_hw b_se b_re b_pt b_ip b_ah b_be b_me b_tr b_ld b_wn H.size 0 u_sa u_fd u_td u_fr u_to u_so u_fa u_bd u_nc u_co u_le u_pd u_od u_la u_bk u_ce u_ho u_wy u_bt u_ps u_tg u_sn u_ic u_wd u_id u_wo u_va u_su u_st v_rf h_u_td h_u_fr h_u_to h_u_bd h_u_nc h_u_co h_u_pd h_u_la h_u_bk h_u_ce h_u_ho h_u_wy h_u_bt h_u_ps h_u_ic h_u_id) (cwV 1 hts gV_X12_125 rfl rfl rfl hv_X12_tell ⟨Nat.le_of_ble_eq_true rfl, Nat.le_of_ble_eq_true rfl⟩) (g5_preV hPc hK hDc hN hT hS hFc (ci := 12) (q0 := 0) rfl rfl) rfl rfl hl.1 rfl (lv_room (Nat.le_of_ble_eq_true rfl)) dX12_sighting_100 ⟨Nat.le_of_ble_eq_true rfl, Nat.le_of_ble_eq_true rfl⟩) hS (fun q _ h => hFc q h) hFc (fun r u t H locs ht hvm hw hB hz1 hk1 hS => ?_)
              obtain ⟨hP1, hD1⟩ := hB
              have hP1 := g5_ht ht hP1
              obtain ⟨z25, z26, z27, (i_24 : 0 ≤ z26.toInt ∧ z26.toInt ≤ 1), rfl, rfl⟩ := hw
              have hJ9 := va_join (wr := [(b_ro, (arI G 5740 v_ro))]) hP hD [0, 1] [2] rfl rfl (by decide +kernel) (by decide +kernel) hk1 hFc hP1 hD1
              clear hP hD hPc hDc hFc ht hvm hz1 hk1 hP1 hD1
              obtain ⟨hP, hD⟩ := hJ9
              refine g5_rs [(b_ro, (arI G 5740 v_ro)), (b_o, (oc12 0 z25 b_rf b_ro b_im b_ke u_fd b_tp u_td u_fr u_to u_so u_wo u_fa u_bd u_nc b_nl u_co b_op b_ar u_le b_pi b_pa u_pd u_od b_ws b_hw u_la b_se b_re u_bk u_va u_su u_ce u_ho u_wy u_bt u_ps b_pt u_tg u_sn b_ip z26 b_ah b_be b_me u_wd b_tr b_ld u_st b_wn u_id)), (b_rf, (arI G 7 z27))] hP hD ?_
              clear hP hD
              intro hP hD
              exact W.iret (v := (-5)) hx hb hr (fun t ht hW => ⟨⟨(-5), [(b_o, (oc12 0 z25 b_rf b_ro b_im b_ke u_fd b_tp u_td u_fr u_to u_so u_wo u_fa u_bd u_nc b_nl u_co b_op b_ar u_le b_pi b_pa u_pd u_od b_ws b_hw u_la b_se b_re u_bk u_va u_su u_ce u_ho u_wy u_bt u_ps b_pt u_tg u_sn b_ip z26 b_ah b_be b_me u_wd b_tr b_ld u_st b_wn u_id)), (b_rf, (arI G 7 z27)), (b_ro, (arI G 5740 v_ro))], rfl, ⟨(-5), 0, z25, z26, z27, v_ro, r_ro, i_24, (sight_5 (f := v_ro) (c := p_1) (w := p_2) (h := p_3) (s := p_4) ⟨i_1, by omega, by omega⟩ (fun q => q.1 (by omega))).1.symm, (sight_5 (f := v_ro) (c := p_1) (w := p_2) (h := p_3) (s := p_4) ⟨i_1, by omega, by omega⟩ (fun q => q.1 (by omega))).2.symm, rfl, rfl⟩, by rw [ht]; exact hP.sub [1, 2, 0] rfl, hD.sub [1, 2, 0] (by decide +kernel) rfl⟩, hS.F ht⟩) hS.2.2 dX12_sighting_103
            ·
              have n_23 : gNe ((v_ro 5).toInt) (10) := g5_eqN (a := (v_ro 5).toInt) (b := 10) rfl (by decide +kernel) c_23
              have i_23 : (v_ro 5).toInt ≤ 9 := by have z := g5_eqN (a := (v_ro 5).toInt) (b := 10) (by rfl) (by decide +kernel) c_23; omega
              refine lv_iload hx hb dX12_sighting_85 (lv_at hl 7 rfl) ?_
              refine lv_iconst (v := 1) hx hb dX12_sighting_87 (by decide +kernel) ?_
              refine lv_icmp_ne (tgt := 104) hx hb dX12_sighting_88 (by decide +kernel) (fun c_28 => ?_) (fun c_28 => ?_)
              ·
                have n_28 : gNe (p_4.toInt) (1) := g5_ne (a := p_4.toInt) (b := 1) rfl (by decide +kernel) c_28
                have i_28 : p_4.toInt ≤ 0 := by have z := g5_ne (a := p_4.toInt) (b := 1) (by rfl) (by decide +kernel) c_28; omega
                refine lv_sipush (v := 230) hx hb dX12_sighting_104 (by decide +kernel) ?_
                refine lv_iconst (v := 4) hx hb dX12_sighting_107 (by decide +kernel) ?_
                refine lv_iload hx hb dX12_sighting_108 (lv_at hl 2 rfl) ?_
                refine lv_imul hx hb dX12_sighting_110 ?_
                have t_29 : (4 * (v_ro 5)).toInt = 4 * (v_ro 5).toInt := g5_imul (a := 4) (b := (v_ro 5).toInt) (by decide +kernel) (by rfl) (by omega) (by omega)
                refine W.eq (g2 := F0 m 111 ls [.int (4 * (v_ro 5)), .int 230]) rfl ?_
                refine lv_iadd hx hb dX12_sighting_111 ?_
                have t_30 : (230 + (4 * (v_ro 5))).toInt = 230 + (4 * (v_ro 5)).toInt := g5_iadd (a := 230) (b := (4 * (v_ro 5)).toInt) (by decide +kernel) (by rfl) (by omega) (by omega)
                refine lv_istore (lv' := [(7, .int (230 + (4 * (v_ro 5)))), (6, .int k45_6), (5, .int (v_ro 5)), (0, .ref b_o), (1, .int p_1), (2, .int p_2), (3, .int p_3), (4, .int p_4)]) hx hb dX12_sighting_112 hl (by decide +kernel) rfl ?_
                clear hl
                intro ls hl
                refine lv_aload_n hx hb dX12_sighting_114 rfl (lv_at hl 3 rfl) ?_
                refine va_get (D := G.1) (ci := 12) (v := .ref b_ro) (C := RX12) (T := TX12) (N := 52) hx hb hts inG_X12 hown hK hP 0 rfl rfl 3 (by decide +kernel) (hts _ fl_X12_13) (fun _ h9 => h9) rfl dX12_sighting_115 ?_
                refine lv_iload hx hb dX12_sighting_118 (lv_at hl 0 rfl) ?_
                refine W.eq (g2 := F0 m 120 ls [.int (230 + (4 * (v_ro 5))), .ref b_ro]) rfl ?_
                refine lv_iload_n hx hb dX12_sighting_120 rfl (lv_at hl 4 rfl) ?_
                refine va_iast hx hb hK hP hD hS 2 0 rfl rfl (i := (230 + (4 * (v_ro 5)))) (x := p_1) (vp_in_iff.mpr ⟨by omega, by omega⟩) dX12_sighting_121 ?_
                clear hP hD hS
                intro H locs hP hD hS
                refine g5_rs [(b_o, (oc12 0 u_sa b_rf b_ro b_im b_ke u_fd b_tp u_td u_fr u_to u_so u_wo u_fa u_bd u_nc b_nl u_co b_op b_ar u_le b_pi b_pa u_pd u_od b_ws b_hw u_la b_se b_re u_bk u_va u_su u_ce u_ho u_wy u_bt u_ps b_pt u_tg u_sn b_ip u_ic b_ah b_be b_me u_wd b_tr b_ld u_st b_wn u_id)), (b_rf, (arI G 7 v_rf)), (b_ro, (arI G 5740 (upd v_ro (230 + (4 * (v_ro 5))).toNatClampNeg p_1)))] hP hD ?_
                clear hP hD
                intro hP hD
                refine lv_aload_n hx hb dX12_sighting_122 rfl (lv_at hl 3 rfl) ?_
                refine va_get (D := G.1) (ci := 12) (v := .ref b_ro) (C := RX12) (T := TX12) (N := 52) hx hb hts inG_X12 hown hK hP 0 rfl rfl 3 (by decide +kernel) (hts _ fl_X12_13) (fun _ h9 => h9) rfl dX12_sighting_123 ?_
                refine lv_iload hx hb dX12_sighting_126 (lv_at hl 0 rfl) ?_
                refine W.eq (g2 := F0 m 128 ls [.int (230 + (4 * (v_ro 5))), .ref b_ro]) rfl ?_
                refine lv_iconst (v := 1) hx hb dX12_sighting_128 (by decide +kernel) ?_
                refine lv_iadd hx hb dX12_sighting_129 ?_
                have t_31 : ((230 + (4 * (v_ro 5))) + 1).toInt = (230 + (4 * (v_ro 5))).toInt + 1 := g5_iadd (a := (230 + (4 * (v_ro 5))).toInt) (b := 1) (by rfl) (by decide +kernel) (by omega) (by omega)
                refine lv_iload_n hx hb dX12_sighting_130 rfl (lv_at hl 5 rfl) ?_
                refine va_iast hx hb hK hP hD hS 2 0 rfl rfl (i := ((230 + (4 * (v_ro 5))) + 1)) (x := p_2) (vp_in_iff.mpr ⟨by omega, by omega⟩) dX12_sighting_131 ?_
                clear hP hD hS
                intro H locs hP hD hS
                refine g5_rs [(b_o, (oc12 0 u_sa b_rf b_ro b_im b_ke u_fd b_tp u_td u_fr u_to u_so u_wo u_fa u_bd u_nc b_nl u_co b_op b_ar u_le b_pi b_pa u_pd u_od b_ws b_hw u_la b_se b_re u_bk u_va u_su u_ce u_ho u_wy u_bt u_ps b_pt u_tg u_sn b_ip u_ic b_ah b_be b_me u_wd b_tr b_ld u_st b_wn u_id)), (b_rf, (arI G 7 v_rf)), (b_ro, (arI G 5740 (upd (upd v_ro (230 + (4 * (v_ro 5))).toNatClampNeg p_1) ((230 + (4 * (v_ro 5))) + 1).toNatClampNeg p_2)))] hP hD ?_
                clear hP hD
                intro hP hD
                refine lv_aload_n hx hb dX12_sighting_132 rfl (lv_at hl 3 rfl) ?_
                refine W.eq (g2 := F0 m 133 ls [.ref b_o]) rfl ?_
                refine va_get (D := G.1) (ci := 12) (v := .ref b_ro) (C := RX12) (T := TX12) (N := 52) hx hb hts inG_X12 hown hK hP 0 rfl rfl 3 (by decide +kernel) (hts _ fl_X12_13) (fun _ h9 => h9) rfl dX12_sighting_133 ?_
                refine lv_iload hx hb dX12_sighting_136 (lv_at hl 0 rfl) ?_
                refine lv_iconst (v := 2) hx hb dX12_sighting_138 (by decide +kernel) ?_
                refine lv_iadd hx hb dX12_sighting_139 ?_
                have t_32 : ((230 + (4 * (v_ro 5))) + 2).toInt = (230 + (4 * (v_ro 5))).toInt + 2 := g5_iadd (a := (230 + (4 * (v_ro 5))).toInt) (b := 2) (by rfl) (by decide +kernel) (by omega) (by omega)
                refine lv_iload_n hx hb dX12_sighting_140 rfl (lv_at hl 6 rfl) ?_
                refine W.eq (g2 := F0 m 141 ls [.int p_3, .int ((230 + (4 * (v_ro 5))) + 2), .ref b_ro]) rfl ?_
                refine va_iast hx hb hK hP hD hS 2 0 rfl rfl (i := ((230 + (4 * (v_ro 5))) + 2)) (x := p_3) (vp_in_iff.mpr ⟨by omega, by omega⟩) dX12_sighting_141 ?_
                clear hP hD hS
                intro H locs hP hD hS
                refine g5_rs [(b_o, (oc12 0 u_sa b_rf b_ro b_im b_ke u_fd b_tp u_td u_fr u_to u_so u_wo u_fa u_bd u_nc b_nl u_co b_op b_ar u_le b_pi b_pa u_pd u_od b_ws b_hw u_la b_se b_re u_bk u_va u_su u_ce u_ho u_wy u_bt u_ps b_pt u_tg u_sn b_ip u_ic b_ah b_be b_me u_wd b_tr b_ld u_st b_wn u_id)), (b_rf, (arI G 7 v_rf)), (b_ro, (arI G 5740 (upd (upd (upd v_ro (230 + (4 * (v_ro 5))).toNatClampNeg p_1) ((230 + (4 * (v_ro 5))) + 1).toNatClampNeg p_2) ((230 + (4 * (v_ro 5))) + 2).toNatClampNeg p_3)))] hP hD ?_
                clear hP hD
                intro hP hD
                refine lv_aload_n hx hb dX12_sighting_142 rfl (lv_at hl 3 rfl) ?_
                refine va_get (D := G.1) (ci := 12) (v := .ref b_ro) (C := RX12) (T := TX12) (N := 52) hx hb hts inG_X12 hown hK hP 0 rfl rfl 3 (by decide +kernel) (hts _ fl_X12_13) (fun _ h9 => h9) rfl dX12_sighting_143 ?_
                refine lv_iload hx hb dX12_sighting_146 (lv_at hl 0 rfl) ?_
                refine lv_iconst (v := 3) hx hb dX12_sighting_148 (by decide +kernel) ?_
                refine W.eq (g2 := F0 m 149 ls [.int 3, .int (230 + (4 * (v_ro 5))), .ref b_ro]) rfl ?_
                refine lv_iadd hx hb dX12_sighting_149 ?_
                have t_33 : ((230 + (4 * (v_ro 5))) + 3).toInt = (230 + (4 * (v_ro 5))).toInt + 3 := g5_iadd (a := (230 + (4 * (v_ro 5))).toInt) (b := 3) (by rfl) (by decide +kernel) (by omega) (by omega)
                refine lv_iload hx hb dX12_sighting_150 (lv_at hl 7 rfl) ?_
                refine va_iast hx hb hK hP hD hS 2 0 rfl rfl (i := ((230 + (4 * (v_ro 5))) + 3)) (x := p_4) (vp_in_iff.mpr ⟨by omega, by omega⟩) dX12_sighting_152 ?_
                clear hP hD hS
                intro H locs hP hD hS
                refine g5_rs [(b_o, (oc12 0 u_sa b_rf b_ro b_im b_ke u_fd b_tp u_td u_fr u_to u_so u_wo u_fa u_bd u_nc b_nl u_co b_op b_ar u_le b_pi b_pa u_pd u_od b_ws b_hw u_la b_se b_re u_bk u_va u_su u_ce u_ho u_wy u_bt u_ps b_pt u_tg u_sn b_ip u_ic b_ah b_be b_me u_wd b_tr b_ld u_st b_wn u_id)), (b_rf, (arI G 7 v_rf)), (b_ro, (arI G 5740 (upd (upd (upd (upd v_ro (230 + (4 * (v_ro 5))).toNatClampNeg p_1) ((230 + (4 * (v_ro 5))) + 1).toNatClampNeg p_2) ((230 + (4 * (v_ro 5))) + 2).toNatClampNeg p_3) ((230 + (4 * (v_ro 5))) + 3).toNatClampNeg p_4)))] hP hD ?_
                clear hP hD
                intro hP hD
                refine lv_aload_n hx hb dX12_sighting_153 rfl (lv_at hl 3 rfl) ?_
                refine va_get (D := G.1) (ci := 12) (v := .ref b_ro) (C := RX12) (T := TX12) (N := 52) hx hb hts inG_X12 hown hK hP 0 rfl rfl 3 (by decide +kernel) (hts _ fl_X12_13) (fun _ h9 => h9) rfl dX12_sighting_154 ?_
                refine W.eq (g2 := F0 m 157 ls [.ref b_ro]) rfl ?_
                refine lv_iconst (v := 5) hx hb dX12_sighting_157 (by decide +kernel) ?_
                refine lv_dup2_11 hx hb dX12_sighting_158 rfl rfl ?_
                refine va_iald hx hb hK hP 2 0 rfl rfl (i := 5) (by unfold vp_in; decide) dX12_sighting_159 ?_
                refine g5_ti (v := ((upd (upd (upd (upd v_ro (230 + (4 * (v_ro 5))).toNatClampNeg p_1) ((230 + (4 * (v_ro 5))) + 1).toNatClampNeg p_2) ((230 + (4 * (v_ro 5))) + 2).toNatClampNeg p_3) ((230 + (4 * (v_ro 5))) + 3).toNatClampNeg p_4) 5)) rfl ?_
                have hu_34 : ((upd (upd (upd (upd v_ro (230 + (4 * (v_ro 5))).toNatClampNeg p_1) ((230 + (4 * (v_ro 5))) + 1).toNatClampNeg p_2) ((230 + (4 * (v_ro 5))) + 2).toNatClampNeg p_3) ((230 + (4 * (v_ro 5))) + 3).toNatClampNeg p_4) 5) = (v_ro 5) := by unfold upd; rw [if_neg (by have zz := g5_clamp ((230 + (4 * (v_ro 5))) + 3); omega), if_neg (by have zz := g5_clamp ((230 + (4 * (v_ro 5))) + 2); omega), if_neg (by have zz := g5_clamp ((230 + (4 * (v_ro 5))) + 1); omega), if_neg (by have zz := g5_clamp (230 + (4 * (v_ro 5))); omega)]
                refine g5_ti (v := (v_ro 5)) hu_34 ?_
                have hr_35 : 0 ≤ (v_ro 5).toInt ∧ (v_ro 5).toInt ≤ 10 := mi_5 r_ro
                refine lv_iconst (v := 1) hx hb dX12_sighting_160 (by decide +kernel) ?_
                refine lv_iadd hx hb dX12_sighting_161 ?_
                have t_36 : ((v_ro 5) + 1).toInt = (v_ro 5).toInt + 1 := g5_iadd (a := (v_ro 5).toInt) (b := 1) (by rfl) (by decide +kernel) (by omega) (by omega)
                refine W.eq (g2 := F0 m 162 ls [.int ((v_ro 5) + 1), .int 5, .ref b_ro]) rfl ?_
                refine va_iast hx hb hK hP hD hS 2 0 rfl rfl (i := 5) (x := ((v_ro 5) + 1)) (by unfold vp_in; decide) dX12_sighting_162 ?_
                clear hP hD hS
                intro H locs hP hD hS
                refine g5_rs [(b_o, (oc12 0 u_sa b_rf b_ro b_im b_ke u_fd b_tp u_td u_fr u_to u_so u_wo u_fa u_bd u_nc b_nl u_co b_op b_ar u_le b_pi b_pa u_pd u_od b_ws b_hw u_la b_se b_re u_bk u_va u_su u_ce u_ho u_wy u_bt u_ps b_pt u_tg u_sn b_ip u_ic b_ah b_be b_me u_wd b_tr b_ld u_st b_wn u_id)), (b_rf, (arI G 7 v_rf)), (b_ro, (arI G 5740 (upd (upd (upd (upd (upd v_ro (230 + (4 * (v_ro 5))).toNatClampNeg p_1) ((230 + (4 * (v_ro 5))) + 1).toNatClampNeg p_2) ((230 + (4 * (v_ro 5))) + 2).toNatClampNeg p_3) ((230 + (4 * (v_ro 5))) + 3).toNatClampNeg p_4) 5 ((v_ro 5) + 1))))] hP hD ?_
                clear hP hD
                intro hP hD
                refine lv_aload_n hx hb dX12_sighting_163 rfl (lv_at hl 3 rfl) ?_
                refine lv_iload hx hb dX12_sighting_164 (lv_at hl 2 rfl) ?_
                refine lv_iconst (v := 1) hx hb dX12_sighting_166 (by decide +kernel) ?_
                refine lv_iadd hx hb dX12_sighting_167 ?_
                have t_37 : ((v_ro 5) + 1).toInt = (v_ro 5).toInt + 1 := g5_iadd (a := (v_ro 5).toInt) (b := 1) (by rfl) (by decide +kernel) (by omega) (by omega)
                refine W.eq (g2 := F0 m 168 ls [.int ((v_ro 5) + 1), .ref b_o]) rfl ?_
                obtain ⟨hPc, hDc, hFc⟩ := g5_sub3 (wc := [(b_o, (oc12 0 u_sa b_rf b_ro b_im b_ke u_fd b_tp u_td u_fr u_to u_so u_wo u_fa u_bd u_nc b_nl u_co b_op b_ar u_le b_pi b_pa u_pd u_od b_ws b_hw u_la b_se b_re u_bk u_va u_su u_ce u_ho u_wy u_bt u_ps b_pt u_tg u_sn b_ip u_ic b_ah b_be b_me u_wd b_tr b_ld u_st b_wn u_id)), (b_rf, (arI G 7 v_rf))]) hP hD hS hA [0, 1] (by decide +kernel) rfl
                refine va_calli (va_runV (As := [.int ((v_ro 5) + 1)]) (rest := []) ⟨hx, hb, hml, hown, hts⟩ (n_tell l G b_o b_rf b_ro b_im b_ke b_tp b_nl b_op b_ar b_pi b_pa b_ws b_hw b_se b_re b_pt b_ip b_ah b_be b_me b_tr b_ld b_wn H.size 0 u_sa u_fd u_td u_fr u_to u_so u_fa u_bd u_nc u_co u_le u_pd u_od u_la u_bk u_ce u_ho u_wy u_bt u_ps u_tg u_sn u_ic u_wd u_id ((v_ro 5) + 1) u_wo u_va u_su u_st v_rf h_u_td h_u_fr h_u_to h_u_bd h_u_nc h_u_co h_u_pd h_u_la h_u_bk h_u_ce h_u_ho h_u_wy h_u_bt h_u_ps h_u_ic h_u_id ⟨by omega, by omega⟩) (cwV 1 hts gV_X12_125 rfl rfl rfl hv_X12_tell ⟨Nat.le_of_ble_eq_true rfl, Nat.le_of_ble_eq_true rfl⟩) (g5_preV hPc hK hDc hN hT hS hFc (ci := 12) (q0 := 0) rfl rfl) rfl rfl hl.1 rfl (lv_room (Nat.le_of_ble_eq_true rfl)) dX12_sighting_168 ⟨Nat.le_of_ble_eq_true rfl, Nat.le_of_ble_eq_true rfl⟩) hS (fun q _ h => hFc q h) hFc (fun r u t H locs ht hvm hw hB hz1 hk1 hS => ?_)
                obtain ⟨hP1, hD1⟩ := hB
                have hP1 := g5_ht ht hP1
                obtain ⟨z39, z40, z41, (i_38 : 0 ≤ z40.toInt ∧ z40.toInt ≤ 1), rfl, rfl⟩ := hw
                have hJ9 := va_join (wr := [(b_ro, (arI G 5740 (upd (upd (upd (upd (upd v_ro (230 + (4 * (v_ro 5))).toNatClampNeg p_1) ((230 + (4 * (v_ro 5))) + 1).toNatClampNeg p_2) ((230 + (4 * (v_ro 5))) + 2).toNatClampNeg p_3) ((230 + (4 * (v_ro 5))) + 3).toNatClampNeg p_4) 5 ((v_ro 5) + 1))))]) hP hD [0, 1] [2] rfl rfl (by decide +kernel) (by decide +kernel) hk1 hFc hP1 hD1
                clear hP hD hPc hDc hFc ht hvm hz1 hk1 hP1 hD1
                obtain ⟨hP, hD⟩ := hJ9
                refine g5_rs [(b_ro, (arI G 5740 (upd (upd (upd (upd (upd v_ro (230 + (4 * (v_ro 5))).toNatClampNeg p_1) ((230 + (4 * (v_ro 5))) + 1).toNatClampNeg p_2) ((230 + (4 * (v_ro 5))) + 2).toNatClampNeg p_3) ((230 + (4 * (v_ro 5))) + 3).toNatClampNeg p_4) 5 ((v_ro 5) + 1)))), (b_o, (oc12 0 z39 b_rf b_ro b_im b_ke u_fd b_tp u_td u_fr u_to u_so u_wo u_fa u_bd u_nc b_nl u_co b_op b_ar u_le b_pi b_pa u_pd u_od b_ws b_hw u_la b_se b_re u_bk u_va u_su u_ce u_ho u_wy u_bt u_ps b_pt u_tg u_sn b_ip z40 b_ah b_be b_me u_wd b_tr b_ld u_st b_wn u_id)), (b_rf, (arI G 7 z41))] hP hD ?_
                clear hP hD
                intro hP hD
                exact W.iret (v := ((v_ro 5) + 1)) hx hb hr (fun t ht hW => ⟨⟨((v_ro 5) + 1), [(b_o, (oc12 0 z39 b_rf b_ro b_im b_ke u_fd b_tp u_td u_fr u_to u_so u_wo u_fa u_bd u_nc b_nl u_co b_op b_ar u_le b_pi b_pa u_pd u_od b_ws b_hw u_la b_se b_re u_bk u_va u_su u_ce u_ho u_wy u_bt u_ps b_pt u_tg u_sn b_ip z40 b_ah b_be b_me u_wd b_tr b_ld u_st b_wn u_id)), (b_rf, (arI G 7 z41)), (b_ro, (arI G 5740 (upd (upd (upd (upd (upd v_ro (230 + (4 * (v_ro 5))).toNatClampNeg p_1) ((230 + (4 * (v_ro 5))) + 1).toNatClampNeg p_2) ((230 + (4 * (v_ro 5))) + 2).toNatClampNeg p_3) ((230 + (4 * (v_ro 5))) + 3).toNatClampNeg p_4) 5 ((v_ro 5) + 1))))], rfl, ⟨((v_ro 5) + 1), 0, z39, z40, z41, (upd (upd (upd (upd (upd v_ro (230 + (4 * (v_ro 5))).toNatClampNeg p_1) ((230 + (4 * (v_ro 5))) + 1).toNatClampNeg p_2) ((230 + (4 * (v_ro 5))) + 2).toNatClampNeg p_3) ((230 + (4 * (v_ro 5))) + 3).toNatClampNeg p_4) 5 ((v_ro 5) + 1)), mi_sight r_ro (by omega) (by omega) (by omega) (by omega) (by omega) (by omega) (by omega) (by omega) (by omega) (by omega) (by have y9 := i_20; rw [show k45_7.toInt = (v_ro 5).toInt by omega] at y9; have m9 : snS (fun j => v_ro (230 + j)) (v_ro 5).toInt (v_ro 5).toInt.toNat ≤ 5 := r_ro.2.1; show snS (fun j => v_ro (230 + j)) (v_ro 5).toInt (v_ro 5).toInt.toNat + p_4.toInt ≤ 5; omega), i_38, (sight_0 (f := v_ro) (c := p_1) (w := p_2) (h := p_3) (s := p_4) ⟨i_1, by omega, by omega⟩ ⟨by omega, fun q => by have q1 := q.1; omega⟩).1.symm, (mr4 (f := v_ro) (ci := 5) (B := 230) (n := (v_ro 5).toInt.toNat) (by omega) (by have zz := g5_clamp (230 + (4 * (v_ro 5))); omega) (by have zz := g5_clamp ((230 + (4 * (v_ro 5))) + 1); omega) (by have zz := g5_clamp ((230 + (4 * (v_ro 5))) + 2); omega) (by have zz := g5_clamp ((230 + (4 * (v_ro 5))) + 3); omega)).trans (sight_0 (f := v_ro) (c := p_1) (w := p_2) (h := p_3) (s := p_4) ⟨i_1, by omega, by omega⟩ ⟨by omega, fun q => by have q1 := q.1; omega⟩).2.symm, rfl, rfl⟩, by rw [ht]; exact hP.sub [1, 2, 0] rfl, hD.sub [1, 2, 0] (by decide +kernel) rfl⟩, hS.F ht⟩) hS.2.2 dX12_sighting_171
              ·
                have i_28 : p_4.toInt = 1 := g5_neN (a := p_4.toInt) (b := 1) rfl (by decide +kernel) c_28
                refine lv_iload hx hb dX12_sighting_91 (lv_at hl 0 rfl) ?_
                refine lv_iconst (v := 5) hx hb dX12_sighting_93 (by decide +kernel) ?_
                refine lv_icmp_ne (tgt := 104) hx hb dX12_sighting_94 (by decide +kernel) (fun c_42 => ?_) (fun c_42 => ?_)
                ·
                  have n_42 : gNe (k45_6.toInt) (5) := g5_ne (a := k45_6.toInt) (b := 5) rfl (by decide +kernel) c_42
                  refine lv_sipush (v := 230) hx hb dX12_sighting_104 (by decide +kernel) ?_
                  refine lv_iconst (v := 4) hx hb dX12_sighting_107 (by decide +kernel) ?_
                  refine lv_iload hx hb dX12_sighting_108 (lv_at hl 2 rfl) ?_
                  refine lv_imul hx hb dX12_sighting_110 ?_
                  have t_43 : (4 * (v_ro 5)).toInt = 4 * (v_ro 5).toInt := g5_imul (a := 4) (b := (v_ro 5).toInt) (by decide +kernel) (by rfl) (by omega) (by omega)
                  refine W.eq (g2 := F0 m 111 ls [.int (4 * (v_ro 5)), .int 230]) rfl ?_
                  refine lv_iadd hx hb dX12_sighting_111 ?_
                  have t_44 : (230 + (4 * (v_ro 5))).toInt = 230 + (4 * (v_ro 5)).toInt := g5_iadd (a := 230) (b := (4 * (v_ro 5)).toInt) (by decide +kernel) (by rfl) (by omega) (by omega)
                  refine lv_istore (lv' := [(7, .int (230 + (4 * (v_ro 5)))), (6, .int k45_6), (5, .int (v_ro 5)), (0, .ref b_o), (1, .int p_1), (2, .int p_2), (3, .int p_3), (4, .int p_4)]) hx hb dX12_sighting_112 hl (by decide +kernel) rfl ?_
                  clear hl
                  intro ls hl
                  refine lv_aload_n hx hb dX12_sighting_114 rfl (lv_at hl 3 rfl) ?_
                  refine va_get (D := G.1) (ci := 12) (v := .ref b_ro) (C := RX12) (T := TX12) (N := 52) hx hb hts inG_X12 hown hK hP 0 rfl rfl 3 (by decide +kernel) (hts _ fl_X12_13) (fun _ h9 => h9) rfl dX12_sighting_115 ?_
                  refine lv_iload hx hb dX12_sighting_118 (lv_at hl 0 rfl) ?_
                  refine W.eq (g2 := F0 m 120 ls [.int (230 + (4 * (v_ro 5))), .ref b_ro]) rfl ?_
                  refine lv_iload_n hx hb dX12_sighting_120 rfl (lv_at hl 4 rfl) ?_
                  refine va_iast hx hb hK hP hD hS 2 0 rfl rfl (i := (230 + (4 * (v_ro 5)))) (x := p_1) (vp_in_iff.mpr ⟨by omega, by omega⟩) dX12_sighting_121 ?_
                  clear hP hD hS
                  intro H locs hP hD hS
                  refine g5_rs [(b_o, (oc12 0 u_sa b_rf b_ro b_im b_ke u_fd b_tp u_td u_fr u_to u_so u_wo u_fa u_bd u_nc b_nl u_co b_op b_ar u_le b_pi b_pa u_pd u_od b_ws b_hw u_la b_se b_re u_bk u_va u_su u_ce u_ho u_wy u_bt u_ps b_pt u_tg u_sn b_ip u_ic b_ah b_be b_me u_wd b_tr b_ld u_st b_wn u_id)), (b_rf, (arI G 7 v_rf)), (b_ro, (arI G 5740 (upd v_ro (230 + (4 * (v_ro 5))).toNatClampNeg p_1)))] hP hD ?_
                  clear hP hD
                  intro hP hD
                  refine lv_aload_n hx hb dX12_sighting_122 rfl (lv_at hl 3 rfl) ?_
                  refine va_get (D := G.1) (ci := 12) (v := .ref b_ro) (C := RX12) (T := TX12) (N := 52) hx hb hts inG_X12 hown hK hP 0 rfl rfl 3 (by decide +kernel) (hts _ fl_X12_13) (fun _ h9 => h9) rfl dX12_sighting_123 ?_
                  refine lv_iload hx hb dX12_sighting_126 (lv_at hl 0 rfl) ?_
                  refine W.eq (g2 := F0 m 128 ls [.int (230 + (4 * (v_ro 5))), .ref b_ro]) rfl ?_
                  refine lv_iconst (v := 1) hx hb dX12_sighting_128 (by decide +kernel) ?_
                  refine lv_iadd hx hb dX12_sighting_129 ?_
                  have t_45 : ((230 + (4 * (v_ro 5))) + 1).toInt = (230 + (4 * (v_ro 5))).toInt + 1 := g5_iadd (a := (230 + (4 * (v_ro 5))).toInt) (b := 1) (by rfl) (by decide +kernel) (by omega) (by omega)
                  refine lv_iload_n hx hb dX12_sighting_130 rfl (lv_at hl 5 rfl) ?_
                  refine va_iast hx hb hK hP hD hS 2 0 rfl rfl (i := ((230 + (4 * (v_ro 5))) + 1)) (x := p_2) (vp_in_iff.mpr ⟨by omega, by omega⟩) dX12_sighting_131 ?_
                  clear hP hD hS
                  intro H locs hP hD hS
                  refine g5_rs [(b_o, (oc12 0 u_sa b_rf b_ro b_im b_ke u_fd b_tp u_td u_fr u_to u_so u_wo u_fa u_bd u_nc b_nl u_co b_op b_ar u_le b_pi b_pa u_pd u_od b_ws b_hw u_la b_se b_re u_bk u_va u_su u_ce u_ho u_wy u_bt u_ps b_pt u_tg u_sn b_ip u_ic b_ah b_be b_me u_wd b_tr b_ld u_st b_wn u_id)), (b_rf, (arI G 7 v_rf)), (b_ro, (arI G 5740 (upd (upd v_ro (230 + (4 * (v_ro 5))).toNatClampNeg p_1) ((230 + (4 * (v_ro 5))) + 1).toNatClampNeg p_2)))] hP hD ?_
                  clear hP hD
                  intro hP hD
                  refine lv_aload_n hx hb dX12_sighting_132 rfl (lv_at hl 3 rfl) ?_
                  refine W.eq (g2 := F0 m 133 ls [.ref b_o]) rfl ?_
                  refine va_get (D := G.1) (ci := 12) (v := .ref b_ro) (C := RX12) (T := TX12) (N := 52) hx hb hts inG_X12 hown hK hP 0 rfl rfl 3 (by decide +kernel) (hts _ fl_X12_13) (fun _ h9 => h9) rfl dX12_sighting_133 ?_
                  refine lv_iload hx hb dX12_sighting_136 (lv_at hl 0 rfl) ?_
                  refine lv_iconst (v := 2) hx hb dX12_sighting_138 (by decide +kernel) ?_
                  refine lv_iadd hx hb dX12_sighting_139 ?_
                  have t_46 : ((230 + (4 * (v_ro 5))) + 2).toInt = (230 + (4 * (v_ro 5))).toInt + 2 := g5_iadd (a := (230 + (4 * (v_ro 5))).toInt) (b := 2) (by rfl) (by decide +kernel) (by omega) (by omega)
                  refine lv_iload_n hx hb dX12_sighting_140 rfl (lv_at hl 6 rfl) ?_
                  refine W.eq (g2 := F0 m 141 ls [.int p_3, .int ((230 + (4 * (v_ro 5))) + 2), .ref b_ro]) rfl ?_
                  refine va_iast hx hb hK hP hD hS 2 0 rfl rfl (i := ((230 + (4 * (v_ro 5))) + 2)) (x := p_3) (vp_in_iff.mpr ⟨by omega, by omega⟩) dX12_sighting_141 ?_
                  clear hP hD hS
                  intro H locs hP hD hS
                  refine g5_rs [(b_o, (oc12 0 u_sa b_rf b_ro b_im b_ke u_fd b_tp u_td u_fr u_to u_so u_wo u_fa u_bd u_nc b_nl u_co b_op b_ar u_le b_pi b_pa u_pd u_od b_ws b_hw u_la b_se b_re u_bk u_va u_su u_ce u_ho u_wy u_bt u_ps b_pt u_tg u_sn b_ip u_ic b_ah b_be b_me u_wd b_tr b_ld u_st b_wn u_id)), (b_rf, (arI G 7 v_rf)), (b_ro, (arI G 5740 (upd (upd (upd v_ro (230 + (4 * (v_ro 5))).toNatClampNeg p_1) ((230 + (4 * (v_ro 5))) + 1).toNatClampNeg p_2) ((230 + (4 * (v_ro 5))) + 2).toNatClampNeg p_3)))] hP hD ?_
                  clear hP hD
                  intro hP hD
                  refine lv_aload_n hx hb dX12_sighting_142 rfl (lv_at hl 3 rfl) ?_
                  refine va_get (D := G.1) (ci := 12) (v := .ref b_ro) (C := RX12) (T := TX12) (N := 52) hx hb hts inG_X12 hown hK hP 0 rfl rfl 3 (by decide +kernel) (hts _ fl_X12_13) (fun _ h9 => h9) rfl dX12_sighting_143 ?_
                  refine lv_iload hx hb dX12_sighting_146 (lv_at hl 0 rfl) ?_
                  refine lv_iconst (v := 3) hx hb dX12_sighting_148 (by decide +kernel) ?_
                  refine W.eq (g2 := F0 m 149 ls [.int 3, .int (230 + (4 * (v_ro 5))), .ref b_ro]) rfl ?_
                  refine lv_iadd hx hb dX12_sighting_149 ?_
                  have t_47 : ((230 + (4 * (v_ro 5))) + 3).toInt = (230 + (4 * (v_ro 5))).toInt + 3 := g5_iadd (a := (230 + (4 * (v_ro 5))).toInt) (b := 3) (by rfl) (by decide +kernel) (by omega) (by omega)
                  refine lv_iload hx hb dX12_sighting_150 (lv_at hl 7 rfl) ?_
                  refine va_iast hx hb hK hP hD hS 2 0 rfl rfl (i := ((230 + (4 * (v_ro 5))) + 3)) (x := p_4) (vp_in_iff.mpr ⟨by omega, by omega⟩) dX12_sighting_152 ?_
                  clear hP hD hS
                  intro H locs hP hD hS
                  refine g5_rs [(b_o, (oc12 0 u_sa b_rf b_ro b_im b_ke u_fd b_tp u_td u_fr u_to u_so u_wo u_fa u_bd u_nc b_nl u_co b_op b_ar u_le b_pi b_pa u_pd u_od b_ws b_hw u_la b_se b_re u_bk u_va u_su u_ce u_ho u_wy u_bt u_ps b_pt u_tg u_sn b_ip u_ic b_ah b_be b_me u_wd b_tr b_ld u_st b_wn u_id)), (b_rf, (arI G 7 v_rf)), (b_ro, (arI G 5740 (upd (upd (upd (upd v_ro (230 + (4 * (v_ro 5))).toNatClampNeg p_1) ((230 + (4 * (v_ro 5))) + 1).toNatClampNeg p_2) ((230 + (4 * (v_ro 5))) + 2).toNatClampNeg p_3) ((230 + (4 * (v_ro 5))) + 3).toNatClampNeg p_4)))] hP hD ?_
                  clear hP hD
                  intro hP hD
                  refine lv_aload_n hx hb dX12_sighting_153 rfl (lv_at hl 3 rfl) ?_
                  refine va_get (D := G.1) (ci := 12) (v := .ref b_ro) (C := RX12) (T := TX12) (N := 52) hx hb hts inG_X12 hown hK hP 0 rfl rfl 3 (by decide +kernel) (hts _ fl_X12_13) (fun _ h9 => h9) rfl dX12_sighting_154 ?_
                  refine W.eq (g2 := F0 m 157 ls [.ref b_ro]) rfl ?_
                  refine lv_iconst (v := 5) hx hb dX12_sighting_157 (by decide +kernel) ?_
                  refine lv_dup2_11 hx hb dX12_sighting_158 rfl rfl ?_
                  refine va_iald hx hb hK hP 2 0 rfl rfl (i := 5) (by unfold vp_in; decide) dX12_sighting_159 ?_
                  refine g5_ti (v := ((upd (upd (upd (upd v_ro (230 + (4 * (v_ro 5))).toNatClampNeg p_1) ((230 + (4 * (v_ro 5))) + 1).toNatClampNeg p_2) ((230 + (4 * (v_ro 5))) + 2).toNatClampNeg p_3) ((230 + (4 * (v_ro 5))) + 3).toNatClampNeg p_4) 5)) rfl ?_
                  have hu_48 : ((upd (upd (upd (upd v_ro (230 + (4 * (v_ro 5))).toNatClampNeg p_1) ((230 + (4 * (v_ro 5))) + 1).toNatClampNeg p_2) ((230 + (4 * (v_ro 5))) + 2).toNatClampNeg p_3) ((230 + (4 * (v_ro 5))) + 3).toNatClampNeg p_4) 5) = (v_ro 5) := by unfold upd; rw [if_neg (by have zz := g5_clamp ((230 + (4 * (v_ro 5))) + 3); omega), if_neg (by have zz := g5_clamp ((230 + (4 * (v_ro 5))) + 2); omega), if_neg (by have zz := g5_clamp ((230 + (4 * (v_ro 5))) + 1); omega), if_neg (by have zz := g5_clamp (230 + (4 * (v_ro 5))); omega)]
                  refine g5_ti (v := (v_ro 5)) hu_48 ?_
                  have hr_49 : 0 ≤ (v_ro 5).toInt ∧ (v_ro 5).toInt ≤ 10 := mi_5 r_ro
                  refine lv_iconst (v := 1) hx hb dX12_sighting_160 (by decide +kernel) ?_
                  refine lv_iadd hx hb dX12_sighting_161 ?_
                  have t_50 : ((v_ro 5) + 1).toInt = (v_ro 5).toInt + 1 := g5_iadd (a := (v_ro 5).toInt) (b := 1) (by rfl) (by decide +kernel) (by omega) (by omega)
                  refine W.eq (g2 := F0 m 162 ls [.int ((v_ro 5) + 1), .int 5, .ref b_ro]) rfl ?_
                  refine va_iast hx hb hK hP hD hS 2 0 rfl rfl (i := 5) (x := ((v_ro 5) + 1)) (by unfold vp_in; decide) dX12_sighting_162 ?_
                  clear hP hD hS
                  intro H locs hP hD hS
                  refine g5_rs [(b_o, (oc12 0 u_sa b_rf b_ro b_im b_ke u_fd b_tp u_td u_fr u_to u_so u_wo u_fa u_bd u_nc b_nl u_co b_op b_ar u_le b_pi b_pa u_pd u_od b_ws b_hw u_la b_se b_re u_bk u_va u_su u_ce u_ho u_wy u_bt u_ps b_pt u_tg u_sn b_ip u_ic b_ah b_be b_me u_wd b_tr b_ld u_st b_wn u_id)), (b_rf, (arI G 7 v_rf)), (b_ro, (arI G 5740 (upd (upd (upd (upd (upd v_ro (230 + (4 * (v_ro 5))).toNatClampNeg p_1) ((230 + (4 * (v_ro 5))) + 1).toNatClampNeg p_2) ((230 + (4 * (v_ro 5))) + 2).toNatClampNeg p_3) ((230 + (4 * (v_ro 5))) + 3).toNatClampNeg p_4) 5 ((v_ro 5) + 1))))] hP hD ?_
                  clear hP hD
                  intro hP hD
                  refine lv_aload_n hx hb dX12_sighting_163 rfl (lv_at hl 3 rfl) ?_
                  refine lv_iload hx hb dX12_sighting_164 (lv_at hl 2 rfl) ?_
                  refine lv_iconst (v := 1) hx hb dX12_sighting_166 (by decide +kernel) ?_
                  refine lv_iadd hx hb dX12_sighting_167 ?_
                  have t_51 : ((v_ro 5) + 1).toInt = (v_ro 5).toInt + 1 := g5_iadd (a := (v_ro 5).toInt) (b := 1) (by rfl) (by decide +kernel) (by omega) (by omega)
                  refine W.eq (g2 := F0 m 168 ls [.int ((v_ro 5) + 1), .ref b_o]) rfl ?_
                  obtain ⟨hPc, hDc, hFc⟩ := g5_sub3 (wc := [(b_o, (oc12 0 u_sa b_rf b_ro b_im b_ke u_fd b_tp u_td u_fr u_to u_so u_wo u_fa u_bd u_nc b_nl u_co b_op b_ar u_le b_pi b_pa u_pd u_od b_ws b_hw u_la b_se b_re u_bk u_va u_su u_ce u_ho u_wy u_bt u_ps b_pt u_tg u_sn b_ip u_ic b_ah b_be b_me u_wd b_tr b_ld u_st b_wn u_id)), (b_rf, (arI G 7 v_rf))]) hP hD hS hA [0, 1] (by decide +kernel) rfl
                  refine va_calli (va_runV (As := [.int ((v_ro 5) + 1)]) (rest := []) ⟨hx, hb, hml, hown, hts⟩ (n_tell l G b_o b_rf b_ro b_im b_ke b_tp b_nl b_op b_ar b_pi b_pa b_ws b_hw b_se b_re b_pt b_ip b_ah b_be b_me b_tr b_ld b_wn H.size 0 u_sa u_fd u_td u_fr u_to u_so u_fa u_bd u_nc u_co u_le u_pd u_od u_la u_bk u_ce u_ho u_wy u_bt u_ps u_tg u_sn u_ic u_wd u_id ((v_ro 5) + 1) u_wo u_va u_su u_st v_rf h_u_td h_u_fr h_u_to h_u_bd h_u_nc h_u_co h_u_pd h_u_la h_u_bk h_u_ce h_u_ho h_u_wy h_u_bt h_u_ps h_u_ic h_u_id ⟨by omega, by omega⟩) (cwV 1 hts gV_X12_125 rfl rfl rfl hv_X12_tell ⟨Nat.le_of_ble_eq_true rfl, Nat.le_of_ble_eq_true rfl⟩) (g5_preV hPc hK hDc hN hT hS hFc (ci := 12) (q0 := 0) rfl rfl) rfl rfl hl.1 rfl (lv_room (Nat.le_of_ble_eq_true rfl)) dX12_sighting_168 ⟨Nat.le_of_ble_eq_true rfl, Nat.le_of_ble_eq_true rfl⟩) hS (fun q _ h => hFc q h) hFc (fun r u t H locs ht hvm hw hB hz1 hk1 hS => ?_)
                  obtain ⟨hP1, hD1⟩ := hB
                  have hP1 := g5_ht ht hP1
                  obtain ⟨z53, z54, z55, (i_52 : 0 ≤ z54.toInt ∧ z54.toInt ≤ 1), rfl, rfl⟩ := hw
                  have hJ9 := va_join (wr := [(b_ro, (arI G 5740 (upd (upd (upd (upd (upd v_ro (230 + (4 * (v_ro 5))).toNatClampNeg p_1) ((230 + (4 * (v_ro 5))) + 1).toNatClampNeg p_2) ((230 + (4 * (v_ro 5))) + 2).toNatClampNeg p_3) ((230 + (4 * (v_ro 5))) + 3).toNatClampNeg p_4) 5 ((v_ro 5) + 1))))]) hP hD [0, 1] [2] rfl rfl (by decide +kernel) (by decide +kernel) hk1 hFc hP1 hD1
                  clear hP hD hPc hDc hFc ht hvm hz1 hk1 hP1 hD1
                  obtain ⟨hP, hD⟩ := hJ9
                  refine g5_rs [(b_ro, (arI G 5740 (upd (upd (upd (upd (upd v_ro (230 + (4 * (v_ro 5))).toNatClampNeg p_1) ((230 + (4 * (v_ro 5))) + 1).toNatClampNeg p_2) ((230 + (4 * (v_ro 5))) + 2).toNatClampNeg p_3) ((230 + (4 * (v_ro 5))) + 3).toNatClampNeg p_4) 5 ((v_ro 5) + 1)))), (b_o, (oc12 0 z53 b_rf b_ro b_im b_ke u_fd b_tp u_td u_fr u_to u_so u_wo u_fa u_bd u_nc b_nl u_co b_op b_ar u_le b_pi b_pa u_pd u_od b_ws b_hw u_la b_se b_re u_bk u_va u_su u_ce u_ho u_wy u_bt u_ps b_pt u_tg u_sn b_ip z54 b_ah b_be b_me u_wd b_tr b_ld u_st b_wn u_id)), (b_rf, (arI G 7 z55))] hP hD ?_
                  clear hP hD
                  intro hP hD
                  exact W.iret (v := ((v_ro 5) + 1)) hx hb hr (fun t ht hW => ⟨⟨((v_ro 5) + 1), [(b_o, (oc12 0 z53 b_rf b_ro b_im b_ke u_fd b_tp u_td u_fr u_to u_so u_wo u_fa u_bd u_nc b_nl u_co b_op b_ar u_le b_pi b_pa u_pd u_od b_ws b_hw u_la b_se b_re u_bk u_va u_su u_ce u_ho u_wy u_bt u_ps b_pt u_tg u_sn b_ip z54 b_ah b_be b_me u_wd b_tr b_ld u_st b_wn u_id)), (b_rf, (arI G 7 z55)), (b_ro, (arI G 5740 (upd (upd (upd (upd (upd v_ro (230 + (4 * (v_ro 5))).toNatClampNeg p_1) ((230 + (4 * (v_ro 5))) + 1).toNatClampNeg p_2) ((230 + (4 * (v_ro 5))) + 2).toNatClampNeg p_3) ((230 + (4 * (v_ro 5))) + 3).toNatClampNeg p_4) 5 ((v_ro 5) + 1))))], rfl, ⟨((v_ro 5) + 1), 0, z53, z54, z55, (upd (upd (upd (upd (upd v_ro (230 + (4 * (v_ro 5))).toNatClampNeg p_1) ((230 + (4 * (v_ro 5))) + 1).toNatClampNeg p_2) ((230 + (4 * (v_ro 5))) + 2).toNatClampNeg p_3) ((230 + (4 * (v_ro 5))) + 3).toNatClampNeg p_4) 5 ((v_ro 5) + 1)), mi_sight r_ro (by omega) (by omega) (by omega) (by omega) (by omega) (by omega) (by omega) (by omega) (by omega) (by omega) (by have y9 := i_20; rw [show k45_7.toInt = (v_ro 5).toInt by omega] at y9; have m9 : snS (fun j => v_ro (230 + j)) (v_ro 5).toInt (v_ro 5).toInt.toNat ≤ 5 := r_ro.2.1; show snS (fun j => v_ro (230 + j)) (v_ro 5).toInt (v_ro 5).toInt.toNat + p_4.toInt ≤ 5; have q9 : ¬ k45_6.toInt = 5 := n_42; omega), i_52, (sight_0 (f := v_ro) (c := p_1) (w := p_2) (h := p_3) (s := p_4) ⟨i_1, by omega, by omega⟩ ⟨by omega, fun q => n_42 (by have q2 := q.2; have y9 := i_20; rw [show k45_7.toInt = (v_ro 5).toInt by omega] at y9; have y8 : k45_6.toInt = mSN v_ro := y9; omega)⟩).1.symm, (mr4 (f := v_ro) (ci := 5) (B := 230) (n := (v_ro 5).toInt.toNat) (by omega) (by have zz := g5_clamp (230 + (4 * (v_ro 5))); omega) (by have zz := g5_clamp ((230 + (4 * (v_ro 5))) + 1); omega) (by have zz := g5_clamp ((230 + (4 * (v_ro 5))) + 2); omega) (by have zz := g5_clamp ((230 + (4 * (v_ro 5))) + 3); omega)).trans (sight_0 (f := v_ro) (c := p_1) (w := p_2) (h := p_3) (s := p_4) ⟨i_1, by omega, by omega⟩ ⟨by omega, fun q => n_42 (by have q2 := q.2; have y9 := i_20; rw [show k45_7.toInt = (v_ro 5).toInt by omega] at y9; have y8 : k45_6.toInt = mSN v_ro := y9; omega)⟩).2.symm, rfl, rfl⟩, by rw [ht]; exact hP.sub [1, 2, 0] rfl, hD.sub [1, 2, 0] (by decide +kernel) rfl⟩, hS.F ht⟩) hS.2.2 dX12_sighting_171
                ·
                  have i_42 : k45_6.toInt = 5 := g5_neN (a := k45_6.toInt) (b := 5) rfl (by decide +kernel) c_42
                  refine lv_aload_n hx hb dX12_sighting_97 rfl (lv_at hl 3 rfl) ?_
                  refine lv_bipush (v := (-5)) hx hb dX12_sighting_98 (by decide +kernel) ?_
                  obtain ⟨hPc, hDc, hFc⟩ := g5_sub3 (wc := [(b_o, (oc12 0 u_sa b_rf b_ro b_im b_ke u_fd b_tp u_td u_fr u_to u_so u_wo u_fa u_bd u_nc b_nl u_co b_op b_ar u_le b_pi b_pa u_pd u_od b_ws b_hw u_la b_se b_re u_bk u_va u_su u_ce u_ho u_wy u_bt u_ps b_pt u_tg u_sn b_ip u_ic b_ah b_be b_me u_wd b_tr b_ld u_st b_wn u_id)), (b_rf, (arI G 7 v_rf))]) hP hD hS hA [0, 1] (by decide +kernel) rfl
                  refine va_calli (va_runV (As := [.int (-5)]) (rest := []) ⟨hx, hb, hml, hown, hts⟩ (n_tell5 l G b_o b_rf b_ro b_im b_ke b_tp b_nl b_op b_ar b_pi b_pa b_ws b_hw b_se b_re b_pt b_ip b_ah b_be b_me b_tr b_ld b_wn H.size 0 u_sa u_fd u_td u_fr u_to u_so u_fa u_bd u_nc u_co u_le u_pd u_od u_la u_bk u_ce u_ho u_wy u_bt u_ps u_tg u_sn u_ic u_wd u_id u_wo u_va u_su u_st v_rf h_u_td h_u_fr h_u_to h_u_bd h_u_nc h_u_co h_u_pd h_u_la h_u_bk h_u_ce h_u_ho h_u_wy h_u_bt h_u_ps h_u_ic h_u_id) (cwV 1 hts gV_X12_125 rfl rfl rfl hv_X12_tell ⟨Nat.le_of_ble_eq_true rfl, Nat.le_of_ble_eq_true rfl⟩) (g5_preV hPc hK hDc hN hT hS hFc (ci := 12) (q0 := 0) rfl rfl) rfl rfl hl.1 rfl (lv_room (Nat.le_of_ble_eq_true rfl)) dX12_sighting_100 ⟨Nat.le_of_ble_eq_true rfl, Nat.le_of_ble_eq_true rfl⟩) hS (fun q _ h => hFc q h) hFc (fun r u t H locs ht hvm hw hB hz1 hk1 hS => ?_)
                  obtain ⟨hP1, hD1⟩ := hB
                  have hP1 := g5_ht ht hP1
                  obtain ⟨z57, z58, z59, (i_56 : 0 ≤ z58.toInt ∧ z58.toInt ≤ 1), rfl, rfl⟩ := hw
                  have hJ9 := va_join (wr := [(b_ro, (arI G 5740 v_ro))]) hP hD [0, 1] [2] rfl rfl (by decide +kernel) (by decide +kernel) hk1 hFc hP1 hD1
                  clear hP hD hPc hDc hFc ht hvm hz1 hk1 hP1 hD1
                  obtain ⟨hP, hD⟩ := hJ9
                  refine g5_rs [(b_ro, (arI G 5740 v_ro)), (b_o, (oc12 0 z57 b_rf b_ro b_im b_ke u_fd b_tp u_td u_fr u_to u_so u_wo u_fa u_bd u_nc b_nl u_co b_op b_ar u_le b_pi b_pa u_pd u_od b_ws b_hw u_la b_se b_re u_bk u_va u_su u_ce u_ho u_wy u_bt u_ps b_pt u_tg u_sn b_ip z58 b_ah b_be b_me u_wd b_tr b_ld u_st b_wn u_id)), (b_rf, (arI G 7 z59))] hP hD ?_
                  clear hP hD
                  intro hP hD
                  exact W.iret (v := (-5)) hx hb hr (fun t ht hW => ⟨⟨(-5), [(b_o, (oc12 0 z57 b_rf b_ro b_im b_ke u_fd b_tp u_td u_fr u_to u_so u_wo u_fa u_bd u_nc b_nl u_co b_op b_ar u_le b_pi b_pa u_pd u_od b_ws b_hw u_la b_se b_re u_bk u_va u_su u_ce u_ho u_wy u_bt u_ps b_pt u_tg u_sn b_ip z58 b_ah b_be b_me u_wd b_tr b_ld u_st b_wn u_id)), (b_rf, (arI G 7 z59)), (b_ro, (arI G 5740 v_ro))], rfl, ⟨(-5), 0, z57, z58, z59, v_ro, r_ro, i_56, (sight_5 (f := v_ro) (c := p_1) (w := p_2) (h := p_3) (s := p_4) ⟨i_1, by omega, by omega⟩ (fun q => q.2 ⟨by omega, by have y9 := i_20; rw [show k45_7.toInt = (v_ro 5).toInt by omega] at y9; have y8 : k45_6.toInt = mSN v_ro := y9; omega⟩)).1.symm, (sight_5 (f := v_ro) (c := p_1) (w := p_2) (h := p_3) (s := p_4) ⟨i_1, by omega, by omega⟩ (fun q => q.2 ⟨by omega, by have y9 := i_20; rw [show k45_7.toInt = (v_ro 5).toInt by omega] at y9; have y8 : k45_6.toInt = mSN v_ro := y9; omega⟩)).2.symm, rfl, rfl⟩, by rw [ht]; exact hP.sub [1, 2, 0] rfl, hD.sub [1, 2, 0] (by decide +kernel) rfl⟩, hS.F ht⟩) hS.2.2 dX12_sighting_103
          ·
            have i_22 : k45_7.toInt < (v_ro 5).toInt := g5_geN (a := k45_7.toInt) (b := (v_ro 5).toInt) rfl rfl c_22
            refine lv_iload hx hb dX12_sighting_52 (lv_at hl 0 rfl) ?_
            refine lv_aload_n hx hb dX12_sighting_54 rfl (lv_at hl 3 rfl) ?_
            refine va_get (D := G.1) (ci := 12) (v := .ref b_ro) (C := RX12) (T := TX12) (N := 52) hx hb hts inG_X12 hown hK hP 0 rfl rfl 3 (by decide +kernel) (hts _ fl_X12_13) (fun _ h9 => h9) rfl dX12_sighting_55 ?_
            refine lv_sipush (v := 230) hx hb dX12_sighting_58 (by decide +kernel) ?_
            refine W.eq (g2 := F0 m 61 ls [.int 230, .ref b_ro, .int k45_6]) rfl ?_
            refine lv_iconst (v := 4) hx hb dX12_sighting_61 (by decide +kernel) ?_
            refine lv_iload hx hb dX12_sighting_62 (lv_at hl 1 rfl) ?_
            refine lv_imul hx hb dX12_sighting_64 ?_
            have t_60 : (4 * k45_7).toInt = 4 * k45_7.toInt := g5_imul (a := 4) (b := k45_7.toInt) (by decide +kernel) (by rfl) (by omega) (by omega)
            refine lv_iadd hx hb dX12_sighting_65 ?_
            have t_61 : (230 + (4 * k45_7)).toInt = 230 + (4 * k45_7).toInt := g5_iadd (a := 230) (b := (4 * k45_7).toInt) (by decide +kernel) (by rfl) (by omega) (by omega)
            refine lv_iconst (v := 3) hx hb dX12_sighting_66 (by decide +kernel) ?_
            refine W.eq (g2 := F0 m 67 ls [.int 3, .int (230 + (4 * k45_7)), .ref b_ro, .int k45_6]) rfl ?_
            refine lv_iadd hx hb dX12_sighting_67 ?_
            have t_62 : ((230 + (4 * k45_7)) + 3).toInt = (230 + (4 * k45_7)).toInt + 3 := g5_iadd (a := (230 + (4 * k45_7)).toInt) (b := 3) (by rfl) (by decide +kernel) (by omega) (by omega)
            refine va_iald hx hb hK hP 2 0 rfl rfl (i := ((230 + (4 * k45_7)) + 3)) (vp_in_iff.mpr ⟨by omega, by omega⟩) dX12_sighting_68 ?_
            have hv_63 : 0 ≤ (v_ro ((230 + (4 * k45_7)) + 3).toNatClampNeg).toInt ∧ (v_ro ((230 + (4 * k45_7)) + 3).toNatClampNeg).toInt ≤ 1 := mi_230_3 r_ro (by have zz := g5_clamp ((230 + (4 * k45_7)) + 3); omega) (by have zz := g5_clamp ((230 + (4 * k45_7)) + 3); omega) (by have zz := g5_clamp ((230 + (4 * k45_7)) + 3); omega)
            refine lv_iadd hx hb dX12_sighting_69 ?_
            have t_64 : (k45_6 + (v_ro ((230 + (4 * k45_7)) + 3).toNatClampNeg)).toInt = k45_6.toInt + (v_ro ((230 + (4 * k45_7)) + 3).toNatClampNeg).toInt := g5_iadd (a := k45_6.toInt) (b := (v_ro ((230 + (4 * k45_7)) + 3).toNatClampNeg).toInt) (by rfl) (by rfl) (by omega) (by omega)
            refine lv_istore (lv' := [(6, .int (k45_6 + (v_ro ((230 + (4 * k45_7)) + 3).toNatClampNeg))), (7, .int k45_7), (5, .int (v_ro 5)), (0, .ref b_o), (1, .int p_1), (2, .int p_2), (3, .int p_3), (4, .int p_4)]) hx hb dX12_sighting_70 hl (by decide +kernel) rfl ?_
            clear hl
            intro ls hl
            refine lv_iinc (v := (k45_7 + 1)) (lv' := [(7, .int (k45_7 + 1)), (6, .int (k45_6 + (v_ro ((230 + (4 * k45_7)) + 3).toNatClampNeg))), (5, .int (v_ro 5)), (0, .ref b_o), (1, .int p_1), (2, .int p_2), (3, .int p_3), (4, .int p_4)]) hx hb dX12_sighting_72 hl (k := 1) rfl rfl (by decide +kernel) rfl ?_
            clear hl
            intro ls hl
            have t_65 : (k45_7 + 1).toInt = k45_7.toInt + 1 := g5_iadd (a := k45_7.toInt) (b := 1) rfl (by decide +kernel) (by omega) (by omega)
            refine W.eq (g2 := F0 m 75 ls []) rfl ?_
            refine lv_goto (tgt := 45) hx hb dX12_sighting_75 (by decide +kernel) ?_
            exact ih_45_21 ((k45_7 + 1), (k45_6 + (v_ro ((230 + (4 * k45_7)) + 3).toNatClampNeg))) ls H locs (show Int.toNat (10 - (k45_7 + 1).toInt) < Int.toNat (10 - k45_7.toInt) from g_up (show k45_7.toInt < (k45_7 + 1).toInt by omega) (show k45_7.toInt < 10 by omega)) ⟨lv_sub hl [1, 0, 2, 3, 4, 5, 6, 7] rfl, hP, hD, hS, ⟨by omega, by omega⟩, ⟨by omega, by omega⟩, by omega, by omega, h_snS i_20 (m_tget (x := ((230 + (4 * k45_7)) + 3)) (by omega) (by omega)).symm (m_seen r_ro) (by omega) (by omega) (by omega)⟩
        ·
          exact absurd c_14 (by decide +kernel)
  ·
    have hJ9 := g5_same hP hk1
    clear hP hPc hDc hFc ht hvm hz1 hk1 hP1 hD1
    have hP := hJ9
    clear hJ9
    refine lv_if_eq (tgt := 25) hx hb dX12_sighting_11 (by decide +kernel) (fun c_66 => ?_) (fun c_66 => ?_)
    ·
      refine lv_aload_n hx hb dX12_sighting_25 rfl (lv_at hl 0 rfl) ?_
      refine lv_iconst (v := (-1)) hx hb dX12_sighting_26 (by decide +kernel) ?_
      obtain ⟨hPc, hDc, hFc⟩ := g5_sub3 (wc := [(b_o, (oc12 0 u_sa b_rf b_ro b_im b_ke u_fd b_tp u_td u_fr u_to u_so u_wo u_fa u_bd u_nc b_nl u_co b_op b_ar u_le b_pi b_pa u_pd u_od b_ws b_hw u_la b_se b_re u_bk u_va u_su u_ce u_ho u_wy u_bt u_ps b_pt u_tg u_sn b_ip u_ic b_ah b_be b_me u_wd b_tr b_ld u_st b_wn u_id)), (b_rf, (arI G 7 v_rf))]) hP hD hS hA [0, 1] (by decide +kernel) rfl
      refine va_calli (va_runV (As := [.int (-1)]) (rest := []) ⟨hx, hb, hml, hown, hts⟩ (n_tell1 l G b_o b_rf b_ro b_im b_ke b_tp b_nl b_op b_ar b_pi b_pa b_ws b_hw b_se b_re b_pt b_ip b_ah b_be b_me b_tr b_ld b_wn H.size 0 u_sa u_fd u_td u_fr u_to u_so u_fa u_bd u_nc u_co u_le u_pd u_od u_la u_bk u_ce u_ho u_wy u_bt u_ps u_tg u_sn u_ic u_wd u_id u_wo u_va u_su u_st v_rf h_u_td h_u_fr h_u_to h_u_bd h_u_nc h_u_co h_u_pd h_u_la h_u_bk h_u_ce h_u_ho h_u_wy h_u_bt h_u_ps h_u_ic h_u_id) (cwV 1 hts gV_X12_125 rfl rfl rfl hv_X12_tell ⟨Nat.le_of_ble_eq_true rfl, Nat.le_of_ble_eq_true rfl⟩) (g5_preV hPc hK hDc hN hT hS hFc (ci := 12) (q0 := 0) rfl rfl) rfl rfl hl.1 rfl (lv_room (Nat.le_of_ble_eq_true rfl)) dX12_sighting_27 ⟨Nat.le_of_ble_eq_true rfl, Nat.le_of_ble_eq_true rfl⟩) hS (fun q _ h => hFc q h) hFc (fun r u t H locs ht hvm hw hB hz1 hk1 hS => ?_)
      obtain ⟨hP1, hD1⟩ := hB
      have hP1 := g5_ht ht hP1
      obtain ⟨z68, z69, z70, (i_67 : 0 ≤ z69.toInt ∧ z69.toInt ≤ 1), rfl, rfl⟩ := hw
      have hJ9 := va_join (wr := [(b_ro, (arI G 5740 v_ro))]) hP hD [0, 1] [2] rfl rfl (by decide +kernel) (by decide +kernel) hk1 hFc hP1 hD1
      clear hP hD hPc hDc hFc ht hvm hz1 hk1 hP1 hD1
      obtain ⟨hP, hD⟩ := hJ9
      refine g5_rs [(b_ro, (arI G 5740 v_ro)), (b_o, (oc12 0 z68 b_rf b_ro b_im b_ke u_fd b_tp u_td u_fr u_to u_so u_wo u_fa u_bd u_nc b_nl u_co b_op b_ar u_le b_pi b_pa u_pd u_od b_ws b_hw u_la b_se b_re u_bk u_va u_su u_ce u_ho u_wy u_bt u_ps b_pt u_tg u_sn b_ip z69 b_ah b_be b_me u_wd b_tr b_ld u_st b_wn u_id)), (b_rf, (arI G 7 z70))] hP hD ?_
      clear hP hD
      intro hP hD
      exact W.iret (v := (-1)) hx hb hr (fun t ht hW => ⟨⟨(-1), [(b_o, (oc12 0 z68 b_rf b_ro b_im b_ke u_fd b_tp u_td u_fr u_to u_so u_wo u_fa u_bd u_nc b_nl u_co b_op b_ar u_le b_pi b_pa u_pd u_od b_ws b_hw u_la b_se b_re u_bk u_va u_su u_ce u_ho u_wy u_bt u_ps b_pt u_tg u_sn b_ip z69 b_ah b_be b_me u_wd b_tr b_ld u_st b_wn u_id)), (b_rf, (arI G 7 z70)), (b_ro, (arI G 5740 v_ro))], rfl, ⟨(-1), 0, z68, z69, z70, v_ro, r_ro, i_67, (sight_1 (f := v_ro) (c := p_1) (w := p_2) (h := p_3) (s := p_4) (fun q => i_5 q.1)).1.symm, (sight_1 (f := v_ro) (c := p_1) (w := p_2) (h := p_3) (s := p_4) (fun q => i_5 q.1)).2.symm, rfl, rfl⟩, by rw [ht]; exact hP.sub [1, 2, 0] rfl, hD.sub [1, 2, 0] (by decide +kernel) rfl⟩, hS.F ht⟩) hS.2.2 dX12_sighting_30
    ·
      exact absurd c_66 (by decide +kernel)
set_option maxHeartbeats 4000000 in
set_option maxRecDepth 100000 in
theorem n_dropE (l : Launch) (G : g5_G) (b_o b_rf b_ro b_im b_ke b_tp b_nl b_op b_ar b_pi b_pa b_ws b_hw b_se b_re b_pt b_ip b_ah b_be b_me b_tr b_ld b_wn : Nat) (sz : Nat) (u_th : Int32) (u_sa : Int32) (u_fd : Int32) (u_td : Int32) (u_fr : Int32) (u_to : Int32) (u_so : Int32) (u_fa : Int32) (u_bd : Int32) (u_nc : Int32) (u_co : Int32) (u_le : Int32) (u_pd : Int32) (u_od : Int32) (u_la : Int32) (u_bk : Int32) (u_ce : Int32) (u_ho : Int32) (u_wy : Int32) (u_bt : Int32) (u_ps : Int32) (u_tg : Int32) (u_sn : Int32) (u_ic : Int32) (u_wd : Int32) (u_id : Int32) (p_1 : Int32) (u_wo : Int64) (u_va : Int64) (u_su : Int64) (u_st : Int64) (v_rf : Nat → Int32) (v_ro : Nat → Int32) (h_u_td : 0 ≤ u_td.toInt ∧ u_td.toInt ≤ 400) (h_u_fr : 0 ≤ u_fr.toInt ∧ u_fr.toInt ≤ 400) (h_u_to : 0 ≤ u_to.toInt ∧ u_to.toInt ≤ 400) (h_u_bd : 0 ≤ u_bd.toInt ∧ u_bd.toInt ≤ 1) (h_u_nc : 0 ≤ u_nc.toInt ∧ u_nc.toInt ≤ 12) (h_u_co : 0 ≤ u_co.toInt ∧ u_co.toInt ≤ 400) (h_u_pd : 0 ≤ u_pd.toInt ∧ u_pd.toInt ≤ 400) (h_u_la : 0 ≤ u_la.toInt ∧ u_la.toInt ≤ 4840) (h_u_bk : 0 ≤ u_bk.toInt ∧ u_bk.toInt ≤ 1) (h_u_ce : 0 ≤ u_ce.toInt ∧ u_ce.toInt ≤ 63) (h_u_ho : 0 ≤ u_ho.toInt ∧ u_ho.toInt ≤ 23) (h_u_wy : 0 ≤ u_wy.toInt ∧ u_wy.toInt ≤ 3) (h_u_bt : 0 ≤ u_bt.toInt ∧ u_bt.toInt ≤ 1000000) (h_u_ps : 0 ≤ u_ps.toInt ∧ u_ps.toInt ≤ 200) (h_u_ic : 0 ≤ u_ic.toInt ∧ u_ic.toInt ≤ 1) (h_u_id : 0 ≤ u_id.toInt ∧ u_id.toInt ≤ 1) (r_ro : MI v_ro) : Met l yX12_drop (wsG yX12_drop cX12_drop 3 (some .int)) ({ frames := 1, cells := 0, slots := 0, locals := 25 }) (va_Pc [.ref b_o, .int p_1] (g5_P G [(b_o, (oc12 u_th u_sa b_rf b_ro b_im b_ke u_fd b_tp u_td u_fr u_to u_so u_wo u_fa u_bd u_nc b_nl u_co b_op b_ar u_le b_pi b_pa u_pd u_od b_ws b_hw u_la b_se b_re u_bk u_va u_su u_ce u_ho u_wy u_bt u_ps b_pt u_tg u_sn b_ip u_ic b_ah b_be b_me u_wd b_tr b_ld u_st b_wn u_id)), (b_rf, (arI G 7 v_rf)), (b_ro, (arI G 5740 v_ro))] sz)) (va_Qi (fun (r : Int32) (u : va_W) => (∃ (o_r : Int32) (o_th : Int32) (o_sa : Int32) (o_ic : Int32) (o_rf : Nat → Int32) (o_ro : Nat → Int32), (0 ≤ o_ic.toInt ∧ o_ic.toInt ≤ 1) ∧ (MI o_ro) ∧ (o_r = adrop v_ro p_1) ∧ (o_ro = sdrop v_ro p_1) ∧ (r = o_r) ∧ (u = [(b_o, (oc12 o_th o_sa b_rf b_ro b_im b_ke u_fd b_tp u_td u_fr u_to u_so u_wo u_fa u_bd u_nc b_nl u_co b_op b_ar u_le b_pi b_pa u_pd u_od b_ws b_hw u_la b_se b_re u_bk u_va u_su u_ce u_ho u_wy u_bt u_ps b_pt u_tg u_sn b_ip o_ic b_ah b_be b_me u_wd b_tr b_ld u_st b_wn u_id)), (b_rf, (arI G 7 o_rf)), (b_ro, (arI G 5740 o_ro))]))) (g5_B G (va_A [(b_o, (oc12 u_th u_sa b_rf b_ro b_im b_ke u_fd b_tp u_td u_fr u_to u_so u_wo u_fa u_bd u_nc b_nl u_co b_op b_ar u_le b_pi b_pa u_pd u_od b_ws b_hw u_la b_se b_re u_bk u_va u_su u_ce u_ho u_wy u_bt u_ps b_pt u_tg u_sn b_ip u_ic b_ah b_be b_me u_wd b_tr b_ld u_st b_wn u_id)), (b_rf, (arI G 7 v_rf)), (b_ro, (arI G 5740 v_ro))] sz)) (va_A [(b_o, (oc12 u_th u_sa b_rf b_ro b_im b_ke u_fd b_tp u_td u_fr u_to u_so u_wo u_fa u_bd u_nc b_nl u_co b_op b_ar u_le b_pi b_pa u_pd u_od b_ws b_hw u_la b_se b_re u_bk u_va u_su u_ce u_ho u_wy u_bt u_ps b_pt u_tg u_sn b_ip u_ic b_ah b_be b_me u_wd b_tr b_ld u_st b_wn u_id)), (b_rf, (arI G 7 v_rf)), (b_ro, (arI G 5740 v_ro))] sz)) 0 0 (va_A [(b_o, (oc12 u_th u_sa b_rf b_ro b_im b_ke u_fd b_tp u_td u_fr u_to u_so u_wo u_fa u_bd u_nc b_nl u_co b_op b_ar u_le b_pi b_pa u_pd u_od b_ws b_hw u_la b_se b_re u_bk u_va u_su u_ce u_ho u_wy u_bt u_ps b_pt u_tg u_sn b_ip u_ic b_ah b_be b_me u_wd b_tr b_ld u_st b_wn u_id)), (b_rf, (arI G 7 v_rf)), (b_ro, (arI G 5740 v_ro))] sz) := by
  refine Met.ofW (cc := cX12_drop) (maxL := 3) (ret := (some .int)) (by decide +kernel) rfl ?_
  intro p e s m args below meth c s₁ B hml hv
  obtain ⟨rfl, hsz, hP, hK, hD0, hN, hT⟩ := hv
  have hx := B.exec
  have hb := B.bytes
  have hr := B.returns
  have hts : ∀ w ∈ tblG, w.before _ s = true := fun w h => atoms_spec (ws := (wsG yX12_drop cX12_drop 3 (some .int))) B.pre w (List.mem_cons_of_mem _ h)
  have hown : s.vm.findClass RX12 = some m.cls := findClass_of_methodNamed B.named
  have hlocks := B.notSynchronized
  subst hsz
  have hD := hD0.self (sz := s.heap.size)
  generalize hAe : va_A [(b_o, (oc12 u_th u_sa b_rf b_ro b_im b_ke u_fd b_tp u_td u_fr u_to u_so u_wo u_fa u_bd u_nc b_nl u_co b_op b_ar u_le b_pi b_pa u_pd u_od b_ws b_hw u_la b_se b_re u_bk u_va u_su u_ce u_ho u_wy u_bt u_ps b_pt u_tg u_sn b_ip u_ic b_ah b_be b_me u_wd b_tr b_ld u_st b_wn u_id)), (b_rf, (arI G 7 v_rf)), (b_ro, (arI G 5740 v_ro))] s.heap.size = A at hD hT ⊢
  have hA : ∀ q : Nat, s.heap.size ≤ q → A q := fun q h => by rw [← hAe]; exact Or.inr h
  have hS : va_S A s.heap s.heap [] := va_S.rf
  replace hP : va_P G.1 vwCl [(b_o, (oc12 u_th u_sa b_rf b_ro b_im b_ke u_fd b_tp u_td u_fr u_to u_so u_wo u_fa u_bd u_nc b_nl u_co b_op b_ar u_le b_pi b_pa u_pd u_od b_ws b_hw u_la b_se b_re u_bk u_va u_su u_ce u_ho u_wy u_bt u_ps b_pt u_tg u_sn b_ip u_ic b_ah b_be b_me u_wd b_tr b_ld u_st b_wn u_id)), (b_rf, (arI G 7 v_rf)), (b_ro, (arI G 5740 v_ro))] s.heap := hP
  have hl := lv_entry ([.ref b_o, .int p_1]) (n := 3) (Nat.le_of_ble_eq_true rfl)
  rw [lg_entry_eq]
  generalize (lg_sl ([.ref b_o, .int p_1]) ++ List.replicate (3 - (lg_sl ([.ref b_o, .int p_1])).length) Slot.unset).toArray = ls at hl ⊢
  replace hl : lv_has ls 3 [(0, .ref b_o), (1, .int p_1)] := hl
  refine lv_aload_n hx hb dX12_drop_0 rfl (lv_at hl 0 rfl) ?_
  refine lv_iconst (v := 0) hx hb dX12_drop_1 (by decide +kernel) ?_
  refine va_put (D := G.1) (ci := 12) (v := .int 0) (ty := .int) (C := RX12) (T := TX12) (N := 52) hx hb hts inG_X12 tyX12 tyX12_ok nmX12 hown hK hP hD hS 0 rfl rfl 0 (by decide +kernel) (hts _ fl_X12_107) (fun _ h9 => h9) rfl (by decide +kernel) rfl rfl (Nat.le_of_ble_eq_true rfl) dX12_drop_2 ?_
  clear hP hD hS
  intro H locs hP hD hS
  refine g5_rs [(b_o, (oc12 0 u_sa b_rf b_ro b_im b_ke u_fd b_tp u_td u_fr u_to u_so u_wo u_fa u_bd u_nc b_nl u_co b_op b_ar u_le b_pi b_pa u_pd u_od b_ws b_hw u_la b_se b_re u_bk u_va u_su u_ce u_ho u_wy u_bt u_ps b_pt u_tg u_sn b_ip u_ic b_ah b_be b_me u_wd b_tr b_ld u_st b_wn u_id)), (b_rf, (arI G 7 v_rf)), (b_ro, (arI G 5740 v_ro))] hP hD ?_
  clear hP hD
  intro hP hD
  refine lv_iload_n hx hb dX12_drop_5 rfl (lv_at hl 1 rfl) ?_
  refine W.eq (g2 := F0 m 6 ls [.int p_1]) rfl ?_
  refine lv_i2l (v := p_1.toInt64) hx hb dX12_drop_6 rfl ?_
  refine lv_lconst (v := 0) hx hb dX12_drop_7 (by decide +kernel) ?_
  refine lv_aload_n hx hb dX12_drop_8 rfl (lv_at hl 0 rfl) ?_
  refine va_get (D := G.1) (ci := 12) (v := .ref b_ro) (C := RX12) (T := TX12) (N := 52) hx hb hts inG_X12 hown hK hP 0 rfl rfl 3 (by decide +kernel) (hts _ fl_X12_13) (fun _ h9 => h9) rfl dX12_drop_9 ?_
  refine lv_iconst (v := 5) hx hb dX12_drop_12 (by decide +kernel) ?_
  refine W.eq (g2 := F0 m 13 ls [.int 5, .ref b_ro, .long 0, .long p_1.toInt64]) rfl ?_
  refine va_iald hx hb hK hP 2 0 rfl rfl (i := 5) (by unfold vp_in; decide) dX12_drop_13 ?_
  refine g5_ti (v := (v_ro 5)) rfl ?_
  have hr_1 : 0 ≤ (v_ro 5).toInt ∧ (v_ro 5).toInt ≤ 10 := mi_5 r_ro
  refine lv_i2l (v := (v_ro 5).toInt64) hx hb dX12_drop_14 rfl ?_
  refine lv_lconst (v := 1) hx hb dX12_drop_15 (by decide +kernel) ?_
  refine lv_lsub hx hb dX12_drop_16 ?_
  obtain ⟨hPc, hDc, hFc⟩ := g5_sub3 (wc := []) hP hD hS hA [] (by decide +kernel) rfl
  refine va_calli (va_runS (As := [.long p_1.toInt64, .long 0, .long (((v_ro 5).toInt64) - 1)]) (rest := []) ⟨hx, hb, hml, hown, hts⟩ (n_in_n l G H.size p_1 (v_ro 5) ⟨by omega, by omega⟩) (va_cwS 3 hts gS_X12_121 rfl rfl rfl hs_X12_in ⟨Nat.le_of_ble_eq_true rfl, Nat.le_of_ble_eq_true rfl⟩) (g5_preS hPc hK hDc hN hT hS hFc) rfl rfl hl.1 rfl (lv_room (Nat.le_of_ble_eq_true rfl)) dX12_drop_17 ⟨Nat.le_of_ble_eq_true rfl, Nat.le_of_ble_eq_true rfl⟩) hS (fun q _ h => hFc q h) hFc (fun r u t H locs ht hvm hw hB hz1 hk1 hS => ?_)
  obtain ⟨hP1, hD1⟩ := hB
  have hP1 := g5_ht ht hP1
  rcases hw with ⟨(i_2 : p_1.toInt < 0 ∨ (v_ro 5).toInt ≤ p_1.toInt), rfl, rfl⟩ | ⟨(i_3 : 0 ≤ p_1.toInt ∧ p_1.toInt < (v_ro 5).toInt), rfl, rfl⟩
  ·
    have hJ9 := g5_same hP hk1
    clear hP hPc hDc hFc ht hvm hz1 hk1 hP1 hD1
    have hP := hJ9
    clear hJ9
    refine lv_if_ne (tgt := 30) hx hb dX12_drop_20 (by decide +kernel) (fun c_4 => ?_) (fun c_4 => ?_)
    ·
      exact absurd c_4 (by decide +kernel)
    ·
      refine lv_aload_n hx hb dX12_drop_23 rfl (lv_at hl 0 rfl) ?_
      refine lv_bipush (v := (-2)) hx hb dX12_drop_24 (by decide +kernel) ?_
      obtain ⟨hPc, hDc, hFc⟩ := g5_sub3 (wc := [(b_o, (oc12 0 u_sa b_rf b_ro b_im b_ke u_fd b_tp u_td u_fr u_to u_so u_wo u_fa u_bd u_nc b_nl u_co b_op b_ar u_le b_pi b_pa u_pd u_od b_ws b_hw u_la b_se b_re u_bk u_va u_su u_ce u_ho u_wy u_bt u_ps b_pt u_tg u_sn b_ip u_ic b_ah b_be b_me u_wd b_tr b_ld u_st b_wn u_id)), (b_rf, (arI G 7 v_rf))]) hP hD hS hA [0, 1] (by decide +kernel) rfl
      refine va_calli (va_runV (As := [.int (-2)]) (rest := []) ⟨hx, hb, hml, hown, hts⟩ (n_tell2 l G b_o b_rf b_ro b_im b_ke b_tp b_nl b_op b_ar b_pi b_pa b_ws b_hw b_se b_re b_pt b_ip b_ah b_be b_me b_tr b_ld b_wn H.size 0 u_sa u_fd u_td u_fr u_to u_so u_fa u_bd u_nc u_co u_le u_pd u_od u_la u_bk u_ce u_ho u_wy u_bt u_ps u_tg u_sn u_ic u_wd u_id u_wo u_va u_su u_st v_rf h_u_td h_u_fr h_u_to h_u_bd h_u_nc h_u_co h_u_pd h_u_la h_u_bk h_u_ce h_u_ho h_u_wy h_u_bt h_u_ps h_u_ic h_u_id) (cwV 1 hts gV_X12_125 rfl rfl rfl hv_X12_tell ⟨Nat.le_of_ble_eq_true rfl, Nat.le_of_ble_eq_true rfl⟩) (g5_preV hPc hK hDc hN hT hS hFc (ci := 12) (q0 := 0) rfl rfl) rfl rfl hl.1 rfl (lv_room (Nat.le_of_ble_eq_true rfl)) dX12_drop_26 ⟨Nat.le_of_ble_eq_true rfl, Nat.le_of_ble_eq_true rfl⟩) hS (fun q _ h => hFc q h) hFc (fun r u t H locs ht hvm hw hB hz1 hk1 hS => ?_)
      obtain ⟨hP1, hD1⟩ := hB
      have hP1 := g5_ht ht hP1
      obtain ⟨z6, z7, z8, (i_5 : 0 ≤ z7.toInt ∧ z7.toInt ≤ 1), rfl, rfl⟩ := hw
      have hJ9 := va_join (wr := [(b_ro, (arI G 5740 v_ro))]) hP hD [0, 1] [2] rfl rfl (by decide +kernel) (by decide +kernel) hk1 hFc hP1 hD1
      clear hP hD hPc hDc hFc ht hvm hz1 hk1 hP1 hD1
      obtain ⟨hP, hD⟩ := hJ9
      refine g5_rs [(b_ro, (arI G 5740 v_ro)), (b_o, (oc12 0 z6 b_rf b_ro b_im b_ke u_fd b_tp u_td u_fr u_to u_so u_wo u_fa u_bd u_nc b_nl u_co b_op b_ar u_le b_pi b_pa u_pd u_od b_ws b_hw u_la b_se b_re u_bk u_va u_su u_ce u_ho u_wy u_bt u_ps b_pt u_tg u_sn b_ip z7 b_ah b_be b_me u_wd b_tr b_ld u_st b_wn u_id)), (b_rf, (arI G 7 z8))] hP hD ?_
      clear hP hD
      intro hP hD
      exact W.iret (v := (-2)) hx hb hr (fun t ht hW => ⟨⟨(-2), [(b_o, (oc12 0 z6 b_rf b_ro b_im b_ke u_fd b_tp u_td u_fr u_to u_so u_wo u_fa u_bd u_nc b_nl u_co b_op b_ar u_le b_pi b_pa u_pd u_od b_ws b_hw u_la b_se b_re u_bk u_va u_su u_ce u_ho u_wy u_bt u_ps b_pt u_tg u_sn b_ip z7 b_ah b_be b_me u_wd b_tr b_ld u_st b_wn u_id)), (b_rf, (arI G 7 z8)), (b_ro, (arI G 5740 v_ro))], rfl, ⟨(-2), 0, z6, z7, z8, v_ro, i_5, r_ro, (drop_2 (f := v_ro) (i := p_1) (by unfold isI; omega)).1.symm, (drop_2 (f := v_ro) (i := p_1) (by unfold isI; omega)).2.symm, rfl, rfl⟩, by rw [ht]; exact hP.sub [1, 2, 0] rfl, hD.sub [1, 2, 0] (by decide +kernel) rfl⟩, hS.F ht⟩) hS.2.2 dX12_drop_29
  ·
    have hJ9 := g5_same hP hk1
    clear hP hPc hDc hFc ht hvm hz1 hk1 hP1 hD1
    have hP := hJ9
    clear hJ9
    refine lv_if_ne (tgt := 30) hx hb dX12_drop_20 (by decide +kernel) (fun c_9 => ?_) (fun c_9 => ?_)
    ·
      refine lv_sipush (v := 230) hx hb dX12_drop_30 (by decide +kernel) ?_
      refine lv_iconst (v := 4) hx hb dX12_drop_33 (by decide +kernel) ?_
      refine lv_iload_n hx hb dX12_drop_34 rfl (lv_at hl 1 rfl) ?_
      refine lv_imul hx hb dX12_drop_35 ?_
      have t_10 : (4 * p_1).toInt = 4 * p_1.toInt := g5_imul (a := 4) (b := p_1.toInt) (by decide +kernel) (by rfl) (by omega) (by omega)
      refine W.eq (g2 := F0 m 36 ls [.int (4 * p_1), .int 230]) rfl ?_
      refine lv_iadd hx hb dX12_drop_36 ?_
      have t_11 : (230 + (4 * p_1)).toInt = 230 + (4 * p_1).toInt := g5_iadd (a := 230) (b := (4 * p_1).toInt) (by decide +kernel) (by rfl) (by omega) (by omega)
      refine lv_istore_n (lv' := [(2, .int (230 + (4 * p_1))), (0, .ref b_o), (1, .int p_1)]) hx hb dX12_drop_37 rfl hl (by decide +kernel) rfl ?_
      clear hl
      intro ls hl
      refine g5_loop (α := (Int32) × (Nat → Int32)) (fun (q : (Int32) × (Nat → Int32)) (ls : Array Slot) (H : Heap) (locs : List Loc) => match q with | (k38_2, k38_ro) => lv_has ls 3 [(2, .int k38_2), (0, .ref b_o), (1, .int p_1)] ∧ va_P G.1 vwCl [(b_o, (oc12 0 u_sa b_rf b_ro b_im b_ke u_fd b_tp u_td u_fr u_to u_so u_wo u_fa u_bd u_nc b_nl u_co b_op b_ar u_le b_pi b_pa u_pd u_od b_ws b_hw u_la b_se b_re u_bk u_va u_su u_ce u_ho u_wy u_bt u_ps b_pt u_tg u_sn b_ip u_ic b_ah b_be b_me u_wd b_tr b_ld u_st b_wn u_id)), (b_rf, (arI G 7 v_rf)), (b_ro, (arI G 5740 k38_ro))] H ∧ va_D A [(b_o, (oc12 0 u_sa b_rf b_ro b_im b_ke u_fd b_tp u_td u_fr u_to u_so u_wo u_fa u_bd u_nc b_nl u_co b_op b_ar u_le b_pi b_pa u_pd u_od b_ws b_hw u_la b_se b_re u_bk u_va u_su u_ce u_ho u_wy u_bt u_ps b_pt u_tg u_sn b_ip u_ic b_ah b_be b_me u_wd b_tr b_ld u_st b_wn u_id)), (b_rf, (arI G 7 v_rf)), (b_ro, (arI G 5740 k38_ro))] ∧ va_S A s.heap H locs ∧ (230 ≤ k38_2.toInt ∧ k38_2.toInt ≤ 266) ∧ (230 + 4 * p_1.toInt ≤ k38_2.toInt) ∧ (k38_ro = mshf v_ro p_1.toInt k38_2.toInt)) (fun (q : (Int32) × (Nat → Int32)) => match q with | (k38_2, k38_ro) => Int.toNat (266 - k38_2.toInt)) ((230 + (4 * p_1)), v_ro) ⟨lv_sub hl [0, 1, 2] rfl, hP, hD, hS, ⟨by omega, by omega⟩, by omega, sh_0 (by omega)⟩ ?_
      rintro ⟨k38_2, k38_ro⟩ ls H locs ⟨hl, hP, hD, hS, (i_12 : 230 ≤ k38_2.toInt ∧ k38_2.toInt ≤ 266), (i_13 : 230 + 4 * p_1.toInt ≤ k38_2.toInt), (i_14 : k38_ro = mshf v_ro p_1.toInt k38_2.toInt)⟩ ih_38_15
      replace hl : lv_has ls 3 [(2, .int k38_2), (0, .ref b_o), (1, .int p_1)] := hl
      refine g5_rs [(b_o, (oc12 0 u_sa b_rf b_ro b_im b_ke u_fd b_tp u_td u_fr u_to u_so u_wo u_fa u_bd u_nc b_nl u_co b_op b_ar u_le b_pi b_pa u_pd u_od b_ws b_hw u_la b_se b_re u_bk u_va u_su u_ce u_ho u_wy u_bt u_ps b_pt u_tg u_sn b_ip u_ic b_ah b_be b_me u_wd b_tr b_ld u_st b_wn u_id)), (b_rf, (arI G 7 v_rf)), (b_ro, (arI G 5740 k38_ro))] hP hD ?_
      clear hP hD
      intro hP hD
      refine lv_iload_n hx hb dX12_drop_38 rfl (lv_at hl 0 rfl) ?_
      refine lv_sipush (v := 266) hx hb dX12_drop_39 (by decide +kernel) ?_
      refine lv_icmp_ge (tgt := 65) hx hb dX12_drop_42 (by decide +kernel) (fun c_16 => ?_) (fun c_16 => ?_)
      ·
        have i_16 : k38_2.toInt ≥ 266 := g5_ge (a := k38_2.toInt) (b := 266) rfl (by decide +kernel) c_16
        refine lv_aload_n hx hb dX12_drop_65 rfl (lv_at hl 1 rfl) ?_
        refine va_get (D := G.1) (ci := 12) (v := .ref b_ro) (C := RX12) (T := TX12) (N := 52) hx hb hts inG_X12 hown hK hP 0 rfl rfl 3 (by decide +kernel) (hts _ fl_X12_13) (fun _ h9 => h9) rfl dX12_drop_66 ?_
        refine lv_iconst (v := 5) hx hb dX12_drop_69 (by decide +kernel) ?_
        refine lv_dup2_11 hx hb dX12_drop_70 rfl rfl ?_
        refine W.eq (g2 := F0 m 71 ls [.int 5, .ref b_ro, .int 5, .ref b_ro]) rfl ?_
        refine va_iald hx hb hK hP 2 0 rfl rfl (i := 5) (by unfold vp_in; decide) dX12_drop_71 ?_
        refine g5_ti (v := (k38_ro 5)) rfl ?_
        have h59_17 : (k38_ro 5) = (v_ro 5) := by rw [i_14]; unfold mshf; rw [if_neg (by omega)]
        refine g5_ti (v := (v_ro 5)) h59_17 ?_
        refine lv_iconst (v := 1) hx hb dX12_drop_72 (by decide +kernel) ?_
        refine lv_isub hx hb dX12_drop_73 ?_
        have t_18 : ((v_ro 5) - 1).toInt = (v_ro 5).toInt - 1 := g5_isub (a := (v_ro 5).toInt) (b := 1) (by rfl) (by decide +kernel) (by omega) (by omega)
        refine va_iast hx hb hK hP hD hS 2 0 rfl rfl (i := 5) (x := ((v_ro 5) - 1)) (by unfold vp_in; decide) dX12_drop_74 ?_
        clear hP hD hS
        intro H locs hP hD hS
        refine g5_rs [(b_o, (oc12 0 u_sa b_rf b_ro b_im b_ke u_fd b_tp u_td u_fr u_to u_so u_wo u_fa u_bd u_nc b_nl u_co b_op b_ar u_le b_pi b_pa u_pd u_od b_ws b_hw u_la b_se b_re u_bk u_va u_su u_ce u_ho u_wy u_bt u_ps b_pt u_tg u_sn b_ip u_ic b_ah b_be b_me u_wd b_tr b_ld u_st b_wn u_id)), (b_rf, (arI G 7 v_rf)), (b_ro, (arI G 5740 (upd k38_ro 5 ((v_ro 5) - 1))))] hP hD ?_
        clear hP hD
        intro hP hD
        refine lv_aload_n hx hb dX12_drop_75 rfl (lv_at hl 1 rfl) ?_
        refine W.eq (g2 := F0 m 76 ls [.ref b_o]) rfl ?_
        refine lv_aload_n hx hb dX12_drop_76 rfl (lv_at hl 1 rfl) ?_
        refine va_get (D := G.1) (ci := 12) (v := .ref b_ro) (C := RX12) (T := TX12) (N := 52) hx hb hts inG_X12 hown hK hP 0 rfl rfl 3 (by decide +kernel) (hts _ fl_X12_13) (fun _ h9 => h9) rfl dX12_drop_77 ?_
        refine lv_iconst (v := 5) hx hb dX12_drop_80 (by decide +kernel) ?_
        refine va_iald hx hb hK hP 2 0 rfl rfl (i := 5) (by unfold vp_in; decide) dX12_drop_81 ?_
        refine g5_ti (v := ((v_ro 5) - 1)) rfl ?_
        obtain ⟨hPc, hDc, hFc⟩ := g5_sub3 (wc := [(b_o, (oc12 0 u_sa b_rf b_ro b_im b_ke u_fd b_tp u_td u_fr u_to u_so u_wo u_fa u_bd u_nc b_nl u_co b_op b_ar u_le b_pi b_pa u_pd u_od b_ws b_hw u_la b_se b_re u_bk u_va u_su u_ce u_ho u_wy u_bt u_ps b_pt u_tg u_sn b_ip u_ic b_ah b_be b_me u_wd b_tr b_ld u_st b_wn u_id)), (b_rf, (arI G 7 v_rf))]) hP hD hS hA [0, 1] (by decide +kernel) rfl
        refine va_calli (va_runV (As := [.int ((v_ro 5) - 1)]) (rest := []) ⟨hx, hb, hml, hown, hts⟩ (n_tell l G b_o b_rf b_ro b_im b_ke b_tp b_nl b_op b_ar b_pi b_pa b_ws b_hw b_se b_re b_pt b_ip b_ah b_be b_me b_tr b_ld b_wn H.size 0 u_sa u_fd u_td u_fr u_to u_so u_fa u_bd u_nc u_co u_le u_pd u_od u_la u_bk u_ce u_ho u_wy u_bt u_ps u_tg u_sn u_ic u_wd u_id ((v_ro 5) - 1) u_wo u_va u_su u_st v_rf h_u_td h_u_fr h_u_to h_u_bd h_u_nc h_u_co h_u_pd h_u_la h_u_bk h_u_ce h_u_ho h_u_wy h_u_bt h_u_ps h_u_ic h_u_id ⟨by omega, by omega⟩) (cwV 1 hts gV_X12_125 rfl rfl rfl hv_X12_tell ⟨Nat.le_of_ble_eq_true rfl, Nat.le_of_ble_eq_true rfl⟩) (g5_preV hPc hK hDc hN hT hS hFc (ci := 12) (q0 := 0) rfl rfl) rfl rfl hl.1 rfl (lv_room (Nat.le_of_ble_eq_true rfl)) dX12_drop_82 ⟨Nat.le_of_ble_eq_true rfl, Nat.le_of_ble_eq_true rfl⟩) hS (fun q _ h => hFc q h) hFc (fun r u t H locs ht hvm hw hB hz1 hk1 hS => ?_)
        obtain ⟨hP1, hD1⟩ := hB
        have hP1 := g5_ht ht hP1
        obtain ⟨z20, z21, z22, (i_19 : 0 ≤ z21.toInt ∧ z21.toInt ≤ 1), rfl, rfl⟩ := hw
        have hJ9 := va_join (wr := [(b_ro, (arI G 5740 (upd k38_ro 5 ((v_ro 5) - 1))))]) hP hD [0, 1] [2] rfl rfl (by decide +kernel) (by decide +kernel) hk1 hFc hP1 hD1
        clear hP hD hPc hDc hFc ht hvm hz1 hk1 hP1 hD1
        obtain ⟨hP, hD⟩ := hJ9
        refine g5_rs [(b_ro, (arI G 5740 (upd k38_ro 5 ((v_ro 5) - 1)))), (b_o, (oc12 0 z20 b_rf b_ro b_im b_ke u_fd b_tp u_td u_fr u_to u_so u_wo u_fa u_bd u_nc b_nl u_co b_op b_ar u_le b_pi b_pa u_pd u_od b_ws b_hw u_la b_se b_re u_bk u_va u_su u_ce u_ho u_wy u_bt u_ps b_pt u_tg u_sn b_ip z21 b_ah b_be b_me u_wd b_tr b_ld u_st b_wn u_id)), (b_rf, (arI G 7 z22))] hP hD ?_
        clear hP hD
        intro hP hD
        refine W.eq (g2 := F0 m 85 ls [.int ((v_ro 5) - 1)]) rfl ?_
        exact W.iret (v := ((v_ro 5) - 1)) hx hb hr (fun t ht hW => ⟨⟨((v_ro 5) - 1), [(b_o, (oc12 0 z20 b_rf b_ro b_im b_ke u_fd b_tp u_td u_fr u_to u_so u_wo u_fa u_bd u_nc b_nl u_co b_op b_ar u_le b_pi b_pa u_pd u_od b_ws b_hw u_la b_se b_re u_bk u_va u_su u_ce u_ho u_wy u_bt u_ps b_pt u_tg u_sn b_ip z21 b_ah b_be b_me u_wd b_tr b_ld u_st b_wn u_id)), (b_rf, (arI G 7 z22)), (b_ro, (arI G 5740 (upd k38_ro 5 ((v_ro 5) - 1))))], rfl, ⟨((v_ro 5) - 1), 0, z20, z21, z22, (upd k38_ro 5 ((v_ro 5) - 1)), i_19, mi_drop r_ro i_14 (by omega) (by omega) (by omega), (drop_0 (f := v_ro) (i := p_1) (by unfold isI; omega)).1.symm, by rw [(drop_0 (f := v_ro) (i := p_1) (by unfold isI; omega)).2, i_14, show k38_2.toInt = 266 by omega], rfl, rfl⟩, by rw [ht]; exact hP.sub [1, 2, 0] rfl, hD.sub [1, 2, 0] (by decide +kernel) rfl⟩, hS.F ht⟩) hS.2.2 dX12_drop_85
      ·
        have i_16 : k38_2.toInt < 266 := g5_geN (a := k38_2.toInt) (b := 266) rfl (by decide +kernel) c_16
        refine lv_aload_n hx hb dX12_drop_45 rfl (lv_at hl 1 rfl) ?_
        refine va_get (D := G.1) (ci := 12) (v := .ref b_ro) (C := RX12) (T := TX12) (N := 52) hx hb hts inG_X12 hown hK hP 0 rfl rfl 3 (by decide +kernel) (hts _ fl_X12_13) (fun _ h9 => h9) rfl dX12_drop_46 ?_
        refine lv_iload_n hx hb dX12_drop_49 rfl (lv_at hl 0 rfl) ?_
        refine lv_aload_n hx hb dX12_drop_50 rfl (lv_at hl 1 rfl) ?_
        refine W.eq (g2 := F0 m 51 ls [.ref b_o, .int k38_2, .ref b_ro]) rfl ?_
        refine va_get (D := G.1) (ci := 12) (v := .ref b_ro) (C := RX12) (T := TX12) (N := 52) hx hb hts inG_X12 hown hK hP 0 rfl rfl 3 (by decide +kernel) (hts _ fl_X12_13) (fun _ h9 => h9) rfl dX12_drop_51 ?_
        refine lv_iload_n hx hb dX12_drop_54 rfl (lv_at hl 0 rfl) ?_
        refine lv_iconst (v := 4) hx hb dX12_drop_55 (by decide +kernel) ?_
        refine lv_iadd hx hb dX12_drop_56 ?_
        have t_23 : (k38_2 + 4).toInt = k38_2.toInt + 4 := g5_iadd (a := k38_2.toInt) (b := 4) (by rfl) (by decide +kernel) (by omega) (by omega)
        refine va_iald hx hb hK hP 2 0 rfl rfl (i := (k38_2 + 4)) (vp_in_iff.mpr ⟨by omega, by omega⟩) dX12_drop_57 ?_
        refine W.eq (g2 := F0 m 58 ls [.int (k38_ro (k38_2 + 4).toNatClampNeg), .int k38_2, .ref b_ro]) rfl ?_
        refine va_iast hx hb hK hP hD hS 2 0 rfl rfl (i := k38_2) (x := (k38_ro (k38_2 + 4).toNatClampNeg)) (vp_in_iff.mpr ⟨by omega, by omega⟩) dX12_drop_58 ?_
        clear hP hD hS
        intro H locs hP hD hS
        refine g5_rs [(b_o, (oc12 0 u_sa b_rf b_ro b_im b_ke u_fd b_tp u_td u_fr u_to u_so u_wo u_fa u_bd u_nc b_nl u_co b_op b_ar u_le b_pi b_pa u_pd u_od b_ws b_hw u_la b_se b_re u_bk u_va u_su u_ce u_ho u_wy u_bt u_ps b_pt u_tg u_sn b_ip u_ic b_ah b_be b_me u_wd b_tr b_ld u_st b_wn u_id)), (b_rf, (arI G 7 v_rf)), (b_ro, (arI G 5740 (upd k38_ro k38_2.toNatClampNeg (k38_ro (k38_2 + 4).toNatClampNeg))))] hP hD ?_
        clear hP hD
        intro hP hD
        refine lv_iinc (v := (k38_2 + 1)) (lv' := [(2, .int (k38_2 + 1)), (0, .ref b_o), (1, .int p_1)]) hx hb dX12_drop_59 hl (k := 0) rfl rfl (by decide +kernel) rfl ?_
        clear hl
        intro ls hl
        have t_24 : (k38_2 + 1).toInt = k38_2.toInt + 1 := g5_iadd (a := k38_2.toInt) (b := 1) rfl (by decide +kernel) (by omega) (by omega)
        refine lv_goto (tgt := 38) hx hb dX12_drop_62 (by decide +kernel) ?_
        exact ih_38_15 ((k38_2 + 1), (upd k38_ro k38_2.toNatClampNeg (k38_ro (k38_2 + 4).toNatClampNeg))) ls H locs (show Int.toNat (266 - (k38_2 + 1).toInt) < Int.toNat (266 - k38_2.toInt) from g_up (show k38_2.toInt < (k38_2 + 1).toInt by omega) (show k38_2.toInt < 266 by omega)) ⟨lv_sub hl [0, 1, 2] rfl, hP, hD, hS, ⟨by omega, by omega⟩, by omega, sh_S i_14 (by omega) (by omega) (by omega) (by omega)⟩
    ·
      exact absurd c_9 (by decide +kernel)
set_option maxHeartbeats 4000000 in
set_option maxRecDepth 100000 in
theorem n_imageE (l : Launch) (G : g5_G) (b_o b_rf b_ro b_im b_ke b_tp b_nl b_op b_ar b_pi b_pa b_ws b_hw b_se b_re b_pt b_ip b_ah b_be b_me b_tr b_ld b_wn : Nat) (sz : Nat) (u_th : Int32) (u_sa : Int32) (u_fd : Int32) (u_td : Int32) (u_fr : Int32) (u_to : Int32) (u_so : Int32) (u_fa : Int32) (u_bd : Int32) (u_nc : Int32) (u_co : Int32) (u_le : Int32) (u_pd : Int32) (u_od : Int32) (u_la : Int32) (u_bk : Int32) (u_ce : Int32) (u_ho : Int32) (u_wy : Int32) (u_bt : Int32) (u_ps : Int32) (u_tg : Int32) (u_sn : Int32) (u_ic : Int32) (u_wd : Int32) (u_id : Int32) (p_1 : Int32) (u_wo : Int64) (u_va : Int64) (u_su : Int64) (u_st : Int64) (v_rf : Nat → Int32) (v_ro : Nat → Int32) (v_im : Nat → Int32) (v_ke : Nat → Int32) (h_u_td : 0 ≤ u_td.toInt ∧ u_td.toInt ≤ 400) (h_u_fr : 0 ≤ u_fr.toInt ∧ u_fr.toInt ≤ 400) (h_u_to : 0 ≤ u_to.toInt ∧ u_to.toInt ≤ 400) (h_u_bd : 0 ≤ u_bd.toInt ∧ u_bd.toInt ≤ 1) (h_u_nc : 0 ≤ u_nc.toInt ∧ u_nc.toInt ≤ 12) (h_u_co : 0 ≤ u_co.toInt ∧ u_co.toInt ≤ 400) (h_u_pd : 0 ≤ u_pd.toInt ∧ u_pd.toInt ≤ 400) (h_u_la : 0 ≤ u_la.toInt ∧ u_la.toInt ≤ 4840) (h_u_bk : 0 ≤ u_bk.toInt ∧ u_bk.toInt ≤ 1) (h_u_ce : 0 ≤ u_ce.toInt ∧ u_ce.toInt ≤ 63) (h_u_ho : 0 ≤ u_ho.toInt ∧ u_ho.toInt ≤ 23) (h_u_wy : 0 ≤ u_wy.toInt ∧ u_wy.toInt ≤ 3) (h_u_bt : 0 ≤ u_bt.toInt ∧ u_bt.toInt ≤ 1000000) (h_u_ps : 0 ≤ u_ps.toInt ∧ u_ps.toInt ≤ 200) (h_u_ic : 0 ≤ u_ic.toInt ∧ u_ic.toInt ≤ 1) (h_u_id : 0 ≤ u_id.toInt ∧ u_id.toInt ≤ 1) (r_ro : MI v_ro) (r_im : IMI v_im v_ke) : Met l yX12_image (wsG yX12_image cX12_image 3 (some .int)) ({ frames := 1, cells := 0, slots := 0, locals := 25 }) (va_Pc [.ref b_o, .int p_1] (g5_P G [(b_o, (oc12 u_th u_sa b_rf b_ro b_im b_ke u_fd b_tp u_td u_fr u_to u_so u_wo u_fa u_bd u_nc b_nl u_co b_op b_ar u_le b_pi b_pa u_pd u_od b_ws b_hw u_la b_se b_re u_bk u_va u_su u_ce u_ho u_wy u_bt u_ps b_pt u_tg u_sn b_ip u_ic b_ah b_be b_me u_wd b_tr b_ld u_st b_wn u_id)), (b_rf, (arI G 7 v_rf)), (b_ro, (arI G 5740 v_ro)), (b_im, (arI G 11480 v_im)), (b_ke, (arZ G 2 v_ke))] sz)) (va_Qi (fun (r : Int32) (u : va_W) => (∃ (o_r : Int32) (o_th : Int32) (o_sa : Int32) (o_ic : Int32) (o_rf : Nat → Int32) (o_im : Nat → Int32) (o_ke : Nat → Int32), (0 ≤ o_ic.toInt ∧ o_ic.toInt ≤ 1) ∧ (IMI o_im o_ke) ∧ (o_r = aimg p_1) ∧ (o_im = simg v_im v_ro p_1) ∧ (o_ke = skep v_ke p_1) ∧ (r = o_r) ∧ (u = [(b_o, (oc12 o_th o_sa b_rf b_ro b_im b_ke u_fd b_tp u_td u_fr u_to u_so u_wo u_fa u_bd u_nc b_nl u_co b_op b_ar u_le b_pi b_pa u_pd u_od b_ws b_hw u_la b_se b_re u_bk u_va u_su u_ce u_ho u_wy u_bt u_ps b_pt u_tg u_sn b_ip o_ic b_ah b_be b_me u_wd b_tr b_ld u_st b_wn u_id)), (b_rf, (arI G 7 o_rf)), (b_ro, (arI G 5740 v_ro)), (b_im, (arI G 11480 o_im)), (b_ke, (arZ G 2 o_ke))]))) (g5_B G (va_A [(b_o, (oc12 u_th u_sa b_rf b_ro b_im b_ke u_fd b_tp u_td u_fr u_to u_so u_wo u_fa u_bd u_nc b_nl u_co b_op b_ar u_le b_pi b_pa u_pd u_od b_ws b_hw u_la b_se b_re u_bk u_va u_su u_ce u_ho u_wy u_bt u_ps b_pt u_tg u_sn b_ip u_ic b_ah b_be b_me u_wd b_tr b_ld u_st b_wn u_id)), (b_rf, (arI G 7 v_rf)), (b_ro, (arI G 5740 v_ro)), (b_im, (arI G 11480 v_im)), (b_ke, (arZ G 2 v_ke))] sz)) (va_A [(b_o, (oc12 u_th u_sa b_rf b_ro b_im b_ke u_fd b_tp u_td u_fr u_to u_so u_wo u_fa u_bd u_nc b_nl u_co b_op b_ar u_le b_pi b_pa u_pd u_od b_ws b_hw u_la b_se b_re u_bk u_va u_su u_ce u_ho u_wy u_bt u_ps b_pt u_tg u_sn b_ip u_ic b_ah b_be b_me u_wd b_tr b_ld u_st b_wn u_id)), (b_rf, (arI G 7 v_rf)), (b_ro, (arI G 5740 v_ro)), (b_im, (arI G 11480 v_im)), (b_ke, (arZ G 2 v_ke))] sz)) 0 0 (va_A [(b_o, (oc12 u_th u_sa b_rf b_ro b_im b_ke u_fd b_tp u_td u_fr u_to u_so u_wo u_fa u_bd u_nc b_nl u_co b_op b_ar u_le b_pi b_pa u_pd u_od b_ws b_hw u_la b_se b_re u_bk u_va u_su u_ce u_ho u_wy u_bt u_ps b_pt u_tg u_sn b_ip u_ic b_ah b_be b_me u_wd b_tr b_ld u_st b_wn u_id)), (b_rf, (arI G 7 v_rf)), (b_ro, (arI G 5740 v_ro)), (b_im, (arI G 11480 v_im)), (b_ke, (arZ G 2 v_ke))] sz) := by
  refine Met.ofW (cc := cX12_image) (maxL := 3) (ret := (some .int)) (by decide +kernel) rfl ?_
  intro p e s m args below meth c s₁ B hml hv
  obtain ⟨rfl, hsz, hP, hK, hD0, hN, hT⟩ := hv
  have hx := B.exec
  have hb := B.bytes
  have hr := B.returns
  have hts : ∀ w ∈ tblG, w.before _ s = true := fun w h => atoms_spec (ws := (wsG yX12_image cX12_image 3 (some .int))) B.pre w (List.mem_cons_of_mem _ h)
  have hown : s.vm.findClass RX12 = some m.cls := findClass_of_methodNamed B.named
  have hlocks := B.notSynchronized
  subst hsz
  have hD := hD0.self (sz := s.heap.size)
  generalize hAe : va_A [(b_o, (oc12 u_th u_sa b_rf b_ro b_im b_ke u_fd b_tp u_td u_fr u_to u_so u_wo u_fa u_bd u_nc b_nl u_co b_op b_ar u_le b_pi b_pa u_pd u_od b_ws b_hw u_la b_se b_re u_bk u_va u_su u_ce u_ho u_wy u_bt u_ps b_pt u_tg u_sn b_ip u_ic b_ah b_be b_me u_wd b_tr b_ld u_st b_wn u_id)), (b_rf, (arI G 7 v_rf)), (b_ro, (arI G 5740 v_ro)), (b_im, (arI G 11480 v_im)), (b_ke, (arZ G 2 v_ke))] s.heap.size = A at hD hT ⊢
  have hA : ∀ q : Nat, s.heap.size ≤ q → A q := fun q h => by rw [← hAe]; exact Or.inr h
  have hS : va_S A s.heap s.heap [] := va_S.rf
  replace hP : va_P G.1 vwCl [(b_o, (oc12 u_th u_sa b_rf b_ro b_im b_ke u_fd b_tp u_td u_fr u_to u_so u_wo u_fa u_bd u_nc b_nl u_co b_op b_ar u_le b_pi b_pa u_pd u_od b_ws b_hw u_la b_se b_re u_bk u_va u_su u_ce u_ho u_wy u_bt u_ps b_pt u_tg u_sn b_ip u_ic b_ah b_be b_me u_wd b_tr b_ld u_st b_wn u_id)), (b_rf, (arI G 7 v_rf)), (b_ro, (arI G 5740 v_ro)), (b_im, (arI G 11480 v_im)), (b_ke, (arZ G 2 v_ke))] s.heap := hP
  have hl := lv_entry ([.ref b_o, .int p_1]) (n := 3) (Nat.le_of_ble_eq_true rfl)
  rw [lg_entry_eq]
  generalize (lg_sl ([.ref b_o, .int p_1]) ++ List.replicate (3 - (lg_sl ([.ref b_o, .int p_1])).length) Slot.unset).toArray = ls at hl ⊢
  replace hl : lv_has ls 3 [(0, .ref b_o), (1, .int p_1)] := hl
  refine lv_aload_n hx hb dX12_image_0 rfl (lv_at hl 0 rfl) ?_
  refine lv_iconst (v := 0) hx hb dX12_image_1 (by decide +kernel) ?_
  refine va_put (D := G.1) (ci := 12) (v := .int 0) (ty := .int) (C := RX12) (T := TX12) (N := 52) hx hb hts inG_X12 tyX12 tyX12_ok nmX12 hown hK hP hD hS 0 rfl rfl 0 (by decide +kernel) (hts _ fl_X12_107) (fun _ h9 => h9) rfl (by decide +kernel) rfl rfl (Nat.le_of_ble_eq_true rfl) dX12_image_2 ?_
  clear hP hD hS
  intro H locs hP hD hS
  refine g5_rs [(b_o, (oc12 0 u_sa b_rf b_ro b_im b_ke u_fd b_tp u_td u_fr u_to u_so u_wo u_fa u_bd u_nc b_nl u_co b_op b_ar u_le b_pi b_pa u_pd u_od b_ws b_hw u_la b_se b_re u_bk u_va u_su u_ce u_ho u_wy u_bt u_ps b_pt u_tg u_sn b_ip u_ic b_ah b_be b_me u_wd b_tr b_ld u_st b_wn u_id)), (b_rf, (arI G 7 v_rf)), (b_ro, (arI G 5740 v_ro)), (b_im, (arI G 11480 v_im)), (b_ke, (arZ G 2 v_ke))] hP hD ?_
  clear hP hD
  intro hP hD
  refine lv_iload_n hx hb dX12_image_5 rfl (lv_at hl 1 rfl) ?_
  refine W.eq (g2 := F0 m 6 ls [.int p_1]) rfl ?_
  refine lv_i2l (v := p_1.toInt64) hx hb dX12_image_6 rfl ?_
  refine lv_lconst (v := 0) hx hb dX12_image_7 (by decide +kernel) ?_
  refine lv_lconst (v := 1) hx hb dX12_image_8 (by decide +kernel) ?_
  obtain ⟨hPc, hDc, hFc⟩ := g5_sub3 (wc := []) hP hD hS hA [] (by decide +kernel) rfl
  refine va_calli (va_runS (As := [.long p_1.toInt64, .long 0, .long 1]) (rest := []) ⟨hx, hb, hml, hown, hts⟩ (n_in_0_1 l G H.size p_1) (va_cwS 3 hts gS_X12_121 rfl rfl rfl hs_X12_in ⟨Nat.le_of_ble_eq_true rfl, Nat.le_of_ble_eq_true rfl⟩) (g5_preS hPc hK hDc hN hT hS hFc) rfl rfl hl.1 rfl (lv_room (Nat.le_of_ble_eq_true rfl)) dX12_image_9 ⟨Nat.le_of_ble_eq_true rfl, Nat.le_of_ble_eq_true rfl⟩) hS (fun q _ h => hFc q h) hFc (fun r u t H locs ht hvm hw hB hz1 hk1 hS => ?_)
  obtain ⟨hP1, hD1⟩ := hB
  have hP1 := g5_ht ht hP1
  rcases hw with ⟨(i_1 : p_1.toInt < 0 ∨ 1 < p_1.toInt), rfl, rfl⟩ | ⟨(i_2 : 0 ≤ p_1.toInt ∧ p_1.toInt ≤ 1), rfl, rfl⟩
  ·
    have hJ9 := g5_same hP hk1
    clear hP hPc hDc hFc ht hvm hz1 hk1 hP1 hD1
    have hP := hJ9
    clear hJ9
    refine lv_if_ne (tgt := 21) hx hb dX12_image_12 (by decide +kernel) (fun c_3 => ?_) (fun c_3 => ?_)
    ·
      exact absurd c_3 (by decide +kernel)
    ·
      refine lv_aload_n hx hb dX12_image_15 rfl (lv_at hl 0 rfl) ?_
      refine lv_iconst (v := (-1)) hx hb dX12_image_16 (by decide +kernel) ?_
      obtain ⟨hPc, hDc, hFc⟩ := g5_sub3 (wc := [(b_o, (oc12 0 u_sa b_rf b_ro b_im b_ke u_fd b_tp u_td u_fr u_to u_so u_wo u_fa u_bd u_nc b_nl u_co b_op b_ar u_le b_pi b_pa u_pd u_od b_ws b_hw u_la b_se b_re u_bk u_va u_su u_ce u_ho u_wy u_bt u_ps b_pt u_tg u_sn b_ip u_ic b_ah b_be b_me u_wd b_tr b_ld u_st b_wn u_id)), (b_rf, (arI G 7 v_rf))]) hP hD hS hA [0, 1] (by decide +kernel) rfl
      refine va_calli (va_runV (As := [.int (-1)]) (rest := []) ⟨hx, hb, hml, hown, hts⟩ (n_tell1 l G b_o b_rf b_ro b_im b_ke b_tp b_nl b_op b_ar b_pi b_pa b_ws b_hw b_se b_re b_pt b_ip b_ah b_be b_me b_tr b_ld b_wn H.size 0 u_sa u_fd u_td u_fr u_to u_so u_fa u_bd u_nc u_co u_le u_pd u_od u_la u_bk u_ce u_ho u_wy u_bt u_ps u_tg u_sn u_ic u_wd u_id u_wo u_va u_su u_st v_rf h_u_td h_u_fr h_u_to h_u_bd h_u_nc h_u_co h_u_pd h_u_la h_u_bk h_u_ce h_u_ho h_u_wy h_u_bt h_u_ps h_u_ic h_u_id) (cwV 1 hts gV_X12_125 rfl rfl rfl hv_X12_tell ⟨Nat.le_of_ble_eq_true rfl, Nat.le_of_ble_eq_true rfl⟩) (g5_preV hPc hK hDc hN hT hS hFc (ci := 12) (q0 := 0) rfl rfl) rfl rfl hl.1 rfl (lv_room (Nat.le_of_ble_eq_true rfl)) dX12_image_17 ⟨Nat.le_of_ble_eq_true rfl, Nat.le_of_ble_eq_true rfl⟩) hS (fun q _ h => hFc q h) hFc (fun r u t H locs ht hvm hw hB hz1 hk1 hS => ?_)
      obtain ⟨hP1, hD1⟩ := hB
      have hP1 := g5_ht ht hP1
      obtain ⟨z5, z6, z7, (i_4 : 0 ≤ z6.toInt ∧ z6.toInt ≤ 1), rfl, rfl⟩ := hw
      have hJ9 := va_join (wr := [(b_ro, (arI G 5740 v_ro)), (b_im, (arI G 11480 v_im)), (b_ke, (arZ G 2 v_ke))]) hP hD [0, 1] [2, 3, 4] rfl rfl (by decide +kernel) (by decide +kernel) hk1 hFc hP1 hD1
      clear hP hD hPc hDc hFc ht hvm hz1 hk1 hP1 hD1
      obtain ⟨hP, hD⟩ := hJ9
      refine g5_rs [(b_ro, (arI G 5740 v_ro)), (b_im, (arI G 11480 v_im)), (b_ke, (arZ G 2 v_ke)), (b_o, (oc12 0 z5 b_rf b_ro b_im b_ke u_fd b_tp u_td u_fr u_to u_so u_wo u_fa u_bd u_nc b_nl u_co b_op b_ar u_le b_pi b_pa u_pd u_od b_ws b_hw u_la b_se b_re u_bk u_va u_su u_ce u_ho u_wy u_bt u_ps b_pt u_tg u_sn b_ip z6 b_ah b_be b_me u_wd b_tr b_ld u_st b_wn u_id)), (b_rf, (arI G 7 z7))] hP hD ?_
      clear hP hD
      intro hP hD
      exact W.iret (v := (-1)) hx hb hr (fun t ht hW => ⟨⟨(-1), [(b_o, (oc12 0 z5 b_rf b_ro b_im b_ke u_fd b_tp u_td u_fr u_to u_so u_wo u_fa u_bd u_nc b_nl u_co b_op b_ar u_le b_pi b_pa u_pd u_od b_ws b_hw u_la b_se b_re u_bk u_va u_su u_ce u_ho u_wy u_bt u_ps b_pt u_tg u_sn b_ip z6 b_ah b_be b_me u_wd b_tr b_ld u_st b_wn u_id)), (b_rf, (arI G 7 z7)), (b_ro, (arI G 5740 v_ro)), (b_im, (arI G 11480 v_im)), (b_ke, (arZ G 2 v_ke))], rfl, ⟨(-1), 0, z5, z6, z7, v_im, v_ke, i_4, r_im, (img_1 (im := v_im) (f := v_ro) (ke := v_ke) (p := p_1) (okM_n (by omega))).1.symm, (img_1 (im := v_im) (f := v_ro) (ke := v_ke) (p := p_1) (okM_n (by omega))).2.1.symm, (img_1 (im := v_im) (f := v_ro) (ke := v_ke) (p := p_1) (okM_n (by omega))).2.2.symm, rfl, rfl⟩, by rw [ht]; exact hP.sub [3, 4, 0, 1, 2] rfl, hD.sub [3, 4, 0, 1, 2] (by decide +kernel) rfl⟩, hS.F ht⟩) hS.2.2 dX12_image_20
  ·
    have hJ9 := g5_same hP hk1
    clear hP hPc hDc hFc ht hvm hz1 hk1 hP1 hD1
    have hP := hJ9
    clear hJ9
    refine lv_if_ne (tgt := 21) hx hb dX12_image_12 (by decide +kernel) (fun c_8 => ?_) (fun c_8 => ?_)
    ·
      refine lv_iconst (v := 0) hx hb dX12_image_21 (by decide +kernel) ?_
      refine lv_istore_n (lv' := [(2, .int 0), (0, .ref b_o), (1, .int p_1)]) hx hb dX12_image_22 rfl hl (by decide +kernel) rfl ?_
      clear hl
      intro ls hl
      refine g5_loop (α := (Int32) × (Nat → Int32)) (fun (q : (Int32) × (Nat → Int32)) (ls : Array Slot) (H : Heap) (locs : List Loc) => match q with | (k23_2, k23_im) => lv_has ls 3 [(2, .int k23_2), (0, .ref b_o), (1, .int p_1)] ∧ va_P G.1 vwCl [(b_o, (oc12 0 u_sa b_rf b_ro b_im b_ke u_fd b_tp u_td u_fr u_to u_so u_wo u_fa u_bd u_nc b_nl u_co b_op b_ar u_le b_pi b_pa u_pd u_od b_ws b_hw u_la b_se b_re u_bk u_va u_su u_ce u_ho u_wy u_bt u_ps b_pt u_tg u_sn b_ip u_ic b_ah b_be b_me u_wd b_tr b_ld u_st b_wn u_id)), (b_rf, (arI G 7 v_rf)), (b_ro, (arI G 5740 v_ro)), (b_im, (arI G 11480 k23_im)), (b_ke, (arZ G 2 v_ke))] H ∧ va_D A [(b_o, (oc12 0 u_sa b_rf b_ro b_im b_ke u_fd b_tp u_td u_fr u_to u_so u_wo u_fa u_bd u_nc b_nl u_co b_op b_ar u_le b_pi b_pa u_pd u_od b_ws b_hw u_la b_se b_re u_bk u_va u_su u_ce u_ho u_wy u_bt u_ps b_pt u_tg u_sn b_ip u_ic b_ah b_be b_me u_wd b_tr b_ld u_st b_wn u_id)), (b_rf, (arI G 7 v_rf)), (b_ro, (arI G 5740 v_ro)), (b_im, (arI G 11480 k23_im)), (b_ke, (arZ G 2 v_ke))] ∧ va_S A s.heap H locs ∧ (0 ≤ k23_2.toInt ∧ k23_2.toInt ≤ 5740) ∧ (∀ j : Nat, (j : Int) < k23_2.toInt → k23_im (5740 * p_1.toInt.toNat + j) = v_ro j) ∧ (∀ j : Nat, ((j : Int) < 5740 * p_1.toInt ∨ 5740 * p_1.toInt + 5740 ≤ (j : Int)) → k23_im j = v_im j)) (fun (q : (Int32) × (Nat → Int32)) => match q with | (k23_2, k23_im) => Int.toNat (5740 - k23_2.toInt)) (0, v_im) ⟨lv_sub hl [0, 1, 2] rfl, hP, hD, hS, ⟨by decide, by decide⟩, fun j h => absurd h (by have z : (0 : Int32).toInt = 0 := (by decide +kernel); omega), fun _ _ => rfl⟩ ?_
      rintro ⟨k23_2, k23_im⟩ ls H locs ⟨hl, hP, hD, hS, (i_9 : 0 ≤ k23_2.toInt ∧ k23_2.toInt ≤ 5740), (i_10 : ∀ j : Nat, (j : Int) < k23_2.toInt → k23_im (5740 * p_1.toInt.toNat + j) = v_ro j), (i_11 : ∀ j : Nat, ((j : Int) < 5740 * p_1.toInt ∨ 5740 * p_1.toInt + 5740 ≤ (j : Int)) → k23_im j = v_im j)⟩ ih_23_12
      replace hl : lv_has ls 3 [(2, .int k23_2), (0, .ref b_o), (1, .int p_1)] := hl
      refine g5_rs [(b_o, (oc12 0 u_sa b_rf b_ro b_im b_ke u_fd b_tp u_td u_fr u_to u_so u_wo u_fa u_bd u_nc b_nl u_co b_op b_ar u_le b_pi b_pa u_pd u_od b_ws b_hw u_la b_se b_re u_bk u_va u_su u_ce u_ho u_wy u_bt u_ps b_pt u_tg u_sn b_ip u_ic b_ah b_be b_me u_wd b_tr b_ld u_st b_wn u_id)), (b_rf, (arI G 7 v_rf)), (b_ro, (arI G 5740 v_ro)), (b_im, (arI G 11480 k23_im)), (b_ke, (arZ G 2 v_ke))] hP hD ?_
      clear hP hD
      intro hP hD
      refine lv_iload_n hx hb dX12_image_23 rfl (lv_at hl 0 rfl) ?_
      refine lv_sipush (v := 5740) hx hb dX12_image_24 (by decide +kernel) ?_
      refine lv_icmp_ge (tgt := 54) hx hb dX12_image_27 (by decide +kernel) (fun c_13 => ?_) (fun c_13 => ?_)
      ·
        have i_13 : k23_2.toInt ≥ 5740 := g5_ge (a := k23_2.toInt) (b := 5740) rfl (by decide +kernel) c_13
        refine lv_aload_n hx hb dX12_image_54 rfl (lv_at hl 1 rfl) ?_
        refine va_get (D := G.1) (ci := 12) (v := .ref b_ke) (C := RX12) (T := TX12) (N := 52) hx hb hts inG_X12 hown hK hP 0 rfl rfl 5 (by decide +kernel) (hts _ fl_X12_19) (fun _ h9 => h9) rfl dX12_image_55 ?_
        refine lv_iload_n hx hb dX12_image_58 rfl (lv_at hl 2 rfl) ?_
        refine lv_iconst (v := 1) hx hb dX12_image_59 (by decide +kernel) ?_
        refine W.eq (g2 := F0 m 60 ls [.int 1, .int p_1, .ref b_ke]) rfl ?_
        refine va_zast hx hb hK hP hD hS 4 2 rfl rfl (i := p_1) (x := 1) (vp_in_iff.mpr ⟨by omega, by omega⟩) dX12_image_60 ?_
        clear hP hD hS
        intro H locs hP hD hS
        refine g5_rs [(b_o, (oc12 0 u_sa b_rf b_ro b_im b_ke u_fd b_tp u_td u_fr u_to u_so u_wo u_fa u_bd u_nc b_nl u_co b_op b_ar u_le b_pi b_pa u_pd u_od b_ws b_hw u_la b_se b_re u_bk u_va u_su u_ce u_ho u_wy u_bt u_ps b_pt u_tg u_sn b_ip u_ic b_ah b_be b_me u_wd b_tr b_ld u_st b_wn u_id)), (b_rf, (arI G 7 v_rf)), (b_ro, (arI G 5740 v_ro)), (b_im, (arI G 11480 k23_im)), (b_ke, (arZ G 2 (upd v_ke p_1.toNatClampNeg 1)))] hP hD ?_
        clear hP hD
        intro hP hD
        refine lv_aload_n hx hb dX12_image_61 rfl (lv_at hl 1 rfl) ?_
        refine lv_iconst (v := 0) hx hb dX12_image_62 (by decide +kernel) ?_
        obtain ⟨hPc, hDc, hFc⟩ := g5_sub3 (wc := [(b_o, (oc12 0 u_sa b_rf b_ro b_im b_ke u_fd b_tp u_td u_fr u_to u_so u_wo u_fa u_bd u_nc b_nl u_co b_op b_ar u_le b_pi b_pa u_pd u_od b_ws b_hw u_la b_se b_re u_bk u_va u_su u_ce u_ho u_wy u_bt u_ps b_pt u_tg u_sn b_ip u_ic b_ah b_be b_me u_wd b_tr b_ld u_st b_wn u_id)), (b_rf, (arI G 7 v_rf))]) hP hD hS hA [0, 1] (by decide +kernel) rfl
        refine va_calli (va_runV (As := [.int 0]) (rest := []) ⟨hx, hb, hml, hown, hts⟩ (n_tell l G b_o b_rf b_ro b_im b_ke b_tp b_nl b_op b_ar b_pi b_pa b_ws b_hw b_se b_re b_pt b_ip b_ah b_be b_me b_tr b_ld b_wn H.size 0 u_sa u_fd u_td u_fr u_to u_so u_fa u_bd u_nc u_co u_le u_pd u_od u_la u_bk u_ce u_ho u_wy u_bt u_ps u_tg u_sn u_ic u_wd u_id 0 u_wo u_va u_su u_st v_rf h_u_td h_u_fr h_u_to h_u_bd h_u_nc h_u_co h_u_pd h_u_la h_u_bk h_u_ce h_u_ho h_u_wy h_u_bt h_u_ps h_u_ic h_u_id ⟨by decide, by decide⟩) (cwV 1 hts gV_X12_125 rfl rfl rfl hv_X12_tell ⟨Nat.le_of_ble_eq_true rfl, Nat.le_of_ble_eq_true rfl⟩) (g5_preV hPc hK hDc hN hT hS hFc (ci := 12) (q0 := 0) rfl rfl) rfl rfl hl.1 rfl (lv_room (Nat.le_of_ble_eq_true rfl)) dX12_image_63 ⟨Nat.le_of_ble_eq_true rfl, Nat.le_of_ble_eq_true rfl⟩) hS (fun q _ h => hFc q h) hFc (fun r u t H locs ht hvm hw hB hz1 hk1 hS => ?_)
        obtain ⟨hP1, hD1⟩ := hB
        have hP1 := g5_ht ht hP1
        obtain ⟨z15, z16, z17, (i_14 : 0 ≤ z16.toInt ∧ z16.toInt ≤ 1), rfl, rfl⟩ := hw
        have hJ9 := va_join (wr := [(b_ro, (arI G 5740 v_ro)), (b_im, (arI G 11480 k23_im)), (b_ke, (arZ G 2 (upd v_ke p_1.toNatClampNeg 1)))]) hP hD [0, 1] [2, 3, 4] rfl rfl (by decide +kernel) (by decide +kernel) hk1 hFc hP1 hD1
        clear hP hD hPc hDc hFc ht hvm hz1 hk1 hP1 hD1
        obtain ⟨hP, hD⟩ := hJ9
        refine g5_rs [(b_ro, (arI G 5740 v_ro)), (b_im, (arI G 11480 k23_im)), (b_ke, (arZ G 2 (upd v_ke p_1.toNatClampNeg 1))), (b_o, (oc12 0 z15 b_rf b_ro b_im b_ke u_fd b_tp u_td u_fr u_to u_so u_wo u_fa u_bd u_nc b_nl u_co b_op b_ar u_le b_pi b_pa u_pd u_od b_ws b_hw u_la b_se b_re u_bk u_va u_su u_ce u_ho u_wy u_bt u_ps b_pt u_tg u_sn b_ip z16 b_ah b_be b_me u_wd b_tr b_ld u_st b_wn u_id)), (b_rf, (arI G 7 z17))] hP hD ?_
        clear hP hD
        intro hP hD
        exact W.iret (v := 0) hx hb hr (fun t ht hW => ⟨⟨0, [(b_o, (oc12 0 z15 b_rf b_ro b_im b_ke u_fd b_tp u_td u_fr u_to u_so u_wo u_fa u_bd u_nc b_nl u_co b_op b_ar u_le b_pi b_pa u_pd u_od b_ws b_hw u_la b_se b_re u_bk u_va u_su u_ce u_ho u_wy u_bt u_ps b_pt u_tg u_sn b_ip z16 b_ah b_be b_me u_wd b_tr b_ld u_st b_wn u_id)), (b_rf, (arI G 7 z17)), (b_ro, (arI G 5740 v_ro)), (b_im, (arI G 11480 k23_im)), (b_ke, (arZ G 2 (upd v_ke p_1.toNatClampNeg 1)))], rfl, ⟨0, 0, z15, z16, z17, k23_im, (upd v_ke p_1.toNatClampNeg 1), i_14, im_image r_im r_ro (by omega) (by omega) i_10 i_11, (img_0 (im := v_im) (f := v_ro) (ke := v_ke) (p := p_1) ⟨by omega, by omega⟩).1.symm, img_fun (ke := v_ke) ⟨by omega, by omega⟩ (by omega) i_10 i_11, (img_0 (im := v_im) (f := v_ro) (ke := v_ke) (p := p_1) ⟨by omega, by omega⟩).2.2.symm, rfl, rfl⟩, by rw [ht]; exact hP.sub [3, 4, 0, 1, 2] rfl, hD.sub [3, 4, 0, 1, 2] (by decide +kernel) rfl⟩, hS.F ht⟩) hS.2.2 dX12_image_66
      ·
        have i_13 : k23_2.toInt < 5740 := g5_geN (a := k23_2.toInt) (b := 5740) rfl (by decide +kernel) c_13
        refine lv_aload_n hx hb dX12_image_30 rfl (lv_at hl 1 rfl) ?_
        refine va_get (D := G.1) (ci := 12) (v := .ref b_im) (C := RX12) (T := TX12) (N := 52) hx hb hts inG_X12 hown hK hP 0 rfl rfl 4 (by decide +kernel) (hts _ fl_X12_16) (fun _ h9 => h9) rfl dX12_image_31 ?_
        refine lv_sipush (v := 5740) hx hb dX12_image_34 (by decide +kernel) ?_
        refine lv_iload_n hx hb dX12_image_37 rfl (lv_at hl 2 rfl) ?_
        refine W.eq (g2 := F0 m 38 ls [.int p_1, .int 5740, .ref b_im]) rfl ?_
        refine lv_imul hx hb dX12_image_38 ?_
        have t_18 : (5740 * p_1).toInt = 5740 * p_1.toInt := g5_imul (a := 5740) (b := p_1.toInt) (by decide +kernel) (by rfl) (by omega) (by omega)
        refine lv_iload_n hx hb dX12_image_39 rfl (lv_at hl 0 rfl) ?_
        refine lv_iadd hx hb dX12_image_40 ?_
        have t_19 : ((5740 * p_1) + k23_2).toInt = (5740 * p_1).toInt + k23_2.toInt := g5_iadd (a := (5740 * p_1).toInt) (b := k23_2.toInt) (by rfl) (by rfl) (by omega) (by omega)
        refine lv_aload_n hx hb dX12_image_41 rfl (lv_at hl 1 rfl) ?_
        refine va_get (D := G.1) (ci := 12) (v := .ref b_ro) (C := RX12) (T := TX12) (N := 52) hx hb hts inG_X12 hown hK hP 0 rfl rfl 3 (by decide +kernel) (hts _ fl_X12_13) (fun _ h9 => h9) rfl dX12_image_42 ?_
        refine W.eq (g2 := F0 m 45 ls [.ref b_ro, .int ((5740 * p_1) + k23_2), .ref b_im]) rfl ?_
        refine lv_iload_n hx hb dX12_image_45 rfl (lv_at hl 0 rfl) ?_
        refine va_iald hx hb hK hP 2 0 rfl rfl (i := k23_2) (vp_in_iff.mpr ⟨by omega, by omega⟩) dX12_image_46 ?_
        refine va_iast hx hb hK hP hD hS 3 0 rfl rfl (i := ((5740 * p_1) + k23_2)) (x := (v_ro k23_2.toNatClampNeg)) (vp_in_iff.mpr ⟨by omega, by omega⟩) dX12_image_47 ?_
        clear hP hD hS
        intro H locs hP hD hS
        refine g5_rs [(b_o, (oc12 0 u_sa b_rf b_ro b_im b_ke u_fd b_tp u_td u_fr u_to u_so u_wo u_fa u_bd u_nc b_nl u_co b_op b_ar u_le b_pi b_pa u_pd u_od b_ws b_hw u_la b_se b_re u_bk u_va u_su u_ce u_ho u_wy u_bt u_ps b_pt u_tg u_sn b_ip u_ic b_ah b_be b_me u_wd b_tr b_ld u_st b_wn u_id)), (b_rf, (arI G 7 v_rf)), (b_ro, (arI G 5740 v_ro)), (b_im, (arI G 11480 (upd k23_im ((5740 * p_1) + k23_2).toNatClampNeg (v_ro k23_2.toNatClampNeg)))), (b_ke, (arZ G 2 v_ke))] hP hD ?_
        clear hP hD
        intro hP hD
        refine lv_iinc (v := (k23_2 + 1)) (lv' := [(2, .int (k23_2 + 1)), (0, .ref b_o), (1, .int p_1)]) hx hb dX12_image_48 hl (k := 0) rfl rfl (by decide +kernel) rfl ?_
        clear hl
        intro ls hl
        have t_20 : (k23_2 + 1).toInt = k23_2.toInt + 1 := g5_iadd (a := k23_2.toInt) (b := 1) rfl (by decide +kernel) (by omega) (by omega)
        refine lv_goto (tgt := 23) hx hb dX12_image_51 (by decide +kernel) ?_
        exact ih_23_12 ((k23_2 + 1), (upd k23_im ((5740 * p_1) + k23_2).toNatClampNeg (v_ro k23_2.toNatClampNeg))) ls H locs (show Int.toNat (5740 - (k23_2 + 1).toInt) < Int.toNat (5740 - k23_2.toInt) from g_up (show k23_2.toInt < (k23_2 + 1).toInt by omega) (show k23_2.toInt < 5740 by omega)) ⟨lv_sub hl [0, 1, 2] rfl, hP, hD, hS, ⟨by omega, by omega⟩, im_step i_10 (by omega) (by omega) (by omega) (by omega), im_keep (k := k23_2) i_11 (by omega) (by omega) (by omega)⟩
    ·
      exact absurd c_8 (by decide +kernel)
