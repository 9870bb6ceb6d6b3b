set_option maxHeartbeats 4000000 in
set_option maxRecDepth 100000 in
theorem n_openBracket (l : Launch) (G : g5_G) (b_o b_tp b_pi b_pa b_rf b_ro b_im b_ke b_nl b_op b_ar b_ws b_hw b_se b_re b_pt b_ip b_ah b_be b_me b_tr b_ld b_wn : Nat) (sz : Nat) (u_th : Int32) (u_sa : Int32) (u_fd : Int32) (u_td : Int32) (u_fr : Int32) (u_to : Int32) (u_so : Int32) (u_fa : Int32) (u_bd : Int32) (u_nc : Int32) (u_co : Int32) (u_le : Int32) (u_pd : Int32) (u_od : Int32) (u_la : Int32) (u_bk : Int32) (u_ce : Int32) (u_ho : Int32) (u_wy : Int32) (u_bt : Int32) (u_ps : Int32) (u_tg : Int32) (u_sn : Int32) (u_ic : Int32) (u_wd : Int32) (u_id : Int32) (p_1 : Int32) (u_wo : Int64) (u_va : Int64) (u_su : Int64) (u_st : Int64) (v_tp : Nat → Int32) (v_pi : Nat → Int32) (v_pa : Nat → Int32) (h_u_td : 0 ≤ u_td.toInt ∧ u_td.toInt ≤ 400) (h_u_fr : 0 ≤ u_fr.toInt ∧ u_fr.toInt ≤ 400) (h_u_to : 0 ≤ u_to.toInt ∧ u_to.toInt ≤ 400) (h_u_bd : 0 ≤ u_bd.toInt ∧ u_bd.toInt ≤ 0) (h_u_nc : 0 ≤ u_nc.toInt ∧ u_nc.toInt ≤ 12) (h_u_co : 0 ≤ u_co.toInt ∧ u_co.toInt ≤ 400) (h_u_pd : 0 ≤ u_pd.toInt ∧ u_pd.toInt ≤ 400) (h_u_la : 0 ≤ u_la.toInt ∧ u_la.toInt ≤ 4840) (h_u_bk : 0 ≤ u_bk.toInt ∧ u_bk.toInt ≤ 1) (h_u_ce : 0 ≤ u_ce.toInt ∧ u_ce.toInt ≤ 63) (h_u_ho : 0 ≤ u_ho.toInt ∧ u_ho.toInt ≤ 23) (h_u_wy : 0 ≤ u_wy.toInt ∧ u_wy.toInt ≤ 3) (h_u_bt : 0 ≤ u_bt.toInt ∧ u_bt.toInt ≤ 1000000) (h_u_ps : 0 ≤ u_ps.toInt ∧ u_ps.toInt ≤ 200) (h_u_ic : 0 ≤ u_ic.toInt ∧ u_ic.toInt ≤ 1) (h_u_id : 0 ≤ u_id.toInt ∧ u_id.toInt ≤ 1) (h_p_1 : 30 ≤ p_1.toInt ∧ p_1.toInt ≤ 31) (e_t : u_fr.toInt < u_to.toInt ∧ u_to.toInt ≤ u_td.toInt) (e_p : u_pd.toInt ≤ u_fr.toInt) : Met l yX12_openBracket (wsG yX12_openBracket cX12_openBracket 2 none) ({ frames := 3, cells := 0, slots := 0, locals := 61 }) (va_Pc [.ref b_o, .int p_1] (g5_P G [(b_o, (oc12 u_th u_sa b_rf b_ro b_im b_ke u_fd b_tp u_td u_fr u_to u_so u_wo u_fa u_bd u_nc b_nl u_co b_op b_ar u_le b_pi b_pa u_pd u_od b_ws b_hw u_la b_se b_re u_bk u_va u_su u_ce u_ho u_wy u_bt u_ps b_pt u_tg u_sn b_ip u_ic b_ah b_be b_me u_wd b_tr b_ld u_st b_wn u_id)), (b_tp, (arI G 400 v_tp)), (b_pi, (arI G 400 v_pi)), (b_pa, (arI G 400 v_pa))] sz)) (va_Qv (fun (u : va_W) => ((u = [(b_o, (oc12 u_th u_sa b_rf b_ro b_im b_ke u_fd b_tp u_td u_fr u_to u_so u_wo u_fr 1 u_nc b_nl u_co b_op b_ar u_le b_pi b_pa u_pd u_od b_ws b_hw u_la b_se b_re u_bk u_va u_su u_ce u_ho u_wy u_bt u_ps b_pt u_tg u_sn b_ip u_ic b_ah b_be b_me u_wd b_tr b_ld u_st b_wn u_id)), (b_tp, (arI G 400 v_tp)), (b_pi, (arI G 400 v_pi)), (b_pa, (arI G 400 v_pa))])) ∨ (∃ (o_fr : Int32) (o_to : Int32) (o_so : Int32) (o_wo : Int64) (o_pd : Int32) (o_od : Int32), (0 ≤ o_fr.toInt ∧ o_fr.toInt ≤ 400) ∧ (0 ≤ o_to.toInt ∧ o_to.toInt ≤ 400) ∧ (0 ≤ o_pd.toInt ∧ o_pd.toInt ≤ 400) ∧ (u_to.toInt ≤ o_fr.toInt ∧ o_fr.toInt ≤ o_to.toInt ∧ o_to.toInt ≤ u_td.toInt) ∧ (TKs o_so.toInt o_fr.toInt o_to.toInt) ∧ (o_pd.toInt = u_pd.toInt + 1) ∧ (u = [(b_o, (oc12 u_th u_sa b_rf b_ro b_im b_ke u_fd b_tp u_td o_fr o_to o_so o_wo u_fa u_bd u_nc b_nl u_co b_op b_ar u_le b_pi b_pa o_pd o_od b_ws b_hw u_la b_se b_re u_bk u_va u_su u_ce u_ho u_wy u_bt u_ps b_pt u_tg u_sn b_ip u_ic b_ah b_be b_me u_wd b_tr b_ld u_st b_wn u_id)), (b_tp, (arI G 400 v_tp)), (b_pi, (arI G 400 (upd v_pi u_pd.toNatClampNeg p_1))), (b_pa, (arI G 400 (upd v_pa u_pd.toNatClampNeg 0)))]))) (g5_B G (va_A [(b_o, (oc12 u_th u_sa b_rf b_ro b_im b_ke u_fd b_tp u_td u_fr u_to u_so u_wo u_fa u_bd u_nc b_nl u_co b_op b_ar u_le b_pi b_pa u_pd u_od b_ws b_hw u_la b_se b_re u_bk u_va u_su u_ce u_ho u_wy u_bt u_ps b_pt u_tg u_sn b_ip u_ic b_ah b_be b_me u_wd b_tr b_ld u_st b_wn u_id)), (b_tp, (arI G 400 v_tp)), (b_pi, (arI G 400 v_pi)), (b_pa, (arI G 400 v_pa))] sz)) (va_A [(b_o, (oc12 u_th u_sa b_rf b_ro b_im b_ke u_fd b_tp u_td u_fr u_to u_so u_wo u_fa u_bd u_nc b_nl u_co b_op b_ar u_le b_pi b_pa u_pd u_od b_ws b_hw u_la b_se b_re u_bk u_va u_su u_ce u_ho u_wy u_bt u_ps b_pt u_tg u_sn b_ip u_ic b_ah b_be b_me u_wd b_tr b_ld u_st b_wn u_id)), (b_tp, (arI G 400 v_tp)), (b_pi, (arI G 400 v_pi)), (b_pa, (arI G 400 v_pa))] sz)) 0 0 (va_A [(b_o, (oc12 u_th u_sa b_rf b_ro b_im b_ke u_fd b_tp u_td u_fr u_to u_so u_wo u_fa u_bd u_nc b_nl u_co b_op b_ar u_le b_pi b_pa u_pd u_od b_ws b_hw u_la b_se b_re u_bk u_va u_su u_ce u_ho u_wy u_bt u_ps b_pt u_tg u_sn b_ip u_ic b_ah b_be b_me u_wd b_tr b_ld u_st b_wn u_id)), (b_tp, (arI G 400 v_tp)), (b_pi, (arI G 400 v_pi)), (b_pa, (arI G 400 v_pa))] sz) := by
  refine Met.ofW (cc := cX12_openBracket) (maxL := 2) (ret := none) (by decide) rfl ?_
  intro p e s m args below meth c s₁ B hml hv
  obtain ⟨rfl, hsz, hP, hK, hD0, hN, hT⟩ := hv
  have hx := B.exec
  have hb := B.bytes
  have hr := B.returns
  have hts : ∀ w ∈ tblG, w.before _ s = true := fun w h => atoms_spec (ws := (wsG yX12_openBracket cX12_openBracket 2 none)) B.pre w (List.mem_cons_of_mem _ h)
  have hown : s.vm.findClass RX12 = some m.cls := findClass_of_methodNamed B.named
  have hlocks := B.notSynchronized
  subst hsz
  have hD := hD0.self (sz := s.heap.size)
  generalize hAe : va_A [(b_o, (oc12 u_th u_sa b_rf b_ro b_im b_ke u_fd b_tp u_td u_fr u_to u_so u_wo u_fa u_bd u_nc b_nl u_co b_op b_ar u_le b_pi b_pa u_pd u_od b_ws b_hw u_la b_se b_re u_bk u_va u_su u_ce u_ho u_wy u_bt u_ps b_pt u_tg u_sn b_ip u_ic b_ah b_be b_me u_wd b_tr b_ld u_st b_wn u_id)), (b_tp, (arI G 400 v_tp)), (b_pi, (arI G 400 v_pi)), (b_pa, (arI G 400 v_pa))] s.heap.size = A at hD hT ⊢
  have hA : ∀ q : Nat, s.heap.size ≤ q → A q := fun q h => by rw [← hAe]; exact Or.inr h
  have hS : va_S A s.heap s.heap [] := va_S.rf
  have hP : va_P G.1 vwCl [(b_o, (oc12 u_th u_sa b_rf b_ro b_im b_ke u_fd b_tp u_td u_fr u_to u_so u_wo u_fa u_bd u_nc b_nl u_co b_op b_ar u_le b_pi b_pa u_pd u_od b_ws b_hw u_la b_se b_re u_bk u_va u_su u_ce u_ho u_wy u_bt u_ps b_pt u_tg u_sn b_ip u_ic b_ah b_be b_me u_wd b_tr b_ld u_st b_wn u_id)), (b_tp, (arI G 400 v_tp)), (b_pi, (arI G 400 v_pi)), (b_pa, (arI G 400 v_pa))] s.heap := hP
  have hl := lv_entry ([.ref b_o, .int p_1]) (n := 2) (Nat.le_of_ble_eq_true rfl)
  rw [lg_entry_eq]
  generalize (lg_sl ([.ref b_o, .int p_1]) ++ List.replicate (2 - (lg_sl ([.ref b_o, .int p_1])).length) Slot.unset).toArray = ls at hl ⊢
  have hl : lv_has ls 2 [(0, .ref b_o), (1, .int p_1)] := hl
  refine lv_aload_n hx hb dX12_openBracket_0 rfl (lv_at hl 0 rfl) ?_
  refine lv_aload_n hx hb dX12_openBracket_1 rfl (lv_at hl 0 rfl) ?_
  refine va_get (D := G.1) (ci := 12) (v := .int u_od) (C := RX12) (T := TX12) (N := 52) hx hb hts inG_X12 hown hK hP 0 rfl rfl 24 (by decide) (hts _ fl_X12_258) (fun _ h9 => h9) rfl dX12_openBracket_2 ?_
  refine lv_bipush (v := 8) hx hb dX12_openBracket_5 (by decide) ?_
  refine lv_icmp_ge (tgt := 14) hx hb dX12_openBracket_7 (by decide) (fun c_1 => ?_) (fun c_1 => ?_)
  ·
    have i_1 : u_od.toInt ≥ 8 := by have z := g5_ge (a := u_od.toInt) (b := 8) (by rfl) (by decide) c_1; omega
    refine lv_iconst (v := 0) hx hb dX12_openBracket_14 (by decide) ?_
    obtain ⟨hPc, hDc, hFc⟩ := g5_sub3 (wc := [(b_o, (oc12 u_th u_sa b_rf b_ro b_im b_ke u_fd b_tp u_td u_fr u_to u_so u_wo u_fa u_bd u_nc b_nl u_co b_op b_ar u_le b_pi b_pa u_pd u_od b_ws b_hw u_la b_se b_re u_bk u_va u_su u_ce u_ho u_wy u_bt u_ps b_pt u_tg u_sn b_ip u_ic b_ah b_be b_me u_wd b_tr b_ld u_st b_wn u_id)), (b_tp, (arI G 400 v_tp))]) hP hD hS hA [0, 1] (by decide) rfl
    refine va_callv (va_runV (As := [.int 0]) (rest := []) ⟨hx, hb, hml, hown, hts⟩ (n_must0 l G b_o b_tp b_rf b_ro b_im b_ke b_nl b_op b_ar b_pi b_pa b_ws b_hw b_se b_re b_pt b_ip b_ah b_be b_me b_tr b_ld b_wn s.heap.size u_th u_sa u_fd u_td u_fr u_to u_so u_fa u_bd u_nc u_co u_le u_pd u_od u_la u_bk u_ce u_ho u_wy u_bt u_ps u_tg u_sn u_ic u_wd u_id u_wo u_va u_su u_st v_tp h_u_td h_u_fr h_u_to h_u_bd h_u_nc h_u_co h_u_pd h_u_la h_u_bk h_u_ce h_u_ho h_u_wy h_u_bt h_u_ps h_u_ic h_u_id) (cwV 1 hts gV_X12_233 rfl rfl rfl hv_X12_must ⟨Nat.le_of_ble_eq_true rfl, Nat.le_of_ble_eq_true rfl⟩) (g5_preV hPc hK hDc hN hT hS hFc (ci := 12) (q0 := 0) rfl rfl) rfl rfl hl.1 rfl (lv_room (Nat.le_of_ble_eq_true rfl)) dX12_openBracket_15 ⟨Nat.le_of_ble_eq_true rfl, Nat.le_of_ble_eq_true rfl⟩) hS (fun q _ h => hFc q h) hFc (fun u t H1 locs ht hvm hw hB hz1 hk1 hS => ?_)
    obtain ⟨hP1, hD1⟩ := hB
    rw [ht] at hP1
    obtain rfl := hw
    obtain ⟨hP, hD⟩ := va_join (wr := [(b_pi, (arI G 400 v_pi)), (b_pa, (arI G 400 v_pa))]) hP hD [0, 1] [2, 3] rfl rfl (by decide) (by decide) hk1 hFc hP1 hD1
    generalize H1 = H at hP hS ⊢
    refine g5_rs [(b_pi, (arI G 400 v_pi)), (b_pa, (arI G 400 v_pa)), (b_o, (oc12 u_th u_sa b_rf b_ro b_im b_ke u_fd b_tp u_td u_fr u_to u_so u_wo u_fr 1 u_nc b_nl u_co b_op b_ar u_le b_pi b_pa u_pd u_od b_ws b_hw u_la b_se b_re u_bk u_va u_su u_ce u_ho u_wy u_bt u_ps b_pt u_tg u_sn b_ip u_ic b_ah b_be b_me u_wd b_tr b_ld u_st b_wn u_id)), (b_tp, (arI G 400 v_tp))] hP hD (fun hP hD => ?_)
    refine lv_aload_n hx hb dX12_openBracket_18 rfl (lv_at hl 0 rfl) ?_
    refine va_get (D := G.1) (ci := 12) (v := .int 1) (C := RX12) (T := TX12) (N := 52) hx hb hts inG_X12 hown hK hP 2 rfl rfl 14 (by decide) (hts _ fl_X12_205) (fun _ h9 => h9) rfl dX12_openBracket_19 ?_
    refine lv_if_ne (tgt := 41) hx hb dX12_openBracket_22 (by decide) (fun c_2 => ?_) (fun c_2 => ?_)
    ·
      exact W.vret hx hb hr (fun t ht hW => ⟨⟨[(b_o, (oc12 u_th u_sa b_rf b_ro b_im b_ke u_fd b_tp u_td u_fr u_to u_so u_wo u_fr 1 u_nc b_nl u_co b_op b_ar u_le b_pi b_pa u_pd u_od b_ws b_hw u_la b_se b_re u_bk u_va u_su u_ce u_ho u_wy u_bt u_ps b_pt u_tg u_sn b_ip u_ic b_ah b_be b_me u_wd b_tr b_ld u_st b_wn u_id)), (b_tp, (arI G 400 v_tp)), (b_pi, (arI G 400 v_pi)), (b_pa, (arI G 400 v_pa))], rfl, Or.inl (rfl), by rw [ht]; exact hP.sub [2, 3, 0, 1] rfl, hD.sub [2, 3, 0, 1] (by decide) rfl⟩, hS.F ht⟩) hS.2.2 dX12_openBracket_41
    ·
      exact absurd c_2 (by decide)
  ·
    have i_1 : u_od.toInt < 8 := by have z := g5_geN (a := u_od.toInt) (b := 8) (by rfl) (by decide) c_1; omega
    refine lv_iconst (v := 1) hx hb dX12_openBracket_10 (by decide) ?_
    refine lv_goto (tgt := 15) hx hb dX12_openBracket_11 (by decide) ?_
    obtain ⟨hPc, hDc, hFc⟩ := g5_sub3 (wc := [(b_o, (oc12 u_th u_sa b_rf b_ro b_im b_ke u_fd b_tp u_td u_fr u_to u_so u_wo u_fa u_bd u_nc b_nl u_co b_op b_ar u_le b_pi b_pa u_pd u_od b_ws b_hw u_la b_se b_re u_bk u_va u_su u_ce u_ho u_wy u_bt u_ps b_pt u_tg u_sn b_ip u_ic b_ah b_be b_me u_wd b_tr b_ld u_st b_wn u_id)), (b_tp, (arI G 400 v_tp))]) hP hD hS hA [0, 1] (by decide) rfl
    refine va_callv (va_runV (As := [.int 1]) (rest := []) ⟨hx, hb, hml, hown, hts⟩ (n_must1 l G b_o b_tp b_rf b_ro b_im b_ke b_nl b_op b_ar b_pi b_pa b_ws b_hw b_se b_re b_pt b_ip b_ah b_be b_me b_tr b_ld b_wn s.heap.size u_th u_sa u_fd u_td u_fr u_to u_so u_fa u_bd u_nc u_co u_le u_pd u_od u_la u_bk u_ce u_ho u_wy u_bt u_ps u_tg u_sn u_ic u_wd u_id u_wo u_va u_su u_st v_tp h_u_td h_u_fr h_u_to h_u_bd h_u_nc h_u_co h_u_pd h_u_la h_u_bk h_u_ce h_u_ho h_u_wy h_u_bt h_u_ps h_u_ic h_u_id (e_t)) (cwV 1 hts gV_X12_233 rfl rfl rfl hv_X12_must ⟨Nat.le_of_ble_eq_true rfl, Nat.le_of_ble_eq_true rfl⟩) (g5_preV hPc hK hDc hN hT hS hFc (ci := 12) (q0 := 0) rfl rfl) rfl rfl hl.1 rfl (lv_room (Nat.le_of_ble_eq_true rfl)) dX12_openBracket_15 ⟨Nat.le_of_ble_eq_true rfl, Nat.le_of_ble_eq_true rfl⟩) hS (fun q _ h => hFc q h) hFc (fun u t H1 locs ht hvm hw hB hz1 hk1 hS => ?_)
    obtain ⟨hP1, hD1⟩ := hB
    rw [ht] at hP1
    obtain ⟨z7, z8, z9, z10, i_3, i_4, i_5, i_6, rfl⟩ := hw
    have i_3 : 0 ≤ z7.toInt ∧ z7.toInt ≤ 400 := i_3
    have i_4 : 0 ≤ z8.toInt ∧ z8.toInt ≤ 400 := i_4
    have i_5 : u_to.toInt ≤ z7.toInt ∧ z7.toInt ≤ z8.toInt ∧ z8.toInt ≤ u_td.toInt := i_5
    have i_6 : TKs z9.toInt z7.toInt z8.toInt := i_6
    obtain ⟨hP, hD⟩ := va_join (wr := [(b_pi, (arI G 400 v_pi)), (b_pa, (arI G 400 v_pa))]) hP hD [0, 1] [2, 3] rfl rfl (by decide) (by decide) hk1 hFc hP1 hD1
    generalize H1 = H at hP hS ⊢
    refine g5_rs [(b_pi, (arI G 400 v_pi)), (b_pa, (arI G 400 v_pa)), (b_o, (oc12 u_th u_sa b_rf b_ro b_im b_ke u_fd b_tp u_td z7 z8 z9 z10 u_fa u_bd u_nc b_nl u_co b_op b_ar u_le b_pi b_pa u_pd u_od b_ws b_hw u_la b_se b_re u_bk u_va u_su u_ce u_ho u_wy u_bt u_ps b_pt u_tg u_sn b_ip u_ic b_ah b_be b_me u_wd b_tr b_ld u_st b_wn u_id)), (b_tp, (arI G 400 v_tp))] hP hD (fun hP hD => ?_)
    refine lv_aload_n hx hb dX12_openBracket_18 rfl (lv_at hl 0 rfl) ?_
    refine va_get (D := G.1) (ci := 12) (v := .int u_bd) (C := RX12) (T := TX12) (N := 52) hx hb hts inG_X12 hown hK hP 2 rfl rfl 14 (by decide) (hts _ fl_X12_205) (fun _ h9 => h9) rfl dX12_openBracket_19 ?_
    refine lv_if_ne (tgt := 41) hx hb dX12_openBracket_22 (by decide) (fun c_11 => ?_) (fun c_11 => ?_)
    ·
      have i_11 : u_bd.toInt ≠ 0 := by have z := g5_ne (a := u_bd.toInt) (b := 0) (by rfl) (by decide) c_11; omega
      omega
    ·
      have i_11 : u_bd.toInt = 0 := by have z := g5_neN (a := u_bd.toInt) (b := 0) (by rfl) (by decide) c_11; omega
      refine lv_aload_n hx hb dX12_openBracket_25 rfl (lv_at hl 0 rfl) ?_
      refine lv_dup hx hb dX12_openBracket_26 rfl ?_
      refine va_get (D := G.1) (ci := 12) (v := .int u_od) (C := RX12) (T := TX12) (N := 52) hx hb hts inG_X12 hown hK hP 2 rfl rfl 24 (by decide) (hts _ fl_X12_258) (fun _ h9 => h9) rfl dX12_openBracket_27 ?_
      refine lv_iconst (v := 1) hx hb dX12_openBracket_30 (by decide) ?_
      have hrg_12 := g5_rg u_od
      refine lv_iadd hx hb dX12_openBracket_31 ?_
      have t_13 : (u_od + 1).toInt = u_od.toInt + 1 := g5_iadd (a := u_od.toInt) (b := 1) (by rfl) (by decide) (by omega) (by omega)
      refine va_put (D := G.1) (ci := 12) (v := .int (u_od + 1)) (ty := .int) (C := RX12) (T := TX12) (N := 52) hx hb hts inG_X12 tyX12 tyX12_ok nmX12 hown hK hP hD hS 2 rfl rfl 24 (by decide) (hts _ fl_X12_258) (fun _ h9 => h9) rfl (by decide +kernel) rfl rfl (Nat.le_of_ble_eq_true rfl) dX12_openBracket_32 (fun H locs hP hD hS => ?_)
      refine g5_rs [(b_pi, (arI G 400 v_pi)), (b_pa, (arI G 400 v_pa)), (b_o, (oc12 u_th u_sa b_rf b_ro b_im b_ke u_fd b_tp u_td z7 z8 z9 z10 u_fa u_bd u_nc b_nl u_co b_op b_ar u_le b_pi b_pa u_pd (u_od + 1) b_ws b_hw u_la b_se b_re u_bk u_va u_su u_ce u_ho u_wy u_bt u_ps b_pt u_tg u_sn b_ip u_ic b_ah b_be b_me u_wd b_tr b_ld u_st b_wn u_id)), (b_tp, (arI G 400 v_tp))] hP hD (fun hP hD => ?_)
      refine lv_aload_n hx hb dX12_openBracket_35 rfl (lv_at hl 0 rfl) ?_
      refine lv_iload_n hx hb dX12_openBracket_36 rfl (lv_at hl 1 rfl) ?_
      refine lv_iconst (v := 0) hx hb dX12_openBracket_37 (by decide) ?_
      obtain ⟨hPc, hDc, hFc⟩ := g5_sub3 (wc := [(b_o, (oc12 u_th u_sa b_rf b_ro b_im b_ke u_fd b_tp u_td z7 z8 z9 z10 u_fa u_bd u_nc b_nl u_co b_op b_ar u_le b_pi b_pa u_pd (u_od + 1) b_ws b_hw u_la b_se b_re u_bk u_va u_su u_ce u_ho u_wy u_bt u_ps b_pt u_tg u_sn b_ip u_ic b_ah b_be b_me u_wd b_tr b_ld u_st b_wn u_id)), (b_pi, (arI G 400 v_pi)), (b_pa, (arI G 400 v_pa))]) hP hD hS hA [2, 0, 1] (by decide) rfl
      refine va_callv (va_runV (As := [.int p_1, .int 0]) (rest := []) ⟨hx, hb, hml, hown, hts⟩ (n_push l G b_o b_pi b_pa b_rf b_ro b_im b_ke b_tp b_nl b_op b_ar b_ws b_hw b_se b_re b_pt b_ip b_ah b_be b_me b_tr b_ld b_wn H.size u_th u_sa u_fd u_td z7 z8 z9 u_fa u_bd u_nc u_co u_le u_pd (u_od + 1) u_la u_bk u_ce u_ho u_wy u_bt u_ps u_tg u_sn u_ic u_wd u_id p_1 0 z10 u_va u_su u_st v_pi v_pa h_u_td i_3 i_4 ⟨by omega, by omega⟩ h_u_nc h_u_co h_u_pd h_u_la h_u_bk h_u_ce h_u_ho h_u_wy h_u_bt h_u_ps h_u_ic h_u_id (by omega)) (cwV 2 hts gV_X12_261 rfl rfl rfl hv_X12_push ⟨Nat.le_of_ble_eq_true rfl, Nat.le_of_ble_eq_true rfl⟩) (g5_preV hPc hK hDc hN hT hS hFc (ci := 12) (q0 := 0) rfl rfl) rfl rfl hl.1 rfl (lv_room (Nat.le_of_ble_eq_true rfl)) dX12_openBracket_38 ⟨Nat.le_of_ble_eq_true rfl, Nat.le_of_ble_eq_true rfl⟩) hS (fun q _ h => hFc q h) hFc (fun u t H1 locs ht hvm hw hB hz1 hk1 hS => ?_)
      obtain ⟨hP1, hD1⟩ := hB
      rw [ht] at hP1
      obtain ⟨z16, i_14, i_15, rfl⟩ := hw
      have i_14 : 0 ≤ z16.toInt ∧ z16.toInt ≤ 400 := i_14
      have i_15 : z16.toInt = u_pd.toInt + 1 := i_15
      obtain ⟨hP, hD⟩ := va_join (wr := [(b_tp, (arI G 400 v_tp))]) hP hD [2, 0, 1] [3] rfl rfl (by decide) (by decide) hk1 hFc hP1 hD1
      generalize H1 = H at hP hS ⊢
      refine g5_rs [(b_tp, (arI G 400 v_tp)), (b_o, (oc12 u_th u_sa b_rf b_ro b_im b_ke u_fd b_tp u_td z7 z8 z9 z10 u_fa u_bd u_nc b_nl u_co b_op b_ar u_le b_pi b_pa z16 (u_od + 1) b_ws b_hw u_la b_se b_re u_bk u_va u_su u_ce u_ho u_wy u_bt u_ps b_pt u_tg u_sn b_ip u_ic b_ah b_be b_me u_wd b_tr b_ld u_st b_wn u_id)), (b_pi, (arI G 400 (upd v_pi u_pd.toNatClampNeg p_1))), (b_pa, (arI G 400 (upd v_pa u_pd.toNatClampNeg 0)))] hP hD (fun hP hD => ?_)
      exact W.vret hx hb hr (fun t ht hW => ⟨⟨[(b_o, (oc12 u_th u_sa b_rf b_ro b_im b_ke u_fd b_tp u_td z7 z8 z9 z10 u_fa u_bd u_nc b_nl u_co b_op b_ar u_le b_pi b_pa z16 (u_od + 1) b_ws b_hw u_la b_se b_re u_bk u_va u_su u_ce u_ho u_wy u_bt u_ps b_pt u_tg u_sn b_ip u_ic b_ah b_be b_me u_wd b_tr b_ld u_st b_wn u_id)), (b_tp, (arI G 400 v_tp)), (b_pi, (arI G 400 (upd v_pi u_pd.toNatClampNeg p_1))), (b_pa, (arI G 400 (upd v_pa u_pd.toNatClampNeg 0)))], rfl, Or.inr (⟨z7, z8, z9, z10, z16, (u_od + 1), i_3, i_4, i_14, by omega, i_6, by omega, rfl⟩), by rw [ht]; exact hP.sub [1, 0, 2, 3] rfl, hD.sub [1, 0, 2, 3] (by decide) rfl⟩, hS.F ht⟩) hS.2.2 dX12_openBracket_41
theorem dgX12_leaf_0 : ∀ r ∈ ([(0, (.aload_n 0, 1)), (1, (.iload_n 1, 1)), (2, (.ifCond .eq 16, 3)), (5, (.aload_n 0, 1)), (6, (.getfield 264, 3)), (9, (.bipush 50, 2)), (11, (.if_icmp .ge 7, 3)), (14, (.iconst 1, 1)), (15, (.goto 4, 3)), (18, (.iconst 0, 1)), (19, (.invokevirtual 233, 3)), (22, (.aload_n 0, 1)), (23, (.getfield 205, 3)), (26, (.ifCond .ne 19, 3)), (29, (.aload_n 0, 1)), (30, (.iload_n 2, 1)), (31, (.iload_n 3, 1)), (32, (.invokevirtual 246, 3)), (35, (.aload_n 0, 1)), (36, (.dup, 1)), (37, (.getfield 264, 3)), (40, (.iconst 1, 1)), (41, (.iadd, 1)), (42, (.putfield 264, 3)), (45, (.return_, 1))] : List (Nat × (Instr × Nat))), decode cX12_leaf r.1 = .ok r.2 := by decide +kernel
theorem dX12_leaf_0 : decode cX12_leaf 0 = .ok (.aload_n 0, 1) := dgX12_leaf_0 (0, (.aload_n 0, 1)) (List.mem_of_getElem? (i := 0) rfl)
theorem dX12_leaf_1 : decode cX12_leaf 1 = .ok (.iload_n 1, 1) := dgX12_leaf_0 (1, (.iload_n 1, 1)) (List.mem_of_getElem? (i := 1) rfl)
theorem dX12_leaf_2 : decode cX12_leaf 2 = .ok (.ifCond .eq 16, 3) := dgX12_leaf_0 (2, (.ifCond .eq 16, 3)) (List.mem_of_getElem? (i := 2) rfl)
theorem dX12_leaf_5 : decode cX12_leaf 5 = .ok (.aload_n 0, 1) := dgX12_leaf_0 (5, (.aload_n 0, 1)) (List.mem_of_getElem? (i := 3) rfl)
theorem dX12_leaf_6 : decode cX12_leaf 6 = .ok (.getfield 264, 3) := dgX12_leaf_0 (6, (.getfield 264, 3)) (List.mem_of_getElem? (i := 4) rfl)
theorem dX12_leaf_9 : decode cX12_leaf 9 = .ok (.bipush 50, 2) := dgX12_leaf_0 (9, (.bipush 50, 2)) (List.mem_of_getElem? (i := 5) rfl)
theorem dX12_leaf_11 : decode cX12_leaf 11 = .ok (.if_icmp .ge 7, 3) := dgX12_leaf_0 (11, (.if_icmp .ge 7, 3)) (List.mem_of_getElem? (i := 6) rfl)
theorem dX12_leaf_14 : decode cX12_leaf 14 = .ok (.iconst 1, 1) := dgX12_leaf_0 (14, (.iconst 1, 1)) (List.mem_of_getElem? (i := 7) rfl)
theorem dX12_leaf_15 : decode cX12_leaf 15 = .ok (.goto 4, 3) := dgX12_leaf_0 (15, (.goto 4, 3)) (List.mem_of_getElem? (i := 8) rfl)
theorem dX12_leaf_18 : decode cX12_leaf 18 = .ok (.iconst 0, 1) := dgX12_leaf_0 (18, (.iconst 0, 1)) (List.mem_of_getElem? (i := 9) rfl)
theorem dX12_leaf_19 : decode cX12_leaf 19 = .ok (.invokevirtual 233, 3) := dgX12_leaf_0 (19, (.invokevirtual 233, 3)) (List.mem_of_getElem? (i := 10) rfl)
theorem dX12_leaf_22 : decode cX12_leaf 22 = .ok (.aload_n 0, 1) := dgX12_leaf_0 (22, (.aload_n 0, 1)) (List.mem_of_getElem? (i := 11) rfl)
theorem dX12_leaf_23 : decode cX12_leaf 23 = .ok (.getfield 205, 3) := dgX12_leaf_0 (23, (.getfield 205, 3)) (List.mem_of_getElem? (i := 12) rfl)
theorem dX12_leaf_26 : decode cX12_leaf 26 = .ok (.ifCond .ne 19, 3) := dgX12_leaf_0 (26, (.ifCond .ne 19, 3)) (List.mem_of_getElem? (i := 13) rfl)
theorem dX12_leaf_29 : decode cX12_leaf 29 = .ok (.aload_n 0, 1) := dgX12_leaf_0 (29, (.aload_n 0, 1)) (List.mem_of_getElem? (i := 14) rfl)
theorem dX12_leaf_30 : decode cX12_leaf 30 = .ok (.iload_n 2, 1) := dgX12_leaf_0 (30, (.iload_n 2, 1)) (List.mem_of_getElem? (i := 15) rfl)
theorem dX12_leaf_31 : decode cX12_leaf 31 = .ok (.iload_n 3, 1) := dgX12_leaf_0 (31, (.iload_n 3, 1)) (List.mem_of_getElem? (i := 16) rfl)
theorem dX12_leaf_32 : decode cX12_leaf 32 = .ok (.invokevirtual 246, 3) := dgX12_leaf_0 (32, (.invokevirtual 246, 3)) (List.mem_of_getElem? (i := 17) rfl)
theorem dX12_leaf_35 : decode cX12_leaf 35 = .ok (.aload_n 0, 1) := dgX12_leaf_0 (35, (.aload_n 0, 1)) (List.mem_of_getElem? (i := 18) rfl)
theorem dX12_leaf_36 : decode cX12_leaf 36 = .ok (.dup, 1) := dgX12_leaf_0 (36, (.dup, 1)) (List.mem_of_getElem? (i := 19) rfl)
theorem dX12_leaf_37 : decode cX12_leaf 37 = .ok (.getfield 264, 3) := dgX12_leaf_0 (37, (.getfield 264, 3)) (List.mem_of_getElem? (i := 20) rfl)
theorem dX12_leaf_40 : decode cX12_leaf 40 = .ok (.iconst 1, 1) := dgX12_leaf_0 (40, (.iconst 1, 1)) (List.mem_of_getElem? (i := 21) rfl)
theorem dX12_leaf_41 : decode cX12_leaf 41 = .ok (.iadd, 1) := dgX12_leaf_0 (41, (.iadd, 1)) (List.mem_of_getElem? (i := 22) rfl)
theorem dX12_leaf_42 : decode cX12_leaf 42 = .ok (.putfield 264, 3) := dgX12_leaf_0 (42, (.putfield 264, 3)) (List.mem_of_getElem? (i := 23) rfl)
theorem dX12_leaf_45 : decode cX12_leaf 45 = .ok (.return_, 1) := dgX12_leaf_0 (45, (.return_, 1)) (List.mem_of_getElem? (i := 24) rfl)
theorem fl_X12_264 : Cond.fieldLink RX12 264 "LateGlassModel" "nLeaves" "I" ∈ tblG := tg 1223 (by decide +kernel) (by decide +kernel)
set_option maxHeartbeats 4000000 in
set_option maxRecDepth 100000 in
theorem n_leaf1 (l : Launch) (G : g5_G) (b_o b_tp b_op b_ar b_rf b_ro b_im b_ke b_nl b_pi b_pa b_ws b_hw b_se b_re b_pt b_ip b_ah b_be b_me b_tr b_ld b_wn : Nat) (sz : Nat) (u_th : Int32) (u_sa : Int32) (u_fd : Int32) (u_td : Int32) (u_fr : Int32) (u_to : Int32) (u_so : Int32) (u_fa : Int32) (u_bd : Int32) (u_nc : Int32) (u_co : Int32) (u_le : Int32) (u_pd : Int32) (u_od : Int32) (u_la : Int32) (u_bk : Int32) (u_ce : Int32) (u_ho : Int32) (u_wy : Int32) (u_bt : Int32) (u_ps : Int32) (u_tg : Int32) (u_sn : Int32) (u_ic : Int32) (u_wd : Int32) (u_id : Int32) (p_2 : Int32) (p_3 : Int32) (u_wo : Int64) (u_va : Int64) (u_su : Int64) (u_st : Int64) (v_tp : Nat → Int32) (v_op : Nat → Int32) (v_ar : Nat → Int32) (h_u_td : 0 ≤ u_td.toInt ∧ u_td.toInt ≤ 400) (h_u_fr : 0 ≤ u_fr.toInt ∧ u_fr.toInt ≤ 400) (h_u_to : 0 ≤ u_to.toInt ∧ u_to.toInt ≤ 400) (h_u_bd : 0 ≤ u_bd.toInt ∧ u_bd.toInt ≤ 0) (h_u_nc : 0 ≤ u_nc.toInt ∧ u_nc.toInt ≤ 12) (h_u_co : 0 ≤ u_co.toInt ∧ u_co.toInt ≤ 400) (h_u_pd : 0 ≤ u_pd.toInt ∧ u_pd.toInt ≤ 400) (h_u_la : 0 ≤ u_la.toInt ∧ u_la.toInt ≤ 4840) (h_u_bk : 0 ≤ u_bk.toInt ∧ u_bk.toInt ≤ 1) (h_u_ce : 0 ≤ u_ce.toInt ∧ u_ce.toInt ≤ 63) (h_u_ho : 0 ≤ u_ho.toInt ∧ u_ho.toInt ≤ 23) (h_u_wy : 0 ≤ u_wy.toInt ∧ u_wy.toInt ≤ 3) (h_u_bt : 0 ≤ u_bt.toInt ∧ u_bt.toInt ≤ 1000000) (h_u_ps : 0 ≤ u_ps.toInt ∧ u_ps.toInt ≤ 200) (h_u_ic : 0 ≤ u_ic.toInt ∧ u_ic.toInt ≤ 1) (h_u_id : 0 ≤ u_id.toInt ∧ u_id.toInt ≤ 1) (h_p_2 : 0 ≤ p_2.toInt ∧ p_2.toInt ≤ 8) (e_t : u_fr.toInt < u_to.toInt ∧ u_to.toInt ≤ u_td.toInt) (e_p : u_co.toInt ≤ u_fr.toInt) : Met l yX12_leaf (wsG yX12_leaf cX12_leaf 4 none) ({ frames := 3, cells := 0, slots := 0, locals := 61 }) (va_Pc [.ref b_o, .int 1, .int p_2, .int p_3] (g5_P G [(b_o, (oc12 u_th u_sa b_rf b_ro b_im b_ke u_fd b_tp u_td u_fr u_to u_so u_wo u_fa u_bd u_nc b_nl u_co b_op b_ar u_le b_pi b_pa u_pd u_od b_ws b_hw u_la b_se b_re u_bk u_va u_su u_ce u_ho u_wy u_bt u_ps b_pt u_tg u_sn b_ip u_ic b_ah b_be b_me u_wd b_tr b_ld u_st b_wn u_id)), (b_tp, (arI G 400 v_tp)), (b_op, (arI G 400 v_op)), (b_ar, (arI G 400 v_ar))] sz)) (va_Qv (fun (u : va_W) => ((u = [(b_o, (oc12 u_th u_sa b_rf b_ro b_im b_ke u_fd b_tp u_td u_fr u_to u_so u_wo u_fr 1 u_nc b_nl u_co b_op b_ar u_le b_pi b_pa u_pd u_od b_ws b_hw u_la b_se b_re u_bk u_va u_su u_ce u_ho u_wy u_bt u_ps b_pt u_tg u_sn b_ip u_ic b_ah b_be b_me u_wd b_tr b_ld u_st b_wn u_id)), (b_tp, (arI G 400 v_tp)), (b_op, (arI G 400 v_op)), (b_ar, (arI G 400 v_ar))])) ∨ (∃ (o_fr : Int32) (o_to : Int32) (o_so : Int32) (o_wo : Int64) (o_co : Int32) (o_le : Int32), (0 ≤ o_fr.toInt ∧ o_fr.toInt ≤ 400) ∧ (0 ≤ o_to.toInt ∧ o_to.toInt ≤ 400) ∧ (0 ≤ o_co.toInt ∧ o_co.toInt ≤ 400) ∧ (u_to.toInt ≤ o_fr.toInt ∧ o_fr.toInt ≤ o_to.toInt ∧ o_to.toInt ≤ u_td.toInt) ∧ (TKs o_so.toInt o_fr.toInt o_to.toInt) ∧ (o_co.toInt = u_co.toInt + 1) ∧ (u = [(b_o, (oc12 u_th u_sa b_rf b_ro b_im b_ke u_fd b_tp u_td o_fr o_to o_so o_wo u_fa u_bd u_nc b_nl o_co b_op b_ar o_le b_pi b_pa u_pd u_od b_ws b_hw u_la b_se b_re u_bk u_va u_su u_ce u_ho u_wy u_bt u_ps b_pt u_tg u_sn b_ip u_ic b_ah b_be b_me u_wd b_tr b_ld u_st b_wn u_id)), (b_tp, (arI G 400 v_tp)), (b_op, (arI G 400 (upd v_op u_co.toNatClampNeg p_2))), (b_ar, (arI G 400 (upd v_ar u_co.toNatClampNeg p_3)))]))) (g5_B G (va_A [(b_o, (oc12 u_th u_sa b_rf b_ro b_im b_ke u_fd b_tp u_td u_fr u_to u_so u_wo u_fa u_bd u_nc b_nl u_co b_op b_ar u_le b_pi b_pa u_pd u_od b_ws b_hw u_la b_se b_re u_bk u_va u_su u_ce u_ho u_wy u_bt u_ps b_pt u_tg u_sn b_ip u_ic b_ah b_be b_me u_wd b_tr b_ld u_st b_wn u_id)), (b_tp, (arI G 400 v_tp)), (b_op, (arI G 400 v_op)), (b_ar, (arI G 400 v_ar))] sz)) (va_A [(b_o, (oc12 u_th u_sa b_rf b_ro b_im b_ke u_fd b_tp u_td u_fr u_to u_so u_wo u_fa u_bd u_nc b_nl u_co b_op b_ar u_le b_pi b_pa u_pd u_od b_ws b_hw u_la b_se b_re u_bk u_va u_su u_ce u_ho u_wy u_bt u_ps b_pt u_tg u_sn b_ip u_ic b_ah b_be b_me u_wd b_tr b_ld u_st b_wn u_id)), (b_tp, (arI G 400 v_tp)), (b_op, (arI G 400 v_op)), (b_ar, (arI G 400 v_ar))] sz)) 0 0 (va_A [(b_o, (oc12 u_th u_sa b_rf b_ro b_im b_ke u_fd b_tp u_td u_fr u_to u_so u_wo u_fa u_bd u_nc b_nl u_co b_op b_ar u_le b_pi b_pa u_pd u_od b_ws b_hw u_la b_se b_re u_bk u_va u_su u_ce u_ho u_wy u_bt u_ps b_pt u_tg u_sn b_ip u_ic b_ah b_be b_me u_wd b_tr b_ld u_st b_wn u_id)), (b_tp, (arI G 400 v_tp)), (b_op, (arI G 400 v_op)), (b_ar, (arI G 400 v_ar))] sz) := by
  refine Met.ofW (cc := cX12_leaf) (maxL := 4) (ret := none) (by decide) rfl ?_
  intro p e s m args below meth c s₁ B hml hv
  obtain ⟨rfl, hsz, hP, hK, hD0, hN, hT⟩ := hv
  have hx := B.exec
  have hb := B.bytes
  have hr := B.returns
  have hts : ∀ w ∈ tblG, w.before _ s = true := fun w h => atoms_spec (ws := (wsG yX12_leaf cX12_leaf 4 none)) B.pre w (List.mem_cons_of_mem _ h)
  have hown : s.vm.findClass RX12 = some m.cls := findClass_of_methodNamed B.named
  have hlocks := B.notSynchronized
  subst hsz
  have hD := hD0.self (sz := s.heap.size)
  generalize hAe : va_A [(b_o, (oc12 u_th u_sa b_rf b_ro b_im b_ke u_fd b_tp u_td u_fr u_to u_so u_wo u_fa u_bd u_nc b_nl u_co b_op b_ar u_le b_pi b_pa u_pd u_od b_ws b_hw u_la b_se b_re u_bk u_va u_su u_ce u_ho u_wy u_bt u_ps b_pt u_tg u_sn b_ip u_ic b_ah b_be b_me u_wd b_tr b_ld u_st b_wn u_id)), (b_tp, (arI G 400 v_tp)), (b_op, (arI G 400 v_op)), (b_ar, (arI G 400 v_ar))] s.heap.size = A at hD hT ⊢
  have hA : ∀ q : Nat, s.heap.size ≤ q → A q := fun q h => by rw [← hAe]; exact Or.inr h
  have hS : va_S A s.heap s.heap [] := va_S.rf
  have hP : va_P G.1 vwCl [(b_o, (oc12 u_th u_sa b_rf b_ro b_im b_ke u_fd b_tp u_td u_fr u_to u_so u_wo u_fa u_bd u_nc b_nl u_co b_op b_ar u_le b_pi b_pa u_pd u_od b_ws b_hw u_la b_se b_re u_bk u_va u_su u_ce u_ho u_wy u_bt u_ps b_pt u_tg u_sn b_ip u_ic b_ah b_be b_me u_wd b_tr b_ld u_st b_wn u_id)), (b_tp, (arI G 400 v_tp)), (b_op, (arI G 400 v_op)), (b_ar, (arI G 400 v_ar))] s.heap := hP
  have hl := lv_entry ([.ref b_o, .int 1, .int p_2, .int p_3]) (n := 4) (Nat.le_of_ble_eq_true rfl)
  rw [lg_entry_eq]
  generalize (lg_sl ([.ref b_o, .int 1, .int p_2, .int p_3]) ++ List.replicate (4 - (lg_sl ([.ref b_o, .int 1, .int p_2, .int p_3])).length) Slot.unset).toArray = ls at hl ⊢
  have hl : lv_has ls 4 [(0, .ref b_o), (1, .int 1), (2, .int p_2), (3, .int p_3)] := hl
  refine lv_aload_n hx hb dX12_leaf_0 rfl (lv_at hl 0 rfl) ?_
  refine lv_iload_n hx hb dX12_leaf_1 rfl (lv_at hl 1 rfl) ?_
  refine lv_if_eq (tgt := 18) hx hb dX12_leaf_2 (by decide) (fun c_1 => ?_) (fun c_1 => ?_)
  ·
    exact absurd c_1 (by decide)
  ·
    refine lv_aload_n hx hb dX12_leaf_5 rfl (lv_at hl 0 rfl) ?_
    refine va_get (D := G.1) (ci := 12) (v := .int u_le) (C := RX12) (T := TX12) (N := 52) hx hb hts inG_X12 hown hK hP 0 rfl rfl 20 (by decide) (hts _ fl_X12_264) (fun _ h9 => h9) rfl dX12_leaf_6 ?_
    refine lv_bipush (v := 50) hx hb dX12_leaf_9 (by decide) ?_
    refine lv_icmp_ge (tgt := 18) hx hb dX12_leaf_11 (by decide) (fun c_2 => ?_) (fun c_2 => ?_)
    ·
      have i_2 : u_le.toInt ≥ 50 := by have z := g5_ge (a := u_le.toInt) (b := 50) (by rfl) (by decide) c_2; omega
      refine lv_iconst (v := 0) hx hb dX12_leaf_18 (by decide) ?_
      obtain ⟨hPc, hDc, hFc⟩ := g5_sub3 (wc := [(b_o, (oc12 u_th u_sa b_rf b_ro b_im b_ke u_fd b_tp u_td u_fr u_to u_so u_wo u_fa u_bd u_nc b_nl u_co b_op b_ar u_le b_pi b_pa u_pd u_od b_ws b_hw u_la b_se b_re u_bk u_va u_su u_ce u_ho u_wy u_bt u_ps b_pt u_tg u_sn b_ip u_ic b_ah b_be b_me u_wd b_tr b_ld u_st b_wn u_id)), (b_tp, (arI G 400 v_tp))]) hP hD hS hA [0, 1] (by decide) rfl
      refine va_callv (va_runV (As := [.int 0]) (rest := []) ⟨hx, hb, hml, hown, hts⟩ (n_must0 l G b_o b_tp b_rf b_ro b_im b_ke b_nl b_op b_ar b_pi b_pa b_ws b_hw b_se b_re b_pt b_ip b_ah b_be b_me b_tr b_ld b_wn s.heap.size u_th u_sa u_fd u_td u_fr u_to u_so u_fa u_bd u_nc u_co u_le u_pd u_od u_la u_bk u_ce u_ho u_wy u_bt u_ps u_tg u_sn u_ic u_wd u_id u_wo u_va u_su u_st v_tp h_u_td h_u_fr h_u_to h_u_bd h_u_nc h_u_co h_u_pd h_u_la h_u_bk h_u_ce h_u_ho h_u_wy h_u_bt h_u_ps h_u_ic h_u_id) (cwV 1 hts gV_X12_233 rfl rfl rfl hv_X12_must ⟨Nat.le_of_ble_eq_true rfl, Nat.le_of_ble_eq_true rfl⟩) (g5_preV hPc hK hDc hN hT hS hFc (ci := 12) (q0 := 0) rfl rfl) rfl rfl hl.1 rfl (lv_room (Nat.le_of_ble_eq_true rfl)) dX12_leaf_19 ⟨Nat.le_of_ble_eq_true rfl, Nat.le_of_ble_eq_true rfl⟩) hS (fun q _ h => hFc q h) hFc (fun u t H1 locs ht hvm hw hB hz1 hk1 hS => ?_)
      obtain ⟨hP1, hD1⟩ := hB
      rw [ht] at hP1
      obtain rfl := hw
      obtain ⟨hP, hD⟩ := va_join (wr := [(b_op, (arI G 400 v_op)), (b_ar, (arI G 400 v_ar))]) hP hD [0, 1] [2, 3] rfl rfl (by decide) (by decide) hk1 hFc hP1 hD1
      generalize H1 = H at hP hS ⊢
      refine g5_rs [(b_op, (arI G 400 v_op)), (b_ar, (arI G 400 v_ar)), (b_o, (oc12 u_th u_sa b_rf b_ro b_im b_ke u_fd b_tp u_td u_fr u_to u_so u_wo u_fr 1 u_nc b_nl u_co b_op b_ar u_le b_pi b_pa u_pd u_od b_ws b_hw u_la b_se b_re u_bk u_va u_su u_ce u_ho u_wy u_bt u_ps b_pt u_tg u_sn b_ip u_ic b_ah b_be b_me u_wd b_tr b_ld u_st b_wn u_id)), (b_tp, (arI G 400 v_tp))] hP hD (fun hP hD => ?_)
      refine lv_aload_n hx hb dX12_leaf_22 rfl (lv_at hl 0 rfl) ?_
      refine va_get (D := G.1) (ci := 12) (v := .int 1) (C := RX12) (T := TX12) (N := 52) hx hb hts inG_X12 hown hK hP 2 rfl rfl 14 (by decide) (hts _ fl_X12_205) (fun _ h9 => h9) rfl dX12_leaf_23 ?_
      refine lv_if_ne (tgt := 45) hx hb dX12_leaf_26 (by decide) (fun c_3 => ?_) (fun c_3 => ?_)
      ·
        exact W.vret hx hb hr (fun t ht hW => ⟨⟨[(b_o, (oc12 u_th u_sa b_rf b_ro b_im b_ke u_fd b_tp u_td u_fr u_to u_so u_wo u_fr 1 u_nc b_nl u_co b_op b_ar u_le b_pi b_pa u_pd u_od b_ws b_hw u_la b_se b_re u_bk u_va u_su u_ce u_ho u_wy u_bt u_ps b_pt u_tg u_sn b_ip u_ic b_ah b_be b_me u_wd b_tr b_ld u_st b_wn u_id)), (b_tp, (arI G 400 v_tp)), (b_op, (arI G 400 v_op)), (b_ar, (arI G 400 v_ar))], rfl, Or.inl (rfl), by rw [ht]; exact hP.sub [2, 3, 0, 1] rfl, hD.sub [2, 3, 0, 1] (by decide) rfl⟩, hS.F ht⟩) hS.2.2 dX12_leaf_45
      ·
        exact absurd c_3 (by decide)
    ·
      have i_2 : u_le.toInt < 50 := by have z := g5_geN (a := u_le.toInt) (b := 50) (by rfl) (by decide) c_2; omega
      refine lv_iconst (v := 1) hx hb dX12_leaf_14 (by decide) ?_
      refine lv_goto (tgt := 19) hx hb dX12_leaf_15 (by decide) ?_
      obtain ⟨hPc, hDc, hFc⟩ := g5_sub3 (wc := [(b_o, (oc12 u_th u_sa b_rf b_ro b_im b_ke u_fd b_tp u_td u_fr u_to u_so u_wo u_fa u_bd u_nc b_nl u_co b_op b_ar u_le b_pi b_pa u_pd u_od b_ws b_hw u_la b_se b_re u_bk u_va u_su u_ce u_ho u_wy u_bt u_ps b_pt u_tg u_sn b_ip u_ic b_ah b_be b_me u_wd b_tr b_ld u_st b_wn u_id)), (b_tp, (arI G 400 v_tp))]) hP hD hS hA [0, 1] (by decide) rfl
      refine va_callv (va_runV (As := [.int 1]) (rest := []) ⟨hx, hb, hml, hown, hts⟩ (n_must1 l G b_o b_tp b_rf b_ro b_im b_ke b_nl b_op b_ar b_pi b_pa b_ws b_hw b_se b_re b_pt b_ip b_ah b_be b_me b_tr b_ld b_wn s.heap.size u_th u_sa u_fd u_td u_fr u_to u_so u_fa u_bd u_nc u_co u_le u_pd u_od u_la u_bk u_ce u_ho u_wy u_bt u_ps u_tg u_sn u_ic u_wd u_id u_wo u_va u_su u_st v_tp h_u_td h_u_fr h_u_to h_u_bd h_u_nc h_u_co h_u_pd h_u_la h_u_bk h_u_ce h_u_ho h_u_wy h_u_bt h_u_ps h_u_ic h_u_id (e_t)) (cwV 1 hts gV_X12_233 rfl rfl rfl hv_X12_must ⟨Nat.le_of_ble_eq_true rfl, Nat.le_of_ble_eq_true rfl⟩) (g5_preV hPc hK hDc hN hT hS hFc (ci := 12) (q0 := 0) rfl rfl) rfl rfl hl.1 rfl (lv_room (Nat.le_of_ble_eq_true rfl)) dX12_leaf_19 ⟨Nat.le_of_ble_eq_true rfl, Nat.le_of_ble_eq_true rfl⟩) hS (fun q _ h => hFc q h) hFc (fun u t H1 locs ht hvm hw hB hz1 hk1 hS => ?_)
      obtain ⟨hP1, hD1⟩ := hB
      rw [ht] at hP1
      obtain ⟨z8, z9, z10, z11, i_4, i_5, i_6, i_7, rfl⟩ := hw
      have i_4 : 0 ≤ z8.toInt ∧ z8.toInt ≤ 400 := i_4
      have i_5 : 0 ≤ z9.toInt ∧ z9.toInt ≤ 400 := i_5
      have i_6 : u_to.toInt ≤ z8.toInt ∧ z8.toInt ≤ z9.toInt ∧ z9.toInt ≤ u_td.toInt := i_6
      have i_7 : TKs z10.toInt z8.toInt z9.toInt := i_7
      obtain ⟨hP, hD⟩ := va_join (wr := [(b_op, (arI G 400 v_op)), (b_ar, (arI G 400 v_ar))]) hP hD [0, 1] [2, 3] rfl rfl (by decide) (by decide) hk1 hFc hP1 hD1
      generalize H1 = H at hP hS ⊢
      refine g5_rs [(b_op, (arI G 400 v_op)), (b_ar, (arI G 400 v_ar)), (b_o, (oc12 u_th u_sa b_rf b_ro b_im b_ke u_fd b_tp u_td z8 z9 z10 z11 u_fa u_bd u_nc b_nl u_co b_op b_ar u_le b_pi b_pa u_pd u_od b_ws b_hw u_la b_se b_re u_bk u_va u_su u_ce u_ho u_wy u_bt u_ps b_pt u_tg u_sn b_ip u_ic b_ah b_be b_me u_wd b_tr b_ld u_st b_wn u_id)), (b_tp, (arI G 400 v_tp))] hP hD (fun hP hD => ?_)
      refine lv_aload_n hx hb dX12_leaf_22 rfl (lv_at hl 0 rfl) ?_
      refine va_get (D := G.1) (ci := 12) (v := .int u_bd) (C := RX12) (T := TX12) (N := 52) hx hb hts inG_X12 hown hK hP 2 rfl rfl 14 (by decide) (hts _ fl_X12_205) (fun _ h9 => h9) rfl dX12_leaf_23 ?_
      refine lv_if_ne (tgt := 45) hx hb dX12_leaf_26 (by decide) (fun c_12 => ?_) (fun c_12 => ?_)
      ·
        have i_12 : u_bd.toInt ≠ 0 := by have z := g5_ne (a := u_bd.toInt) (b := 0) (by rfl) (by decide) c_12; omega
        omega
      ·
        have i_12 : u_bd.toInt = 0 := by have z := g5_neN (a := u_bd.toInt) (b := 0) (by rfl) (by decide) c_12; omega
        refine lv_aload_n hx hb dX12_leaf_29 rfl (lv_at hl 0 rfl) ?_
        refine lv_iload_n hx hb dX12_leaf_30 rfl (lv_at hl 2 rfl) ?_
        refine lv_iload_n hx hb dX12_leaf_31 rfl (lv_at hl 3 rfl) ?_
        obtain ⟨hPc, hDc, hFc⟩ := g5_sub3 (wc := [(b_o, (oc12 u_th u_sa b_rf b_ro b_im b_ke u_fd b_tp u_td z8 z9 z10 z11 u_fa u_bd u_nc b_nl u_co b_op b_ar u_le b_pi b_pa u_pd u_od b_ws b_hw u_la b_se b_re u_bk u_va u_su u_ce u_ho u_wy u_bt u_ps b_pt u_tg u_sn b_ip u_ic b_ah b_be b_me u_wd b_tr b_ld u_st b_wn u_id)), (b_op, (arI G 400 v_op)), (b_ar, (arI G 400 v_ar))]) hP hD hS hA [2, 0, 1] (by decide) rfl
        refine va_callv (va_runV (As := [.int p_2, .int p_3]) (rest := []) ⟨hx, hb, hml, hown, hts⟩ (n_emit l G b_o b_op b_ar b_rf b_ro b_im b_ke b_tp b_nl b_pi b_pa b_ws b_hw b_se b_re b_pt b_ip b_ah b_be b_me b_tr b_ld b_wn H.size u_th u_sa u_fd u_td z8 z9 z10 u_fa u_bd u_nc u_co u_le u_pd u_od u_la u_bk u_ce u_ho u_wy u_bt u_ps u_tg u_sn u_ic u_wd u_id p_2 p_3 z11 u_va u_su u_st v_op v_ar h_u_td i_4 i_5 ⟨by omega, by omega⟩ h_u_nc h_u_co h_u_pd h_u_la h_u_bk h_u_ce h_u_ho h_u_wy h_u_bt h_u_ps h_u_ic h_u_id (by omega)) (cwV 2 hts gV_X12_246 rfl rfl rfl hv_X12_emit ⟨Nat.le_of_ble_eq_true rfl, Nat.le_of_ble_eq_true rfl⟩) (g5_preV hPc hK hDc hN hT hS hFc (ci := 12) (q0 := 0) rfl rfl) rfl rfl hl.1 rfl (lv_room (Nat.le_of_ble_eq_true rfl)) dX12_leaf_32 ⟨Nat.le_of_ble_eq_true rfl, Nat.le_of_ble_eq_true rfl⟩) hS (fun q _ h => hFc q h) hFc (fun u t H1 locs ht hvm hw hB hz1 hk1 hS => ?_)
        obtain ⟨hP1, hD1⟩ := hB
        rw [ht] at hP1
        obtain ⟨z15, i_13, i_14, rfl⟩ := hw
        have i_13 : 0 ≤ z15.toInt ∧ z15.toInt ≤ 400 := i_13
        have i_14 : z15.toInt = u_co.toInt + 1 := i_14
        obtain ⟨hP, hD⟩ := va_join (wr := [(b_tp, (arI G 400 v_tp))]) hP hD [2, 0, 1] [3] rfl rfl (by decide) (by decide) hk1 hFc hP1 hD1
        generalize H1 = H at hP hS ⊢
        refine g5_rs [(b_tp, (arI G 400 v_tp)), (b_o, (oc12 u_th u_sa b_rf b_ro b_im b_ke u_fd b_tp u_td z8 z9 z10 z11 u_fa u_bd u_nc b_nl z15 b_op b_ar u_le b_pi b_pa u_pd u_od b_ws b_hw u_la b_se b_re u_bk u_va u_su u_ce u_ho u_wy u_bt u_ps b_pt u_tg u_sn b_ip u_ic b_ah b_be b_me u_wd b_tr b_ld u_st b_wn u_id)), (b_op, (arI G 400 (upd v_op u_co.toNatClampNeg p_2))), (b_ar, (arI G 400 (upd v_ar u_co.toNatClampNeg p_3)))] hP hD (fun hP hD => ?_)
        refine lv_aload_n hx hb dX12_leaf_35 rfl (lv_at hl 0 rfl) ?_
        refine lv_dup hx hb dX12_leaf_36 rfl ?_
        refine va_get (D := G.1) (ci := 12) (v := .int u_le) (C := RX12) (T := TX12) (N := 52) hx hb hts inG_X12 hown hK hP 1 rfl rfl 20 (by decide) (hts _ fl_X12_264) (fun _ h9 => h9) rfl dX12_leaf_37 ?_
        have hrg_16 := g5_rg u_le
        refine lv_iconst (v := 1) hx hb dX12_leaf_40 (by decide) ?_
        refine lv_iadd hx hb dX12_leaf_41 ?_
        have t_17 : (u_le + 1).toInt = u_le.toInt + 1 := g5_iadd (a := u_le.toInt) (b := 1) (by rfl) (by decide) (by omega) (by omega)
        refine va_put (D := G.1) (ci := 12) (v := .int (u_le + 1)) (ty := .int) (C := RX12) (T := TX12) (N := 52) hx hb hts inG_X12 tyX12 tyX12_ok nmX12 hown hK hP hD hS 1 rfl rfl 20 (by decide) (hts _ fl_X12_264) (fun _ h9 => h9) rfl (by decide +kernel) rfl rfl (Nat.le_of_ble_eq_true rfl) dX12_leaf_42 (fun H locs hP hD hS => ?_)
        refine g5_rs [(b_tp, (arI G 400 v_tp)), (b_o, (oc12 u_th u_sa b_rf b_ro b_im b_ke u_fd b_tp u_td z8 z9 z10 z11 u_fa u_bd u_nc b_nl z15 b_op b_ar (u_le + 1) b_pi b_pa u_pd u_od b_ws b_hw u_la b_se b_re u_bk u_va u_su u_ce u_ho u_wy u_bt u_ps b_pt u_tg u_sn b_ip u_ic b_ah b_be b_me u_wd b_tr b_ld u_st b_wn u_id)), (b_op, (arI G 400 (upd v_op u_co.toNatClampNeg p_2))), (b_ar, (arI G 400 (upd v_ar u_co.toNatClampNeg p_3)))] hP hD (fun hP hD => ?_)
        exact W.vret hx hb hr (fun t ht hW => ⟨⟨[(b_o, (oc12 u_th u_sa b_rf b_ro b_im b_ke u_fd b_tp u_td z8 z9 z10 z11 u_fa u_bd u_nc b_nl z15 b_op b_ar (u_le + 1) b_pi b_pa u_pd u_od b_ws b_hw u_la b_se b_re u_bk u_va u_su u_ce u_ho u_wy u_bt u_ps b_pt u_tg u_sn b_ip u_ic b_ah b_be b_me u_wd b_tr b_ld u_st b_wn u_id)), (b_tp, (arI G 400 v_tp)), (b_op, (arI G 400 (upd v_op u_co.toNatClampNeg p_2))), (b_ar, (arI G 400 (upd v_ar u_co.toNatClampNeg p_3)))], rfl, Or.inr (⟨z8, z9, z10, z11, z15, (u_le + 1), i_4, i_5, i_13, by omega, i_7, by omega, rfl⟩), by rw [ht]; exact hP.sub [1, 0, 2, 3] rfl, hD.sub [1, 0, 2, 3] (by decide) rfl⟩, hS.F ht⟩) hS.2.2 dX12_leaf_45
set_option maxHeartbeats 4000000 in
set_option maxRecDepth 100000 in
theorem n_leaf0 (l : Launch) (G : g5_G) (b_o b_tp b_op b_ar b_rf b_ro b_im b_ke b_nl b_pi b_pa b_ws b_hw b_se b_re b_pt b_ip b_ah b_be b_me b_tr b_ld b_wn : Nat) (sz : Nat) (u_th : Int32) (u_sa : Int32) (u_fd : Int32) (u_td : Int32) (u_fr : Int32) (u_to : Int32) (u_so : Int32) (u_fa : Int32) (u_bd : Int32) (u_nc : Int32) (u_co : Int32) (u_le : Int32) (u_pd : Int32) (u_od : Int32) (u_la : Int32) (u_bk : Int32) (u_ce : Int32) (u_ho : Int32) (u_wy : Int32) (u_bt : Int32) (u_ps : Int32) (u_tg : Int32) (u_sn : Int32) (u_ic : Int32) (u_wd : Int32) (u_id : Int32) (p_2 : Int32) (p_3 : Int32) (u_wo : Int64) (u_va : Int64) (u_su : Int64) (u_st : Int64) (v_tp : Nat → Int32) (v_op : Nat → Int32) (v_ar : Nat → Int32) (h_u_td : 0 ≤ u_td.toInt ∧ u_td.toInt ≤ 400) (h_u_fr : 0 ≤ u_fr.toInt ∧ u_fr.toInt ≤ 400) (h_u_to : 0 ≤ u_to.toInt ∧ u_to.toInt ≤ 400) (h_u_bd : 0 ≤ u_bd.toInt ∧ u_bd.toInt ≤ 0) (h_u_nc : 0 ≤ u_nc.toInt ∧ u_nc.toInt ≤ 12) (h_u_co : 0 ≤ u_co.toInt ∧ u_co.toInt ≤ 400) (h_u_pd : 0 ≤ u_pd.toInt ∧ u_pd.toInt ≤ 400) (h_u_la : 0 ≤ u_la.toInt ∧ u_la.toInt ≤ 4840) (h_u_bk : 0 ≤ u_bk.toInt ∧ u_bk.toInt ≤ 1) (h_u_ce : 0 ≤ u_ce.toInt ∧ u_ce.toInt ≤ 63) (h_u_ho : 0 ≤ u_ho.toInt ∧ u_ho.toInt ≤ 23) (h_u_wy : 0 ≤ u_wy.toInt ∧ u_wy.toInt ≤ 3) (h_u_bt : 0 ≤ u_bt.toInt ∧ u_bt.toInt ≤ 1000000) (h_u_ps : 0 ≤ u_ps.toInt ∧ u_ps.toInt ≤ 200) (h_u_ic : 0 ≤ u_ic.toInt ∧ u_ic.toInt ≤ 1) (h_u_id : 0 ≤ u_id.toInt ∧ u_id.toInt ≤ 1) (h_p_2 : 0 ≤ p_2.toInt ∧ p_2.toInt ≤ 8) : Met l yX12_leaf (wsG yX12_leaf cX12_leaf 4 none) ({ frames := 1, cells := 0, slots := 0, locals := 21 }) (va_Pc [.ref b_o, .int 0, .int p_2, .int p_3] (g5_P G [(b_o, (oc12 u_th u_sa b_rf b_ro b_im b_ke u_fd b_tp u_td u_fr u_to u_so u_wo u_fa u_bd u_nc b_nl u_co b_op b_ar u_le b_pi b_pa u_pd u_od b_ws b_hw u_la b_se b_re u_bk u_va u_su u_ce u_ho u_wy u_bt u_ps b_pt u_tg u_sn b_ip u_ic b_ah b_be b_me u_wd b_tr b_ld u_st b_wn u_id)), (b_tp, (arI G 400 v_tp)), (b_op, (arI G 400 v_op)), (b_ar, (arI G 400 v_ar))] sz)) (va_Qv (fun (u : va_W) => ((u = [(b_o, (oc12 u_th u_sa b_rf b_ro b_im b_ke u_fd b_tp u_td u_fr u_to u_so u_wo u_fr 1 u_nc b_nl u_co b_op b_ar u_le b_pi b_pa u_pd u_od b_ws b_hw u_la b_se b_re u_bk u_va u_su u_ce u_ho u_wy u_bt u_ps b_pt u_tg u_sn b_ip u_ic b_ah b_be b_me u_wd b_tr b_ld u_st b_wn u_id)), (b_tp, (arI G 400 v_tp)), (b_op, (arI G 400 v_op)), (b_ar, (arI G 400 v_ar))]))) (g5_B G (va_A [(b_o, (oc12 u_th u_sa b_rf b_ro b_im b_ke u_fd b_tp u_td u_fr u_to u_so u_wo u_fa u_bd u_nc b_nl u_co b_op b_ar u_le b_pi b_pa u_pd u_od b_ws b_hw u_la b_se b_re u_bk u_va u_su u_ce u_ho u_wy u_bt u_ps b_pt u_tg u_sn b_ip u_ic b_ah b_be b_me u_wd b_tr b_ld u_st b_wn u_id)), (b_tp, (arI G 400 v_tp)), (b_op, (arI G 400 v_op)), (b_ar, (arI G 400 v_ar))] sz)) (va_A [(b_o, (oc12 u_th u_sa b_rf b_ro b_im b_ke u_fd b_tp u_td u_fr u_to u_so u_wo u_fa u_bd u_nc b_nl u_co b_op b_ar u_le b_pi b_pa u_pd u_od b_ws b_hw u_la b_se b_re u_bk u_va u_su u_ce u_ho u_wy u_bt u_ps b_pt u_tg u_sn b_ip u_ic b_ah b_be b_me u_wd b_tr b_ld u_st b_wn u_id)), (b_tp, (arI G 400 v_tp)), (b_op, (arI G 400 v_op)), (b_ar, (arI G 400 v_ar))] sz)) 0 0 (va_A [(b_o, (oc12 u_th u_sa b_rf b_ro b_im b_ke u_fd b_tp u_td u_fr u_to u_so u_wo u_fa u_bd u_nc b_nl u_co b_op b_ar u_le b_pi b_pa u_pd u_od b_ws b_hw u_la b_se b_re u_bk u_va u_su u_ce u_ho u_wy u_bt u_ps b_pt u_tg u_sn b_ip u_ic b_ah b_be b_me u_wd b_tr b_ld u_st b_wn u_id)), (b_tp, (arI G 400 v_tp)), (b_op, (arI G 400 v_op)), (b_ar, (arI G 400 v_ar))] sz) := by
  refine Met.ofW (cc := cX12_leaf) (maxL := 4) (ret := none) (by decide) rfl ?_
  intro p e s m args below meth c s₁ B hml hv
  obtain ⟨rfl, hsz, hP, hK, hD0, hN, hT⟩ := hv
  have hx := B.exec
  have hb := B.bytes
  have hr := B.returns
  have hts : ∀ w ∈ tblG, w.before _ s = true := fun w h => atoms_spec (ws := (wsG yX12_leaf cX12_leaf 4 none)) B.pre w (List.mem_cons_of_mem _ h)
  have hown : s.vm.findClass RX12 = some m.cls := findClass_of_methodNamed B.named
  have hlocks := B.notSynchronized
  subst hsz
  have hD := hD0.self (sz := s.heap.size)
  generalize hAe : va_A [(b_o, (oc12 u_th u_sa b_rf b_ro b_im b_ke u_fd b_tp u_td u_fr u_to u_so u_wo u_fa u_bd u_nc b_nl u_co b_op b_ar u_le b_pi b_pa u_pd u_od b_ws b_hw u_la b_se b_re u_bk u_va u_su u_ce u_ho u_wy u_bt u_ps b_pt u_tg u_sn b_ip u_ic b_ah b_be b_me u_wd b_tr b_ld u_st b_wn u_id)), (b_tp, (arI G 400 v_tp)), (b_op, (arI G 400 v_op)), (b_ar, (arI G 400 v_ar))] s.heap.size = A at hD hT ⊢
  have hA : ∀ q : Nat, s.heap.size ≤ q → A q := fun q h => by rw [← hAe]; exact Or.inr h
  have hS : va_S A s.heap s.heap [] := va_S.rf
  have hP : va_P G.1 vwCl [(b_o, (oc12 u_th u_sa b_rf b_ro b_im b_ke u_fd b_tp u_td u_fr u_to u_so u_wo u_fa u_bd u_nc b_nl u_co b_op b_ar u_le b_pi b_pa u_pd u_od b_ws b_hw u_la b_se b_re u_bk u_va u_su u_ce u_ho u_wy u_bt u_ps b_pt u_tg u_sn b_ip u_ic b_ah b_be b_me u_wd b_tr b_ld u_st b_wn u_id)), (b_tp, (arI G 400 v_tp)), (b_op, (arI G 400 v_op)), (b_ar, (arI G 400 v_ar))] s.heap := hP
  have hl := lv_entry ([.ref b_o, .int 0, .int p_2, .int p_3]) (n := 4) (Nat.le_of_ble_eq_true rfl)
  rw [lg_entry_eq]
  generalize (lg_sl ([.ref b_o, .int 0, .int p_2, .int p_3]) ++ List.replicate (4 - (lg_sl ([.ref b_o, .int 0, .int p_2, .int p_3])).length) Slot.unset).toArray = ls at hl ⊢
  have hl : lv_has ls 4 [(0, .ref b_o), (1, .int 0), (2, .int p_2), (3, .int p_3)] := hl
  refine lv_aload_n hx hb dX12_leaf_0 rfl (lv_at hl 0 rfl) ?_
  refine lv_iload_n hx hb dX12_leaf_1 rfl (lv_at hl 1 rfl) ?_
  refine lv_if_eq (tgt := 18) hx hb dX12_leaf_2 (by decide) (fun c_1 => ?_) (fun c_1 => ?_)
  ·
    refine lv_iconst (v := 0) hx hb dX12_leaf_18 (by decide) ?_
    obtain ⟨hPc, hDc, hFc⟩ := g5_sub3 (wc := [(b_o, (oc12 u_th u_sa b_rf b_ro b_im b_ke u_fd b_tp u_td u_fr u_to u_so u_wo u_fa u_bd u_nc b_nl u_co b_op b_ar u_le b_pi b_pa u_pd u_od b_ws b_hw u_la b_se b_re u_bk u_va u_su u_ce u_ho u_wy u_bt u_ps b_pt u_tg u_sn b_ip u_ic b_ah b_be b_me u_wd b_tr b_ld u_st b_wn u_id)), (b_tp, (arI G 400 v_tp))]) hP hD hS hA [0, 1] (by decide) rfl
    refine va_callv (va_runV (As := [.int 0]) (rest := []) ⟨hx, hb, hml, hown, hts⟩ (n_must0 l G b_o b_tp b_rf b_ro b_im b_ke b_nl b_op b_ar b_pi b_pa b_ws b_hw b_se b_re b_pt b_ip b_ah b_be b_me b_tr b_ld b_wn s.heap.size u_th u_sa u_fd u_td u_fr u_to u_so u_fa u_bd u_nc u_co u_le u_pd u_od u_la u_bk u_ce u_ho u_wy u_bt u_ps u_tg u_sn u_ic u_wd u_id u_wo u_va u_su u_st v_tp h_u_td h_u_fr h_u_to h_u_bd h_u_nc h_u_co h_u_pd h_u_la h_u_bk h_u_ce h_u_ho h_u_wy h_u_bt h_u_ps h_u_ic h_u_id) (cwV 1 hts gV_X12_233 rfl rfl rfl hv_X12_must ⟨Nat.le_of_ble_eq_true rfl, Nat.le_of_ble_eq_true rfl⟩) (g5_preV hPc hK hDc hN hT hS hFc (ci := 12) (q0 := 0) rfl rfl) rfl rfl hl.1 rfl (lv_room (Nat.le_of_ble_eq_true rfl)) dX12_leaf_19 ⟨Nat.le_of_ble_eq_true rfl, Nat.le_of_ble_eq_true rfl⟩) hS (fun q _ h => hFc q h) hFc (fun u t H1 locs ht hvm hw hB hz1 hk1 hS => ?_)
    obtain ⟨hP1, hD1⟩ := hB
    rw [ht] at hP1
    obtain rfl := hw
    obtain ⟨hP, hD⟩ := va_join (wr := [(b_op, (arI G 400 v_op)), (b_ar, (arI G 400 v_ar))]) hP hD [0, 1] [2, 3] rfl rfl (by decide) (by decide) hk1 hFc hP1 hD1
    generalize H1 = H at hP hS ⊢
    refine g5_rs [(b_op, (arI G 400 v_op)), (b_ar, (arI G 400 v_ar)), (b_o, (oc12 u_th u_sa b_rf b_ro b_im b_ke u_fd b_tp u_td u_fr u_to u_so u_wo u_fr 1 u_nc b_nl u_co b_op b_ar u_le b_pi b_pa u_pd u_od b_ws b_hw u_la b_se b_re u_bk u_va u_su u_ce u_ho u_wy u_bt u_ps b_pt u_tg u_sn b_ip u_ic b_ah b_be b_me u_wd b_tr b_ld u_st b_wn u_id)), (b_tp, (arI G 400 v_tp))] hP hD (fun hP hD => ?_)
    refine lv_aload_n hx hb dX12_leaf_22 rfl (lv_at hl 0 rfl) ?_
    refine va_get (D := G.1) (ci := 12) (v := .int 1) (C := RX12) (T := TX12) (N := 52) hx hb hts inG_X12 hown hK hP 2 rfl rfl 14 (by decide) (hts _ fl_X12_205) (fun _ h9 => h9) rfl dX12_leaf_23 ?_
    refine lv_if_ne (tgt := 45) hx hb dX12_leaf_26 (by decide) (fun c_2 => ?_) (fun c_2 => ?_)
    ·
      exact W.vret hx hb hr (fun t ht hW => ⟨⟨[(b_o, (oc12 u_th u_sa b_rf b_ro b_im b_ke u_fd b_tp u_td u_fr u_to u_so u_wo u_fr 1 u_nc b_nl u_co b_op b_ar u_le b_pi b_pa u_pd u_od b_ws b_hw u_la b_se b_re u_bk u_va u_su u_ce u_ho u_wy u_bt u_ps b_pt u_tg u_sn b_ip u_ic b_ah b_be b_me u_wd b_tr b_ld u_st b_wn u_id)), (b_tp, (arI G 400 v_tp)), (b_op, (arI G 400 v_op)), (b_ar, (arI G 400 v_ar))], rfl, rfl, by rw [ht]; exact hP.sub [2, 3, 0, 1] rfl, hD.sub [2, 3, 0, 1] (by decide) rfl⟩, hS.F ht⟩) hS.2.2 dX12_leaf_45
    ·
      exact absurd c_2 (by decide)
  ·
    exact absurd c_1 (by decide)
theorem dgX12_readPart_0 : ∀ r ∈ ([(0, (.aload_n 0, 1)), (1, (.bipush 91, 2)), (3, (.invokevirtual 267, 3)), (6, (.ifCond .eq 11, 3)), (9, (.aload_n 0, 1)), (10, (.bipush 31, 2)), (12, (.invokevirtual 270, 3)), (15, (.iconst 1, 1)), (16, (.ireturn, 1)), (17, (.aload_n 0, 1)), (18, (.invokevirtual 273, 3)), (21, (.istore_n 1, 1)), (22, (.aload_n 0, 1)), (23, (.getfield 224, 3)), (26, (.iconst 2, 1)), (27, (.if_icmp .ne 18, 3)), (30, (.aload_n 0, 1)), (31, (.getfield 214, 3)), (34, (.ldc2_w 277, 3)), (37, (.lcmp, 1)), (38, (.ifCond .gt 7, 3)), (41, (.iconst 1, 1)), (42, (.goto 4, 3)), (45, (.iconst 0, 1)), (46, (.istore_n 2, 1)), (47, (.aload_n 0, 1)), (48, (.iload_n 1, 1)), (49, (.iconst (-1), 1)), (50, (.if_icmp .ne 7, 3)), (53, (.iload_n 2, 1)), (54, (.ifCond .eq 7, 3)), (57, (.iconst 1, 1)), (58, (.goto 4, 3)), (61, (.iconst 0, 1)), (62, (.iload_n 1, 1)), (63, (.iconst (-1), 1)), (64, (.if_icmp .ne 7, 3)), (67, (.iconst 0, 1)), (68, (.goto 4, 3)), (71, (.iload_n 1, 1))] : List (Nat × (Instr × Nat))), decode cX12_readPart r.1 = .ok r.2 := by decide +kernel
theorem dX12_readPart_0 : decode cX12_readPart 0 = .ok (.aload_n 0, 1) := dgX12_readPart_0 (0, (.aload_n 0, 1)) (List.mem_of_getElem? (i := 0) rfl)
theorem dX12_readPart_1 : decode cX12_readPart 1 = .ok (.bipush 91, 2) := dgX12_readPart_0 (1, (.bipush 91, 2)) (List.mem_of_getElem? (i := 1) rfl)
theorem dX12_readPart_3 : decode cX12_readPart 3 = .ok (.invokevirtual 267, 3) := dgX12_readPart_0 (3, (.invokevirtual 267, 3)) (List.mem_of_getElem? (i := 2) rfl)
theorem dX12_readPart_6 : decode cX12_readPart 6 = .ok (.ifCond .eq 11, 3) := dgX12_readPart_0 (6, (.ifCond .eq 11, 3)) (List.mem_of_getElem? (i := 3) rfl)
theorem dX12_readPart_9 : decode cX12_readPart 9 = .ok (.aload_n 0, 1) := dgX12_readPart_0 (9, (.aload_n 0, 1)) (List.mem_of_getElem? (i := 4) rfl)
theorem dX12_readPart_10 : decode cX12_readPart 10 = .ok (.bipush 31, 2) := dgX12_readPart_0 (10, (.bipush 31, 2)) (List.mem_of_getElem? (i := 5) rfl)
theorem dX12_readPart_12 : decode cX12_readPart 12 = .ok (.invokevirtual 270, 3) := dgX12_readPart_0 (12, (.invokevirtual 270, 3)) (List.mem_of_getElem? (i := 6) rfl)
theorem dX12_readPart_15 : decode cX12_readPart 15 = .ok (.iconst 1, 1) := dgX12_readPart_0 (15, (.iconst 1, 1)) (List.mem_of_getElem? (i := 7) rfl)
theorem dX12_readPart_16 : decode cX12_readPart 16 = .ok (.ireturn, 1) := dgX12_readPart_0 (16, (.ireturn, 1)) (List.mem_of_getElem? (i := 8) rfl)
theorem dX12_readPart_17 : decode cX12_readPart 17 = .ok (.aload_n 0, 1) := dgX12_readPart_0 (17, (.aload_n 0, 1)) (List.mem_of_getElem? (i := 9) rfl)
theorem dX12_readPart_18 : decode cX12_readPart 18 = .ok (.invokevirtual 273, 3) := dgX12_readPart_0 (18, (.invokevirtual 273, 3)) (List.mem_of_getElem? (i := 10) rfl)
theorem dX12_readPart_21 : decode cX12_readPart 21 = .ok (.istore_n 1, 1) := dgX12_readPart_0 (21, (.istore_n 1, 1)) (List.mem_of_getElem? (i := 11) rfl)
theorem dX12_readPart_22 : decode cX12_readPart 22 = .ok (.aload_n 0, 1) := dgX12_readPart_0 (22, (.aload_n 0, 1)) (List.mem_of_getElem? (i := 12) rfl)
theorem dX12_readPart_23 : decode cX12_readPart 23 = .ok (.getfield 224, 3) := dgX12_readPart_0 (23, (.getfield 224, 3)) (List.mem_of_getElem? (i := 13) rfl)
theorem dX12_readPart_26 : decode cX12_readPart 26 = .ok (.iconst 2, 1) := dgX12_readPart_0 (26, (.iconst 2, 1)) (List.mem_of_getElem? (i := 14) rfl)
theorem dX12_readPart_27 : decode cX12_readPart 27 = .ok (.if_icmp .ne 18, 3) := dgX12_readPart_0 (27, (.if_icmp .ne 18, 3)) (List.mem_of_getElem? (i := 15) rfl)
theorem dX12_readPart_30 : decode cX12_readPart 30 = .ok (.aload_n 0, 1) := dgX12_readPart_0 (30, (.aload_n 0, 1)) (List.mem_of_getElem? (i := 16) rfl)
theorem dX12_readPart_31 : decode cX12_readPart 31 = .ok (.getfield 214, 3) := dgX12_readPart_0 (31, (.getfield 214, 3)) (List.mem_of_getElem? (i := 17) rfl)
theorem dX12_readPart_34 : decode cX12_readPart 34 = .ok (.ldc2_w 277, 3) := dgX12_readPart_0 (34, (.ldc2_w 277, 3)) (List.mem_of_getElem? (i := 18) rfl)
theorem dX12_readPart_37 : decode cX12_readPart 37 = .ok (.lcmp, 1) := dgX12_readPart_0 (37, (.lcmp, 1)) (List.mem_of_getElem? (i := 19) rfl)
theorem dX12_readPart_38 : decode cX12_readPart 38 = .ok (.ifCond .gt 7, 3) := dgX12_readPart_0 (38, (.ifCond .gt 7, 3)) (List.mem_of_getElem? (i := 20) rfl)
theorem dX12_readPart_41 : decode cX12_readPart 41 = .ok (.iconst 1, 1) := dgX12_readPart_0 (41, (.iconst 1, 1)) (List.mem_of_getElem? (i := 21) rfl)
theorem dX12_readPart_42 : decode cX12_readPart 42 = .ok (.goto 4, 3) := dgX12_readPart_0 (42, (.goto 4, 3)) (List.mem_of_getElem? (i := 22) rfl)
theorem dX12_readPart_45 : decode cX12_readPart 45 = .ok (.iconst 0, 1) := dgX12_readPart_0 (45, (.iconst 0, 1)) (List.mem_of_getElem? (i := 23) rfl)
theorem dX12_readPart_46 : decode cX12_readPart 46 = .ok (.istore_n 2, 1) := dgX12_readPart_0 (46, (.istore_n 2, 1)) (List.mem_of_getElem? (i := 24) rfl)
theorem dX12_readPart_47 : decode cX12_readPart 47 = .ok (.aload_n 0, 1) := dgX12_readPart_0 (47, (.aload_n 0, 1)) (List.mem_of_getElem? (i := 25) rfl)
theorem dX12_readPart_48 : decode cX12_readPart 48 = .ok (.iload_n 1, 1) := dgX12_readPart_0 (48, (.iload_n 1, 1)) (List.mem_of_getElem? (i := 26) rfl)
theorem dX12_readPart_49 : decode cX12_readPart 49 = .ok (.iconst (-1), 1) := dgX12_readPart_0 (49, (.iconst (-1), 1)) (List.mem_of_getElem? (i := 27) rfl)
theorem dX12_readPart_50 : decode cX12_readPart 50 = .ok (.if_icmp .ne 7, 3) := dgX12_readPart_0 (50, (.if_icmp .ne 7, 3)) (List.mem_of_getElem? (i := 28) rfl)
theorem dX12_readPart_53 : decode cX12_readPart 53 = .ok (.iload_n 2, 1) := dgX12_readPart_0 (53, (.iload_n 2, 1)) (List.mem_of_getElem? (i := 29) rfl)
theorem dX12_readPart_54 : decode cX12_readPart 54 = .ok (.ifCond .eq 7, 3) := dgX12_readPart_0 (54, (.ifCond .eq 7, 3)) (List.mem_of_getElem? (i := 30) rfl)
theorem dX12_readPart_57 : decode cX12_readPart 57 = .ok (.iconst 1, 1) := dgX12_readPart_0 (57, (.iconst 1, 1)) (List.mem_of_getElem? (i := 31) rfl)
theorem dX12_readPart_58 : decode cX12_readPart 58 = .ok (.goto 4, 3) := dgX12_readPart_0 (58, (.goto 4, 3)) (List.mem_of_getElem? (i := 32) rfl)
theorem dX12_readPart_61 : decode cX12_readPart 61 = .ok (.iconst 0, 1) := dgX12_readPart_0 (61, (.iconst 0, 1)) (List.mem_of_getElem? (i := 33) rfl)
theorem dX12_readPart_62 : decode cX12_readPart 62 = .ok (.iload_n 1, 1) := dgX12_readPart_0 (62, (.iload_n 1, 1)) (List.mem_of_getElem? (i := 34) rfl)
theorem dX12_readPart_63 : decode cX12_readPart 63 = .ok (.iconst (-1), 1) := dgX12_readPart_0 (63, (.iconst (-1), 1)) (List.mem_of_getElem? (i := 35) rfl)
theorem dX12_readPart_64 : decode cX12_readPart 64 = .ok (.if_icmp .ne 7, 3) := dgX12_readPart_0 (64, (.if_icmp .ne 7, 3)) (List.mem_of_getElem? (i := 36) rfl)
theorem dX12_readPart_67 : decode cX12_readPart 67 = .ok (.iconst 0, 1) := dgX12_readPart_0 (67, (.iconst 0, 1)) (List.mem_of_getElem? (i := 37) rfl)
theorem dX12_readPart_68 : decode cX12_readPart 68 = .ok (.goto 4, 3) := dgX12_readPart_0 (68, (.goto 4, 3)) (List.mem_of_getElem? (i := 38) rfl)
theorem dX12_readPart_71 : decode cX12_readPart 71 = .ok (.iload_n 1, 1) := dgX12_readPart_0 (71, (.iload_n 1, 1)) (List.mem_of_getElem? (i := 39) rfl)
theorem dgX12_readPart_1 : ∀ r ∈ ([(72, (.iload_n 2, 1)), (73, (.ifCond .eq 11, 3)), (76, (.aload_n 0, 1)), (77, (.getfield 214, 3)), (80, (.l2i, 1)), (81, (.goto 4, 3)), (84, (.iconst 0, 1)), (85, (.invokevirtual 279, 3)), (88, (.iconst 3, 1)), (89, (.ireturn, 1))] : List (Nat × (Instr × Nat))), decode cX12_readPart r.1 = .ok r.2 := by decide +kernel
theorem dX12_readPart_72 : decode cX12_readPart 72 = .ok (.iload_n 2, 1) := dgX12_readPart_1 (72, (.iload_n 2, 1)) (List.mem_of_getElem? (i := 0) rfl)
theorem dX12_readPart_73 : decode cX12_readPart 73 = .ok (.ifCond .eq 11, 3) := dgX12_readPart_1 (73, (.ifCond .eq 11, 3)) (List.mem_of_getElem? (i := 1) rfl)
theorem dX12_readPart_76 : decode cX12_readPart 76 = .ok (.aload_n 0, 1) := dgX12_readPart_1 (76, (.aload_n 0, 1)) (List.mem_of_getElem? (i := 2) rfl)
theorem dX12_readPart_77 : decode cX12_readPart 77 = .ok (.getfield 214, 3) := dgX12_readPart_1 (77, (.getfield 214, 3)) (List.mem_of_getElem? (i := 3) rfl)
theorem dX12_readPart_80 : decode cX12_readPart 80 = .ok (.l2i, 1) := dgX12_readPart_1 (80, (.l2i, 1)) (List.mem_of_getElem? (i := 4) rfl)
theorem dX12_readPart_81 : decode cX12_readPart 81 = .ok (.goto 4, 3) := dgX12_readPart_1 (81, (.goto 4, 3)) (List.mem_of_getElem? (i := 5) rfl)
theorem dX12_readPart_84 : decode cX12_readPart 84 = .ok (.iconst 0, 1) := dgX12_readPart_1 (84, (.iconst 0, 1)) (List.mem_of_getElem? (i := 6) rfl)
theorem dX12_readPart_85 : decode cX12_readPart 85 = .ok (.invokevirtual 279, 3) := dgX12_readPart_1 (85, (.invokevirtual 279, 3)) (List.mem_of_getElem? (i := 7) rfl)
theorem dX12_readPart_88 : decode cX12_readPart 88 = .ok (.iconst 3, 1) := dgX12_readPart_1 (88, (.iconst 3, 1)) (List.mem_of_getElem? (i := 8) rfl)
theorem dX12_readPart_89 : decode cX12_readPart 89 = .ok (.ireturn, 1) := dgX12_readPart_1 (89, (.ireturn, 1)) (List.mem_of_getElem? (i := 9) rfl)
theorem ml_X12_267 : Cond.methodLink RX12 267 yX12_isSign ∈ tblG := tg 1542 (by decide +kernel) (by decide +kernel)
theorem im_X12_isSign : Cond.instanceMethod yX12_isSign ∈ tblG := tg 1544 (by decide +kernel) (by decide +kernel)
theorem se_X12_isSign : Cond.selects RX12 yX12_isSign yX12_isSign ∈ tblG := tg 51 (by decide +kernel) (by decide +kernel)
theorem cd_X12_isSign : Cond.code yX12_isSign cX12_isSign 2 (some .boolean) ∈ tblG := tg 1545 (by decide +kernel) (by decide +kernel)
theorem gW_X12_isSign : GoodIn tblG (wsG yX12_isSign cX12_isSign 2 (some .boolean)) := tgi cd_X12_isSign
theorem gV_X12_267 : GoodIn tblG (wsV RX12 267 RX12 yX12_isSign (wsG yX12_isSign cX12_isSign 2 (some .boolean))) := tgV ml_X12_267 im_X12_isSign se_X12_isSign ini_X12 gW_X12_isSign
theorem hv_X12_isSign : yX12_isSign.cls = RX12 ∧ yX12_isSign.cls ≠ "java/lang/invoke/MethodHandle" ∧ yX12_isSign.cls ≠ "java/lang/invoke/VarHandle" ∧ (parseMethodDescriptor yX12_isSign.desc).map (fun d => d.parameters.length) = some 1 := by decide +kernel
theorem ml_X12_270 : Cond.methodLink RX12 270 yX12_openBracket ∈ tblG := tg 1546 (by decide +kernel) (by decide +kernel)
theorem im_X12_openBracket : Cond.instanceMethod yX12_openBracket ∈ tblG := tg 1548 (by decide +kernel) (by decide +kernel)
theorem se_X12_openBracket : Cond.selects RX12 yX12_openBracket yX12_openBracket ∈ tblG := tg 52 (by decide +kernel) (by decide +kernel)
theorem cd_X12_openBracket : Cond.code yX12_openBracket cX12_openBracket 2 none ∈ tblG := tg 1549 (by decide +kernel) (by decide +kernel)
theorem gW_X12_openBracket : GoodIn tblG (wsG yX12_openBracket cX12_openBracket 2 none) := tgi cd_X12_openBracket
theorem gV_X12_270 : GoodIn tblG (wsV RX12 270 RX12 yX12_openBracket (wsG yX12_openBracket cX12_openBracket 2 none)) := tgV ml_X12_270 im_X12_openBracket se_X12_openBracket ini_X12 gW_X12_openBracket
theorem hv_X12_openBracket : yX12_openBracket.cls = RX12 ∧ yX12_openBracket.cls ≠ "java/lang/invoke/MethodHandle" ∧ yX12_openBracket.cls ≠ "java/lang/invoke/VarHandle" ∧ (parseMethodDescriptor yX12_openBracket.desc).map (fun d => d.parameters.length) = some 1 := by decide +kernel
theorem ml_X12_273 : Cond.methodLink RX12 273 yX12_partAt ∈ tblG := tg 1554 (by decide +kernel) (by decide +kernel)
theorem im_X12_partAt : Cond.instanceMethod yX12_partAt ∈ tblG := tg 1556 (by decide +kernel) (by decide +kernel)
theorem se_X12_partAt : Cond.selects RX12 yX12_partAt yX12_partAt ∈ tblG := tg 54 (by decide +kernel) (by decide +kernel)
theorem cd_X12_partAt : Cond.code yX12_partAt cX12_partAt 3 (some .int) ∈ tblG := tg 1557 (by decide +kernel) (by decide +kernel)
theorem gW_X12_partAt : GoodIn tblG (wsG yX12_partAt cX12_partAt 3 (some .int)) := tgi cd_X12_partAt
theorem gV_X12_273 : GoodIn tblG (wsV RX12 273 RX12 yX12_partAt (wsG yX12_partAt cX12_partAt 3 (some .int))) := tgV ml_X12_273 im_X12_partAt se_X12_partAt ini_X12 gW_X12_partAt
theorem hv_X12_partAt : yX12_partAt.cls = RX12 ∧ yX12_partAt.cls ≠ "java/lang/invoke/MethodHandle" ∧ yX12_partAt.cls ≠ "java/lang/invoke/VarHandle" ∧ (parseMethodDescriptor yX12_partAt.desc).map (fun d => d.parameters.length) = some 0 := by decide +kernel
theorem ml_X12_279 : Cond.methodLink RX12 279 yX12_leaf ∈ tblG := tg 1559 (by decide +kernel) (by decide +kernel)
theorem im_X12_leaf : Cond.instanceMethod yX12_leaf ∈ tblG := tg 1561 (by decide +kernel) (by decide +kernel)
theorem se_X12_leaf : Cond.selects RX12 yX12_leaf yX12_leaf ∈ tblG := tg 55 (by decide +kernel) (by decide +kernel)
theorem cd_X12_leaf : Cond.code yX12_leaf cX12_leaf 4 none ∈ tblG := tg 1562 (by decide +kernel) (by decide +kernel)
theorem gW_X12_leaf : GoodIn tblG (wsG yX12_leaf cX12_leaf 4 none) := tgi cd_X12_leaf
theorem gV_X12_279 : GoodIn tblG (wsV RX12 279 RX12 yX12_leaf (wsG yX12_leaf cX12_leaf 4 none)) := tgV ml_X12_279 im_X12_leaf se_X12_leaf ini_X12 gW_X12_leaf
theorem hv_X12_leaf : yX12_leaf.cls = RX12 ∧ yX12_leaf.cls ≠ "java/lang/invoke/MethodHandle" ∧ yX12_leaf.cls ≠ "java/lang/invoke/VarHandle" ∧ (parseMethodDescriptor yX12_leaf.desc).map (fun d => d.parameters.length) = some 3 := by decide +kernel
theorem kl_X12_277 : Cond.constantLong RX12 277 1000 ∈ tblG := tg 1558 (by decide +kernel) (by decide +kernel)
