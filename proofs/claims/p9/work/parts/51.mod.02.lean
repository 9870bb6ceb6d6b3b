set_option maxHeartbeats 4000000 in
set_option maxRecDepth 100000 in
theorem n_must1 (l : Launch) (G : g5_G) (b_o b_tp b_rf b_ro b_im b_ke b_nl b_op b_ar b_pi b_pa b_ws b_hw b_se b_re b_pt b_ip b_ah b_be b_me b_tr b_ld b_wn : Nat) (sz : Nat) (u_th : Int32) (u_sa : Int32) (u_fd : Int32) (u_td : Int32) (u_fr : Int32) (u_to : Int32) (u_so : Int32) (u_fa : Int32) (u_bd : Int32) (u_nc : Int32) (u_co : Int32) (u_le : Int32) (u_pd : Int32) (u_od : Int32) (u_la : Int32) (u_bk : Int32) (u_ce : Int32) (u_ho : Int32) (u_wy : Int32) (u_bt : Int32) (u_ps : Int32) (u_tg : Int32) (u_sn : Int32) (u_ic : Int32) (u_wd : Int32) (u_id : Int32) (u_wo : Int64) (u_va : Int64) (u_su : Int64) (u_st : Int64) (v_tp : Nat → Int32) (h_u_td : 0 ≤ u_td.toInt ∧ u_td.toInt ≤ 400) (h_u_fr : 0 ≤ u_fr.toInt ∧ u_fr.toInt ≤ 400) (h_u_to : 0 ≤ u_to.toInt ∧ u_to.toInt ≤ 400) (h_u_bd : 0 ≤ u_bd.toInt ∧ u_bd.toInt ≤ 0) (h_u_nc : 0 ≤ u_nc.toInt ∧ u_nc.toInt ≤ 12) (h_u_co : 0 ≤ u_co.toInt ∧ u_co.toInt ≤ 400) (h_u_pd : 0 ≤ u_pd.toInt ∧ u_pd.toInt ≤ 400) (h_u_la : 0 ≤ u_la.toInt ∧ u_la.toInt ≤ 4840) (h_u_bk : 0 ≤ u_bk.toInt ∧ u_bk.toInt ≤ 1) (h_u_ce : 0 ≤ u_ce.toInt ∧ u_ce.toInt ≤ 63) (h_u_ho : 0 ≤ u_ho.toInt ∧ u_ho.toInt ≤ 23) (h_u_wy : 0 ≤ u_wy.toInt ∧ u_wy.toInt ≤ 3) (h_u_bt : 0 ≤ u_bt.toInt ∧ u_bt.toInt ≤ 1000000) (h_u_ps : 0 ≤ u_ps.toInt ∧ u_ps.toInt ≤ 200) (h_u_ic : 0 ≤ u_ic.toInt ∧ u_ic.toInt ≤ 1) (h_u_id : 0 ≤ u_id.toInt ∧ u_id.toInt ≤ 1) (e_t : u_fr.toInt < u_to.toInt ∧ u_to.toInt ≤ u_td.toInt) : Met l yX12_must (wsG yX12_must cX12_must 2 none) ({ frames := 2, cells := 0, slots := 0, locals := 40 }) (va_Pc [.ref b_o, .int 1] (g5_P G [(b_o, (oc12 u_th u_sa b_rf b_ro b_im b_ke u_fd b_tp u_td u_fr u_to u_so u_wo u_fa u_bd u_nc b_nl u_co b_op b_ar u_le b_pi b_pa u_pd u_od b_ws b_hw u_la b_se b_re u_bk u_va u_su u_ce u_ho u_wy u_bt u_ps b_pt u_tg u_sn b_ip u_ic b_ah b_be b_me u_wd b_tr b_ld u_st b_wn u_id)), (b_tp, (arI G 400 v_tp))] sz)) (va_Qv (fun (u : va_W) => (∃ (o_fr : Int32) (o_to : Int32) (o_so : Int32) (o_wo : Int64), (0 ≤ o_fr.toInt ∧ o_fr.toInt ≤ 400) ∧ (0 ≤ o_to.toInt ∧ o_to.toInt ≤ 400) ∧ (u_to.toInt ≤ o_fr.toInt ∧ o_fr.toInt ≤ o_to.toInt ∧ o_to.toInt ≤ u_td.toInt) ∧ (TKs o_so.toInt o_fr.toInt o_to.toInt) ∧ (u = [(b_o, (oc12 u_th u_sa b_rf b_ro b_im b_ke u_fd b_tp u_td o_fr o_to o_so o_wo u_fa u_bd u_nc b_nl u_co b_op b_ar u_le b_pi b_pa u_pd u_od b_ws b_hw u_la b_se b_re u_bk u_va u_su u_ce u_ho u_wy u_bt u_ps b_pt u_tg u_sn b_ip u_ic b_ah b_be b_me u_wd b_tr b_ld u_st b_wn u_id)), (b_tp, (arI G 400 v_tp))]))) (g5_B G (va_A [(b_o, (oc12 u_th u_sa b_rf b_ro b_im b_ke u_fd b_tp u_td u_fr u_to u_so u_wo u_fa u_bd u_nc b_nl u_co b_op b_ar u_le b_pi b_pa u_pd u_od b_ws b_hw u_la b_se b_re u_bk u_va u_su u_ce u_ho u_wy u_bt u_ps b_pt u_tg u_sn b_ip u_ic b_ah b_be b_me u_wd b_tr b_ld u_st b_wn u_id)), (b_tp, (arI G 400 v_tp))] sz)) (va_A [(b_o, (oc12 u_th u_sa b_rf b_ro b_im b_ke u_fd b_tp u_td u_fr u_to u_so u_wo u_fa u_bd u_nc b_nl u_co b_op b_ar u_le b_pi b_pa u_pd u_od b_ws b_hw u_la b_se b_re u_bk u_va u_su u_ce u_ho u_wy u_bt u_ps b_pt u_tg u_sn b_ip u_ic b_ah b_be b_me u_wd b_tr b_ld u_st b_wn u_id)), (b_tp, (arI G 400 v_tp))] sz)) 0 0 (va_A [(b_o, (oc12 u_th u_sa b_rf b_ro b_im b_ke u_fd b_tp u_td u_fr u_to u_so u_wo u_fa u_bd u_nc b_nl u_co b_op b_ar u_le b_pi b_pa u_pd u_od b_ws b_hw u_la b_se b_re u_bk u_va u_su u_ce u_ho u_wy u_bt u_ps b_pt u_tg u_sn b_ip u_ic b_ah b_be b_me u_wd b_tr b_ld u_st b_wn u_id)), (b_tp, (arI G 400 v_tp))] sz) := by
  refine Met.ofW (cc := cX12_must) (maxL := 2) (ret := none) (by decide) rfl ?_
  intro p e s m args below meth c s₁ B hml hv
  obtain ⟨rfl, hsz, hP, hK, hD0, hN, hT⟩ := hv
  have hx := B.exec
  have hb := B.bytes
  have hr := B.returns
  have hts : ∀ w ∈ tblG, w.before _ s = true := fun w h => atoms_spec (ws := (wsG yX12_must cX12_must 2 none)) B.pre w (List.mem_cons_of_mem _ h)
  have hown : s.vm.findClass RX12 = some m.cls := findClass_of_methodNamed B.named
  have hlocks := B.notSynchronized
  subst hsz
  have hD := hD0.self (sz := s.heap.size)
  generalize hAe : va_A [(b_o, (oc12 u_th u_sa b_rf b_ro b_im b_ke u_fd b_tp u_td u_fr u_to u_so u_wo u_fa u_bd u_nc b_nl u_co b_op b_ar u_le b_pi b_pa u_pd u_od b_ws b_hw u_la b_se b_re u_bk u_va u_su u_ce u_ho u_wy u_bt u_ps b_pt u_tg u_sn b_ip u_ic b_ah b_be b_me u_wd b_tr b_ld u_st b_wn u_id)), (b_tp, (arI G 400 v_tp))] s.heap.size = A at hD hT ⊢
  have hA : ∀ q : Nat, s.heap.size ≤ q → A q := fun q h => by rw [← hAe]; exact Or.inr h
  have hS : va_S A s.heap s.heap [] := va_S.rf
  have hP : va_P G.1 vwCl [(b_o, (oc12 u_th u_sa b_rf b_ro b_im b_ke u_fd b_tp u_td u_fr u_to u_so u_wo u_fa u_bd u_nc b_nl u_co b_op b_ar u_le b_pi b_pa u_pd u_od b_ws b_hw u_la b_se b_re u_bk u_va u_su u_ce u_ho u_wy u_bt u_ps b_pt u_tg u_sn b_ip u_ic b_ah b_be b_me u_wd b_tr b_ld u_st b_wn u_id)), (b_tp, (arI G 400 v_tp))] s.heap := hP
  have hl := lv_entry ([.ref b_o, .int 1]) (n := 2) (Nat.le_of_ble_eq_true rfl)
  rw [lg_entry_eq]
  generalize (lg_sl ([.ref b_o, .int 1]) ++ List.replicate (2 - (lg_sl ([.ref b_o, .int 1])).length) Slot.unset).toArray = ls at hl ⊢
  have hl : lv_has ls 2 [(0, .ref b_o), (1, .int 1)] := hl
  refine lv_aload_n hx hb dX12_must_0 rfl (lv_at hl 0 rfl) ?_
  refine va_get (D := G.1) (ci := 12) (v := .int u_bd) (C := RX12) (T := TX12) (N := 52) hx hb hts inG_X12 hown hK hP 0 rfl rfl 14 (by decide) (hts _ fl_X12_205) (fun _ h9 => h9) rfl dX12_must_1 ?_
  refine lv_if_ne (tgt := 24) hx hb dX12_must_4 (by decide) (fun c_1 => ?_) (fun c_1 => ?_)
  ·
    have i_1 : u_bd.toInt ≠ 0 := by have z := g5_ne (a := u_bd.toInt) (b := 0) (by rfl) (by decide) c_1; omega
    omega
  ·
    have i_1 : u_bd.toInt = 0 := by have z := g5_neN (a := u_bd.toInt) (b := 0) (by rfl) (by decide) c_1; omega
    refine lv_iload_n hx hb dX12_must_7 rfl (lv_at hl 1 rfl) ?_
    refine lv_if_ne (tgt := 24) hx hb dX12_must_8 (by decide) (fun c_2 => ?_) (fun c_2 => ?_)
    ·
      refine lv_aload_n hx hb dX12_must_24 rfl (lv_at hl 0 rfl) ?_
      refine va_get (D := G.1) (ci := 12) (v := .int u_bd) (C := RX12) (T := TX12) (N := 52) hx hb hts inG_X12 hown hK hP 0 rfl rfl 14 (by decide) (hts _ fl_X12_205) (fun _ h9 => h9) rfl dX12_must_25 ?_
      refine lv_if_ne (tgt := 35) hx hb dX12_must_28 (by decide) (fun c_3 => ?_) (fun c_3 => ?_)
      ·
        have i_3 : u_bd.toInt ≠ 0 := by have z := g5_ne (a := u_bd.toInt) (b := 0) (by rfl) (by decide) c_3; omega
        omega
      ·
        have i_3 : u_bd.toInt = 0 := by have z := g5_neN (a := u_bd.toInt) (b := 0) (by rfl) (by decide) c_3; omega
        refine lv_aload_n hx hb dX12_must_31 rfl (lv_at hl 0 rfl) ?_
        obtain ⟨hPc, hDc, hFc⟩ := g5_sub3 (wc := [(b_o, (oc12 u_th u_sa b_rf b_ro b_im b_ke u_fd b_tp u_td u_fr u_to u_so u_wo u_fa u_bd u_nc b_nl u_co b_op b_ar u_le b_pi b_pa u_pd u_od b_ws b_hw u_la b_se b_re u_bk u_va u_su u_ce u_ho u_wy u_bt u_ps b_pt u_tg u_sn b_ip u_ic b_ah b_be b_me u_wd b_tr b_ld u_st b_wn u_id)), (b_tp, (arI G 400 v_tp))]) hP hD hS hA [0, 1] (by decide) rfl
        refine va_callv (va_runV (As := []) (rest := []) ⟨hx, hb, hml, hown, hts⟩ (n_next l G b_o b_tp b_rf b_ro b_im b_ke b_nl b_op b_ar b_pi b_pa b_ws b_hw b_se b_re b_pt b_ip b_ah b_be b_me b_tr b_ld b_wn s.heap.size u_th u_sa u_fd u_td u_fr u_to u_so u_fa u_bd u_nc u_co u_le u_pd u_od u_la u_bk u_ce u_ho u_wy u_bt u_ps u_tg u_sn u_ic u_wd u_id u_wo u_va u_su u_st v_tp h_u_td h_u_fr h_u_to ⟨by omega, by omega⟩ h_u_nc h_u_co h_u_pd h_u_la h_u_bk h_u_ce h_u_ho h_u_wy h_u_bt h_u_ps h_u_ic h_u_id (by omega)) (cwV 0 hts gV_X12_208 rfl rfl rfl hv_X12_next ⟨Nat.le_of_ble_eq_true rfl, Nat.le_of_ble_eq_true rfl⟩) (g5_preV hPc hK hDc hN hT hS hFc (ci := 12) (q0 := 0) rfl rfl) rfl rfl hl.1 rfl (lv_room (Nat.le_of_ble_eq_true rfl)) dX12_must_32 ⟨Nat.le_of_ble_eq_true rfl, Nat.le_of_ble_eq_true rfl⟩) hS (fun q _ h => hFc q h) hFc (fun u t H1 locs ht hvm hw hB hz1 hk1 hS => ?_)
        obtain ⟨hP1, hD1⟩ := hB
        rw [ht] at hP1
        obtain ⟨z8, z9, z10, z11, i_4, i_5, i_6, i_7, rfl⟩ := hw
        have i_4 : 0 ≤ z8.toInt ∧ z8.toInt ≤ 400 := i_4
        have i_5 : 0 ≤ z9.toInt ∧ z9.toInt ≤ 400 := i_5
        have i_6 : u_to.toInt ≤ z8.toInt ∧ z8.toInt ≤ z9.toInt ∧ z9.toInt ≤ u_td.toInt := i_6
        have i_7 : TKs z10.toInt z8.toInt z9.toInt := i_7
        obtain ⟨hP, hD⟩ := va_join (wr := []) hP hD [0, 1] [] rfl rfl (by decide) (by decide) hk1 hFc hP1 hD1
        generalize H1 = H at hP hS ⊢
        refine g5_rs [(b_o, (oc12 u_th u_sa b_rf b_ro b_im b_ke u_fd b_tp u_td z8 z9 z10 z11 u_fa u_bd u_nc b_nl u_co b_op b_ar u_le b_pi b_pa u_pd u_od b_ws b_hw u_la b_se b_re u_bk u_va u_su u_ce u_ho u_wy u_bt u_ps b_pt u_tg u_sn b_ip u_ic b_ah b_be b_me u_wd b_tr b_ld u_st b_wn u_id)), (b_tp, (arI G 400 v_tp))] hP hD (fun hP hD => ?_)
        exact W.vret hx hb hr (fun t ht hW => ⟨⟨[(b_o, (oc12 u_th u_sa b_rf b_ro b_im b_ke u_fd b_tp u_td z8 z9 z10 z11 u_fa u_bd u_nc b_nl u_co b_op b_ar u_le b_pi b_pa u_pd u_od b_ws b_hw u_la b_se b_re u_bk u_va u_su u_ce u_ho u_wy u_bt u_ps b_pt u_tg u_sn b_ip u_ic b_ah b_be b_me u_wd b_tr b_ld u_st b_wn u_id)), (b_tp, (arI G 400 v_tp))], rfl, ⟨z8, z9, z10, z11, i_4, i_5, by omega, i_7, rfl⟩, by rw [ht]; exact hP.sub [0, 1] rfl, hD.sub [0, 1] (by decide) rfl⟩, hS.F ht⟩) hS.2.2 dX12_must_35
    ·
      exact absurd c_2 (by decide)
set_option maxHeartbeats 4000000 in
set_option maxRecDepth 100000 in
theorem n_must0 (l : Launch) (G : g5_G) (b_o b_tp b_rf b_ro b_im b_ke b_nl b_op b_ar b_pi b_pa b_ws b_hw b_se b_re b_pt b_ip b_ah b_be b_me b_tr b_ld b_wn : Nat) (sz : Nat) (u_th : Int32) (u_sa : Int32) (u_fd : Int32) (u_td : Int32) (u_fr : Int32) (u_to : Int32) (u_so : Int32) (u_fa : Int32) (u_bd : Int32) (u_nc : Int32) (u_co : Int32) (u_le : Int32) (u_pd : Int32) (u_od : Int32) (u_la : Int32) (u_bk : Int32) (u_ce : Int32) (u_ho : Int32) (u_wy : Int32) (u_bt : Int32) (u_ps : Int32) (u_tg : Int32) (u_sn : Int32) (u_ic : Int32) (u_wd : Int32) (u_id : Int32) (u_wo : Int64) (u_va : Int64) (u_su : Int64) (u_st : Int64) (v_tp : Nat → Int32) (h_u_td : 0 ≤ u_td.toInt ∧ u_td.toInt ≤ 400) (h_u_fr : 0 ≤ u_fr.toInt ∧ u_fr.toInt ≤ 400) (h_u_to : 0 ≤ u_to.toInt ∧ u_to.toInt ≤ 400) (h_u_bd : 0 ≤ u_bd.toInt ∧ u_bd.toInt ≤ 0) (h_u_nc : 0 ≤ u_nc.toInt ∧ u_nc.toInt ≤ 12) (h_u_co : 0 ≤ u_co.toInt ∧ u_co.toInt ≤ 400) (h_u_pd : 0 ≤ u_pd.toInt ∧ u_pd.toInt ≤ 400) (h_u_la : 0 ≤ u_la.toInt ∧ u_la.toInt ≤ 4840) (h_u_bk : 0 ≤ u_bk.toInt ∧ u_bk.toInt ≤ 1) (h_u_ce : 0 ≤ u_ce.toInt ∧ u_ce.toInt ≤ 63) (h_u_ho : 0 ≤ u_ho.toInt ∧ u_ho.toInt ≤ 23) (h_u_wy : 0 ≤ u_wy.toInt ∧ u_wy.toInt ≤ 3) (h_u_bt : 0 ≤ u_bt.toInt ∧ u_bt.toInt ≤ 1000000) (h_u_ps : 0 ≤ u_ps.toInt ∧ u_ps.toInt ≤ 200) (h_u_ic : 0 ≤ u_ic.toInt ∧ u_ic.toInt ≤ 1) (h_u_id : 0 ≤ u_id.toInt ∧ u_id.toInt ≤ 1) : Met l yX12_must (wsG yX12_must cX12_must 2 none) ({ frames := 0, cells := 0, slots := 0, locals := 0 }) (va_Pc [.ref b_o, .int 0] (g5_P G [(b_o, (oc12 u_th u_sa b_rf b_ro b_im b_ke u_fd b_tp u_td u_fr u_to u_so u_wo u_fa u_bd u_nc b_nl u_co b_op b_ar u_le b_pi b_pa u_pd u_od b_ws b_hw u_la b_se b_re u_bk u_va u_su u_ce u_ho u_wy u_bt u_ps b_pt u_tg u_sn b_ip u_ic b_ah b_be b_me u_wd b_tr b_ld u_st b_wn u_id)), (b_tp, (arI G 400 v_tp))] sz)) (va_Qv (fun (u : va_W) => ((u = [(b_o, (oc12 u_th u_sa b_rf b_ro b_im b_ke u_fd b_tp u_td u_fr u_to u_so u_wo u_fr 1 u_nc b_nl u_co b_op b_ar u_le b_pi b_pa u_pd u_od b_ws b_hw u_la b_se b_re u_bk u_va u_su u_ce u_ho u_wy u_bt u_ps b_pt u_tg u_sn b_ip u_ic b_ah b_be b_me u_wd b_tr b_ld u_st b_wn u_id)), (b_tp, (arI G 400 v_tp))]))) (g5_B G (va_A [(b_o, (oc12 u_th u_sa b_rf b_ro b_im b_ke u_fd b_tp u_td u_fr u_to u_so u_wo u_fa u_bd u_nc b_nl u_co b_op b_ar u_le b_pi b_pa u_pd u_od b_ws b_hw u_la b_se b_re u_bk u_va u_su u_ce u_ho u_wy u_bt u_ps b_pt u_tg u_sn b_ip u_ic b_ah b_be b_me u_wd b_tr b_ld u_st b_wn u_id)), (b_tp, (arI G 400 v_tp))] sz)) (va_A [(b_o, (oc12 u_th u_sa b_rf b_ro b_im b_ke u_fd b_tp u_td u_fr u_to u_so u_wo u_fa u_bd u_nc b_nl u_co b_op b_ar u_le b_pi b_pa u_pd u_od b_ws b_hw u_la b_se b_re u_bk u_va u_su u_ce u_ho u_wy u_bt u_ps b_pt u_tg u_sn b_ip u_ic b_ah b_be b_me u_wd b_tr b_ld u_st b_wn u_id)), (b_tp, (arI G 400 v_tp))] sz)) 0 0 (va_A [(b_o, (oc12 u_th u_sa b_rf b_ro b_im b_ke u_fd b_tp u_td u_fr u_to u_so u_wo u_fa u_bd u_nc b_nl u_co b_op b_ar u_le b_pi b_pa u_pd u_od b_ws b_hw u_la b_se b_re u_bk u_va u_su u_ce u_ho u_wy u_bt u_ps b_pt u_tg u_sn b_ip u_ic b_ah b_be b_me u_wd b_tr b_ld u_st b_wn u_id)), (b_tp, (arI G 400 v_tp))] sz) := by
  refine Met.ofW (cc := cX12_must) (maxL := 2) (ret := none) (by decide) rfl ?_
  intro p e s m args below meth c s₁ B hml hv
  obtain ⟨rfl, hsz, hP, hK, hD0, hN, hT⟩ := hv
  have hx := B.exec
  have hb := B.bytes
  have hr := B.returns
  have hts : ∀ w ∈ tblG, w.before _ s = true := fun w h => atoms_spec (ws := (wsG yX12_must cX12_must 2 none)) B.pre w (List.mem_cons_of_mem _ h)
  have hown : s.vm.findClass RX12 = some m.cls := findClass_of_methodNamed B.named
  have hlocks := B.notSynchronized
  subst hsz
  have hD := hD0.self (sz := s.heap.size)
  generalize hAe : va_A [(b_o, (oc12 u_th u_sa b_rf b_ro b_im b_ke u_fd b_tp u_td u_fr u_to u_so u_wo u_fa u_bd u_nc b_nl u_co b_op b_ar u_le b_pi b_pa u_pd u_od b_ws b_hw u_la b_se b_re u_bk u_va u_su u_ce u_ho u_wy u_bt u_ps b_pt u_tg u_sn b_ip u_ic b_ah b_be b_me u_wd b_tr b_ld u_st b_wn u_id)), (b_tp, (arI G 400 v_tp))] s.heap.size = A at hD hT ⊢
  have hA : ∀ q : Nat, s.heap.size ≤ q → A q := fun q h => by rw [← hAe]; exact Or.inr h
  have hS : va_S A s.heap s.heap [] := va_S.rf
  have hP : va_P G.1 vwCl [(b_o, (oc12 u_th u_sa b_rf b_ro b_im b_ke u_fd b_tp u_td u_fr u_to u_so u_wo u_fa u_bd u_nc b_nl u_co b_op b_ar u_le b_pi b_pa u_pd u_od b_ws b_hw u_la b_se b_re u_bk u_va u_su u_ce u_ho u_wy u_bt u_ps b_pt u_tg u_sn b_ip u_ic b_ah b_be b_me u_wd b_tr b_ld u_st b_wn u_id)), (b_tp, (arI G 400 v_tp))] s.heap := hP
  have hl := lv_entry ([.ref b_o, .int 0]) (n := 2) (Nat.le_of_ble_eq_true rfl)
  rw [lg_entry_eq]
  generalize (lg_sl ([.ref b_o, .int 0]) ++ List.replicate (2 - (lg_sl ([.ref b_o, .int 0])).length) Slot.unset).toArray = ls at hl ⊢
  have hl : lv_has ls 2 [(0, .ref b_o), (1, .int 0)] := hl
  refine lv_aload_n hx hb dX12_must_0 rfl (lv_at hl 0 rfl) ?_
  refine va_get (D := G.1) (ci := 12) (v := .int u_bd) (C := RX12) (T := TX12) (N := 52) hx hb hts inG_X12 hown hK hP 0 rfl rfl 14 (by decide) (hts _ fl_X12_205) (fun _ h9 => h9) rfl dX12_must_1 ?_
  refine lv_if_ne (tgt := 24) hx hb dX12_must_4 (by decide) (fun c_1 => ?_) (fun c_1 => ?_)
  ·
    have i_1 : u_bd.toInt ≠ 0 := by have z := g5_ne (a := u_bd.toInt) (b := 0) (by rfl) (by decide) c_1; omega
    omega
  ·
    have i_1 : u_bd.toInt = 0 := by have z := g5_neN (a := u_bd.toInt) (b := 0) (by rfl) (by decide) c_1; omega
    refine lv_iload_n hx hb dX12_must_7 rfl (lv_at hl 1 rfl) ?_
    refine lv_if_ne (tgt := 24) hx hb dX12_must_8 (by decide) (fun c_2 => ?_) (fun c_2 => ?_)
    ·
      exact absurd c_2 (by decide)
    ·
      refine lv_aload_n hx hb dX12_must_11 rfl (lv_at hl 0 rfl) ?_
      refine lv_iconst (v := 1) hx hb dX12_must_12 (by decide) ?_
      refine va_put (D := G.1) (ci := 12) (v := .int 1) (ty := .boolean) (C := RX12) (T := TX12) (N := 52) hx hb hts inG_X12 tyX12 tyX12_ok nmX12 hown hK hP hD hS 0 rfl rfl 14 (by decide) (hts _ fl_X12_205) (fun _ h9 => h9) rfl (by decide +kernel) rfl rfl (Nat.le_of_ble_eq_true rfl) dX12_must_13 (fun H locs hP hD hS => ?_)
      refine g5_rs [(b_o, (oc12 u_th u_sa b_rf b_ro b_im b_ke u_fd b_tp u_td u_fr u_to u_so u_wo u_fa 1 u_nc b_nl u_co b_op b_ar u_le b_pi b_pa u_pd u_od b_ws b_hw u_la b_se b_re u_bk u_va u_su u_ce u_ho u_wy u_bt u_ps b_pt u_tg u_sn b_ip u_ic b_ah b_be b_me u_wd b_tr b_ld u_st b_wn u_id)), (b_tp, (arI G 400 v_tp))] hP hD (fun hP hD => ?_)
      refine lv_aload_n hx hb dX12_must_16 rfl (lv_at hl 0 rfl) ?_
      refine lv_aload_n hx hb dX12_must_17 rfl (lv_at hl 0 rfl) ?_
      refine va_get (D := G.1) (ci := 12) (v := .int u_fr) (C := RX12) (T := TX12) (N := 52) hx hb hts inG_X12 hown hK hP 0 rfl rfl 9 (by decide) (hts _ fl_X12_211) (fun _ h9 => h9) rfl dX12_must_18 ?_
      refine va_put (D := G.1) (ci := 12) (v := .int u_fr) (ty := .int) (C := RX12) (T := TX12) (N := 52) hx hb hts inG_X12 tyX12 tyX12_ok nmX12 hown hK hP hD hS 0 rfl rfl 13 (by decide) (hts _ fl_X12_26) (fun _ h9 => h9) rfl (by decide +kernel) rfl rfl (Nat.le_of_ble_eq_true rfl) dX12_must_21 (fun H locs hP hD hS => ?_)
      refine g5_rs [(b_o, (oc12 u_th u_sa b_rf b_ro b_im b_ke u_fd b_tp u_td u_fr u_to u_so u_wo u_fr 1 u_nc b_nl u_co b_op b_ar u_le b_pi b_pa u_pd u_od b_ws b_hw u_la b_se b_re u_bk u_va u_su u_ce u_ho u_wy u_bt u_ps b_pt u_tg u_sn b_ip u_ic b_ah b_be b_me u_wd b_tr b_ld u_st b_wn u_id)), (b_tp, (arI G 400 v_tp))] hP hD (fun hP hD => ?_)
      refine lv_aload_n hx hb dX12_must_24 rfl (lv_at hl 0 rfl) ?_
      refine va_get (D := G.1) (ci := 12) (v := .int 1) (C := RX12) (T := TX12) (N := 52) hx hb hts inG_X12 hown hK hP 0 rfl rfl 14 (by decide) (hts _ fl_X12_205) (fun _ h9 => h9) rfl dX12_must_25 ?_
      refine lv_if_ne (tgt := 35) hx hb dX12_must_28 (by decide) (fun c_3 => ?_) (fun c_3 => ?_)
      ·
        exact W.vret hx hb hr (fun t ht hW => ⟨⟨[(b_o, (oc12 u_th u_sa b_rf b_ro b_im b_ke u_fd b_tp u_td u_fr u_to u_so u_wo u_fr 1 u_nc b_nl u_co b_op b_ar u_le b_pi b_pa u_pd u_od b_ws b_hw u_la b_se b_re u_bk u_va u_su u_ce u_ho u_wy u_bt u_ps b_pt u_tg u_sn b_ip u_ic b_ah b_be b_me u_wd b_tr b_ld u_st b_wn u_id)), (b_tp, (arI G 400 v_tp))], rfl, rfl, by rw [ht]; exact hP.sub [0, 1] rfl, hD.sub [0, 1] (by decide) rfl⟩, hS.F ht⟩) hS.2.2 dX12_must_35
      ·
        exact absurd c_3 (by decide)
theorem dgX12_emit_0 : ∀ r ∈ ([(0, (.aload_n 0, 1)), (1, (.getfield 33, 3)), (4, (.aload_n 0, 1)), (5, (.getfield 237, 3)), (8, (.iload_n 1, 1)), (9, (.iastore, 1)), (10, (.aload_n 0, 1)), (11, (.getfield 36, 3)), (14, (.aload_n 0, 1)), (15, (.getfield 237, 3)), (18, (.iload_n 2, 1)), (19, (.iastore, 1)), (20, (.aload_n 0, 1)), (21, (.dup, 1)), (22, (.getfield 237, 3)), (25, (.iconst 1, 1)), (26, (.iadd, 1)), (27, (.putfield 237, 3)), (30, (.return_, 1))] : List (Nat × (Instr × Nat))), decode cX12_emit r.1 = .ok r.2 := by decide +kernel
theorem dX12_emit_0 : decode cX12_emit 0 = .ok (.aload_n 0, 1) := dgX12_emit_0 (0, (.aload_n 0, 1)) (List.mem_of_getElem? (i := 0) rfl)
theorem dX12_emit_1 : decode cX12_emit 1 = .ok (.getfield 33, 3) := dgX12_emit_0 (1, (.getfield 33, 3)) (List.mem_of_getElem? (i := 1) rfl)
theorem dX12_emit_4 : decode cX12_emit 4 = .ok (.aload_n 0, 1) := dgX12_emit_0 (4, (.aload_n 0, 1)) (List.mem_of_getElem? (i := 2) rfl)
theorem dX12_emit_5 : decode cX12_emit 5 = .ok (.getfield 237, 3) := dgX12_emit_0 (5, (.getfield 237, 3)) (List.mem_of_getElem? (i := 3) rfl)
theorem dX12_emit_8 : decode cX12_emit 8 = .ok (.iload_n 1, 1) := dgX12_emit_0 (8, (.iload_n 1, 1)) (List.mem_of_getElem? (i := 4) rfl)
theorem dX12_emit_9 : decode cX12_emit 9 = .ok (.iastore, 1) := dgX12_emit_0 (9, (.iastore, 1)) (List.mem_of_getElem? (i := 5) rfl)
theorem dX12_emit_10 : decode cX12_emit 10 = .ok (.aload_n 0, 1) := dgX12_emit_0 (10, (.aload_n 0, 1)) (List.mem_of_getElem? (i := 6) rfl)
theorem dX12_emit_11 : decode cX12_emit 11 = .ok (.getfield 36, 3) := dgX12_emit_0 (11, (.getfield 36, 3)) (List.mem_of_getElem? (i := 7) rfl)
theorem dX12_emit_14 : decode cX12_emit 14 = .ok (.aload_n 0, 1) := dgX12_emit_0 (14, (.aload_n 0, 1)) (List.mem_of_getElem? (i := 8) rfl)
theorem dX12_emit_15 : decode cX12_emit 15 = .ok (.getfield 237, 3) := dgX12_emit_0 (15, (.getfield 237, 3)) (List.mem_of_getElem? (i := 9) rfl)
theorem dX12_emit_18 : decode cX12_emit 18 = .ok (.iload_n 2, 1) := dgX12_emit_0 (18, (.iload_n 2, 1)) (List.mem_of_getElem? (i := 10) rfl)
theorem dX12_emit_19 : decode cX12_emit 19 = .ok (.iastore, 1) := dgX12_emit_0 (19, (.iastore, 1)) (List.mem_of_getElem? (i := 11) rfl)
theorem dX12_emit_20 : decode cX12_emit 20 = .ok (.aload_n 0, 1) := dgX12_emit_0 (20, (.aload_n 0, 1)) (List.mem_of_getElem? (i := 12) rfl)
theorem dX12_emit_21 : decode cX12_emit 21 = .ok (.dup, 1) := dgX12_emit_0 (21, (.dup, 1)) (List.mem_of_getElem? (i := 13) rfl)
theorem dX12_emit_22 : decode cX12_emit 22 = .ok (.getfield 237, 3) := dgX12_emit_0 (22, (.getfield 237, 3)) (List.mem_of_getElem? (i := 14) rfl)
theorem dX12_emit_25 : decode cX12_emit 25 = .ok (.iconst 1, 1) := dgX12_emit_0 (25, (.iconst 1, 1)) (List.mem_of_getElem? (i := 15) rfl)
theorem dX12_emit_26 : decode cX12_emit 26 = .ok (.iadd, 1) := dgX12_emit_0 (26, (.iadd, 1)) (List.mem_of_getElem? (i := 16) rfl)
theorem dX12_emit_27 : decode cX12_emit 27 = .ok (.putfield 237, 3) := dgX12_emit_0 (27, (.putfield 237, 3)) (List.mem_of_getElem? (i := 17) rfl)
theorem dX12_emit_30 : decode cX12_emit 30 = .ok (.return_, 1) := dgX12_emit_0 (30, (.return_, 1)) (List.mem_of_getElem? (i := 18) rfl)
theorem fl_X12_33 : Cond.fieldLink RX12 33 "LateGlassModel" "nOp" "[I" ∈ tblG := tg 1221 (by decide +kernel) (by decide +kernel)
theorem fl_X12_237 : Cond.fieldLink RX12 237 "LateGlassModel" "nCode" "I" ∈ tblG := tg 1220 (by decide +kernel) (by decide +kernel)
theorem fl_X12_36 : Cond.fieldLink RX12 36 "LateGlassModel" "nArg" "[I" ∈ tblG := tg 1222 (by decide +kernel) (by decide +kernel)
set_option maxHeartbeats 4000000 in
set_option maxRecDepth 100000 in
theorem n_emit (l : Launch) (G : g5_G) (b_o b_op b_ar b_rf b_ro b_im b_ke b_tp b_nl b_pi b_pa b_ws b_hw b_se b_re b_pt b_ip b_ah b_be b_me b_tr b_ld b_wn : Nat) (sz : Nat) (u_th : Int32) (u_sa : Int32) (u_fd : Int32) (u_td : Int32) (u_fr : Int32) (u_to : Int32) (u_so : Int32) (u_fa : Int32) (u_bd : Int32) (u_nc : Int32) (u_co : Int32) (u_le : Int32) (u_pd : Int32) (u_od : Int32) (u_la : Int32) (u_bk : Int32) (u_ce : Int32) (u_ho : Int32) (u_wy : Int32) (u_bt : Int32) (u_ps : Int32) (u_tg : Int32) (u_sn : Int32) (u_ic : Int32) (u_wd : Int32) (u_id : Int32) (p_1 : Int32) (p_2 : Int32) (u_wo : Int64) (u_va : Int64) (u_su : Int64) (u_st : Int64) (v_op : Nat → Int32) (v_ar : Nat → Int32) (h_u_td : 0 ≤ u_td.toInt ∧ u_td.toInt ≤ 400) (h_u_fr : 0 ≤ u_fr.toInt ∧ u_fr.toInt ≤ 400) (h_u_to : 0 ≤ u_to.toInt ∧ u_to.toInt ≤ 400) (h_u_bd : 0 ≤ u_bd.toInt ∧ u_bd.toInt ≤ 1) (h_u_nc : 0 ≤ u_nc.toInt ∧ u_nc.toInt ≤ 12) (h_u_co : 0 ≤ u_co.toInt ∧ u_co.toInt ≤ 400) (h_u_pd : 0 ≤ u_pd.toInt ∧ u_pd.toInt ≤ 400) (h_u_la : 0 ≤ u_la.toInt ∧ u_la.toInt ≤ 4840) (h_u_bk : 0 ≤ u_bk.toInt ∧ u_bk.toInt ≤ 1) (h_u_ce : 0 ≤ u_ce.toInt ∧ u_ce.toInt ≤ 63) (h_u_ho : 0 ≤ u_ho.toInt ∧ u_ho.toInt ≤ 23) (h_u_wy : 0 ≤ u_wy.toInt ∧ u_wy.toInt ≤ 3) (h_u_bt : 0 ≤ u_bt.toInt ∧ u_bt.toInt ≤ 1000000) (h_u_ps : 0 ≤ u_ps.toInt ∧ u_ps.toInt ≤ 200) (h_u_ic : 0 ≤ u_ic.toInt ∧ u_ic.toInt ≤ 1) (h_u_id : 0 ≤ u_id.toInt ∧ u_id.toInt ≤ 1) (e_c : u_co.toInt < 400) : Met l yX12_emit (wsG yX12_emit cX12_emit 3 none) ({ frames := 0, cells := 0, slots := 0, locals := 0 }) (va_Pc [.ref b_o, .int p_1, .int p_2] (g5_P G [(b_o, (oc12 u_th u_sa b_rf b_ro b_im b_ke u_fd b_tp u_td u_fr u_to u_so u_wo u_fa u_bd u_nc b_nl u_co b_op b_ar u_le b_pi b_pa u_pd u_od b_ws b_hw u_la b_se b_re u_bk u_va u_su u_ce u_ho u_wy u_bt u_ps b_pt u_tg u_sn b_ip u_ic b_ah b_be b_me u_wd b_tr b_ld u_st b_wn u_id)), (b_op, (arI G 400 v_op)), (b_ar, (arI G 400 v_ar))] sz)) (va_Qv (fun (u : va_W) => (∃ (o_co : Int32), (0 ≤ o_co.toInt ∧ o_co.toInt ≤ 400) ∧ (o_co.toInt = u_co.toInt + 1) ∧ (u = [(b_o, (oc12 u_th u_sa b_rf b_ro b_im b_ke u_fd b_tp u_td u_fr u_to u_so u_wo u_fa u_bd u_nc b_nl o_co b_op b_ar u_le b_pi b_pa u_pd u_od b_ws b_hw u_la b_se b_re u_bk u_va u_su u_ce u_ho u_wy u_bt u_ps b_pt u_tg u_sn b_ip u_ic b_ah b_be b_me u_wd b_tr b_ld u_st b_wn u_id)), (b_op, (arI G 400 (upd v_op u_co.toNatClampNeg p_1))), (b_ar, (arI G 400 (upd v_ar u_co.toNatClampNeg p_2)))]))) (g5_B G (va_A [(b_o, (oc12 u_th u_sa b_rf b_ro b_im b_ke u_fd b_tp u_td u_fr u_to u_so u_wo u_fa u_bd u_nc b_nl u_co b_op b_ar u_le b_pi b_pa u_pd u_od b_ws b_hw u_la b_se b_re u_bk u_va u_su u_ce u_ho u_wy u_bt u_ps b_pt u_tg u_sn b_ip u_ic b_ah b_be b_me u_wd b_tr b_ld u_st b_wn u_id)), (b_op, (arI G 400 v_op)), (b_ar, (arI G 400 v_ar))] sz)) (va_A [(b_o, (oc12 u_th u_sa b_rf b_ro b_im b_ke u_fd b_tp u_td u_fr u_to u_so u_wo u_fa u_bd u_nc b_nl u_co b_op b_ar u_le b_pi b_pa u_pd u_od b_ws b_hw u_la b_se b_re u_bk u_va u_su u_ce u_ho u_wy u_bt u_ps b_pt u_tg u_sn b_ip u_ic b_ah b_be b_me u_wd b_tr b_ld u_st b_wn u_id)), (b_op, (arI G 400 v_op)), (b_ar, (arI G 400 v_ar))] sz)) 0 0 (va_A [(b_o, (oc12 u_th u_sa b_rf b_ro b_im b_ke u_fd b_tp u_td u_fr u_to u_so u_wo u_fa u_bd u_nc b_nl u_co b_op b_ar u_le b_pi b_pa u_pd u_od b_ws b_hw u_la b_se b_re u_bk u_va u_su u_ce u_ho u_wy u_bt u_ps b_pt u_tg u_sn b_ip u_ic b_ah b_be b_me u_wd b_tr b_ld u_st b_wn u_id)), (b_op, (arI G 400 v_op)), (b_ar, (arI G 400 v_ar))] sz) := by
  refine Met.ofW (cc := cX12_emit) (maxL := 3) (ret := none) (by decide) rfl ?_
  intro p e s m args below meth c s₁ B hml hv
  obtain ⟨rfl, hsz, hP, hK, hD0, hN, hT⟩ := hv
  have hx := B.exec
  have hb := B.bytes
  have hr := B.returns
  have hts : ∀ w ∈ tblG, w.before _ s = true := fun w h => atoms_spec (ws := (wsG yX12_emit cX12_emit 3 none)) B.pre w (List.mem_cons_of_mem _ h)
  have hown : s.vm.findClass RX12 = some m.cls := findClass_of_methodNamed B.named
  have hlocks := B.notSynchronized
  subst hsz
  have hD := hD0.self (sz := s.heap.size)
  generalize hAe : va_A [(b_o, (oc12 u_th u_sa b_rf b_ro b_im b_ke u_fd b_tp u_td u_fr u_to u_so u_wo u_fa u_bd u_nc b_nl u_co b_op b_ar u_le b_pi b_pa u_pd u_od b_ws b_hw u_la b_se b_re u_bk u_va u_su u_ce u_ho u_wy u_bt u_ps b_pt u_tg u_sn b_ip u_ic b_ah b_be b_me u_wd b_tr b_ld u_st b_wn u_id)), (b_op, (arI G 400 v_op)), (b_ar, (arI G 400 v_ar))] s.heap.size = A at hD hT ⊢
  have hA : ∀ q : Nat, s.heap.size ≤ q → A q := fun q h => by rw [← hAe]; exact Or.inr h
  have hS : va_S A s.heap s.heap [] := va_S.rf
  have hP : va_P G.1 vwCl [(b_o, (oc12 u_th u_sa b_rf b_ro b_im b_ke u_fd b_tp u_td u_fr u_to u_so u_wo u_fa u_bd u_nc b_nl u_co b_op b_ar u_le b_pi b_pa u_pd u_od b_ws b_hw u_la b_se b_re u_bk u_va u_su u_ce u_ho u_wy u_bt u_ps b_pt u_tg u_sn b_ip u_ic b_ah b_be b_me u_wd b_tr b_ld u_st b_wn u_id)), (b_op, (arI G 400 v_op)), (b_ar, (arI G 400 v_ar))] s.heap := hP
  have hl := lv_entry ([.ref b_o, .int p_1, .int p_2]) (n := 3) (Nat.le_of_ble_eq_true rfl)
  rw [lg_entry_eq]
  generalize (lg_sl ([.ref b_o, .int p_1, .int p_2]) ++ List.replicate (3 - (lg_sl ([.ref b_o, .int p_1, .int p_2])).length) Slot.unset).toArray = ls at hl ⊢
  have hl : lv_has ls 3 [(0, .ref b_o), (1, .int p_1), (2, .int p_2)] := hl
  refine lv_aload_n hx hb dX12_emit_0 rfl (lv_at hl 0 rfl) ?_
  refine va_get (D := G.1) (ci := 12) (v := .ref b_op) (C := RX12) (T := TX12) (N := 52) hx hb hts inG_X12 hown hK hP 0 rfl rfl 18 (by decide) (hts _ fl_X12_33) (fun _ h9 => h9) rfl dX12_emit_1 ?_
  refine lv_aload_n hx hb dX12_emit_4 rfl (lv_at hl 0 rfl) ?_
  refine va_get (D := G.1) (ci := 12) (v := .int u_co) (C := RX12) (T := TX12) (N := 52) hx hb hts inG_X12 hown hK hP 0 rfl rfl 17 (by decide) (hts _ fl_X12_237) (fun _ h9 => h9) rfl dX12_emit_5 ?_
  refine lv_iload_n hx hb dX12_emit_8 rfl (lv_at hl 1 rfl) ?_
  refine va_iast hx hb hK hP hD hS 1 0 rfl rfl (i := u_co) (x := p_1) (vp_in_iff.mpr ⟨by omega, by omega⟩) dX12_emit_9 (fun H locs hP hD hS => ?_)
  refine g5_rs [(b_o, (oc12 u_th u_sa b_rf b_ro b_im b_ke u_fd b_tp u_td u_fr u_to u_so u_wo u_fa u_bd u_nc b_nl u_co b_op b_ar u_le b_pi b_pa u_pd u_od b_ws b_hw u_la b_se b_re u_bk u_va u_su u_ce u_ho u_wy u_bt u_ps b_pt u_tg u_sn b_ip u_ic b_ah b_be b_me u_wd b_tr b_ld u_st b_wn u_id)), (b_op, (arI G 400 (upd v_op u_co.toNatClampNeg p_1))), (b_ar, (arI G 400 v_ar))] hP hD (fun hP hD => ?_)
  refine lv_aload_n hx hb dX12_emit_10 rfl (lv_at hl 0 rfl) ?_
  refine va_get (D := G.1) (ci := 12) (v := .ref b_ar) (C := RX12) (T := TX12) (N := 52) hx hb hts inG_X12 hown hK hP 0 rfl rfl 19 (by decide) (hts _ fl_X12_36) (fun _ h9 => h9) rfl dX12_emit_11 ?_
  refine lv_aload_n hx hb dX12_emit_14 rfl (lv_at hl 0 rfl) ?_
  refine va_get (D := G.1) (ci := 12) (v := .int u_co) (C := RX12) (T := TX12) (N := 52) hx hb hts inG_X12 hown hK hP 0 rfl rfl 17 (by decide) (hts _ fl_X12_237) (fun _ h9 => h9) rfl dX12_emit_15 ?_
  refine lv_iload_n hx hb dX12_emit_18 rfl (lv_at hl 2 rfl) ?_
  refine va_iast hx hb hK hP hD hS 2 0 rfl rfl (i := u_co) (x := p_2) (vp_in_iff.mpr ⟨by omega, by omega⟩) dX12_emit_19 (fun H locs hP hD hS => ?_)
  refine g5_rs [(b_o, (oc12 u_th u_sa b_rf b_ro b_im b_ke u_fd b_tp u_td u_fr u_to u_so u_wo u_fa u_bd u_nc b_nl u_co b_op b_ar u_le b_pi b_pa u_pd u_od b_ws b_hw u_la b_se b_re u_bk u_va u_su u_ce u_ho u_wy u_bt u_ps b_pt u_tg u_sn b_ip u_ic b_ah b_be b_me u_wd b_tr b_ld u_st b_wn u_id)), (b_op, (arI G 400 (upd v_op u_co.toNatClampNeg p_1))), (b_ar, (arI G 400 (upd v_ar u_co.toNatClampNeg p_2)))] hP hD (fun hP hD => ?_)
  refine lv_aload_n hx hb dX12_emit_20 rfl (lv_at hl 0 rfl) ?_
  refine lv_dup hx hb dX12_emit_21 rfl ?_
  refine va_get (D := G.1) (ci := 12) (v := .int u_co) (C := RX12) (T := TX12) (N := 52) hx hb hts inG_X12 hown hK hP 0 rfl rfl 17 (by decide) (hts _ fl_X12_237) (fun _ h9 => h9) rfl dX12_emit_22 ?_
  refine lv_iconst (v := 1) hx hb dX12_emit_25 (by decide) ?_
  refine lv_iadd hx hb dX12_emit_26 ?_
  have t_1 : (u_co + 1).toInt = u_co.toInt + 1 := g5_iadd (a := u_co.toInt) (b := 1) (by rfl) (by decide) (by omega) (by omega)
  refine va_put (D := G.1) (ci := 12) (v := .int (u_co + 1)) (ty := .int) (C := RX12) (T := TX12) (N := 52) hx hb hts inG_X12 tyX12 tyX12_ok nmX12 hown hK hP hD hS 0 rfl rfl 17 (by decide) (hts _ fl_X12_237) (fun _ h9 => h9) rfl (by decide +kernel) rfl rfl (Nat.le_of_ble_eq_true rfl) dX12_emit_27 (fun H locs hP hD hS => ?_)
  refine g5_rs [(b_o, (oc12 u_th u_sa b_rf b_ro b_im b_ke u_fd b_tp u_td u_fr u_to u_so u_wo u_fa u_bd u_nc b_nl (u_co + 1) b_op b_ar u_le b_pi b_pa u_pd u_od b_ws b_hw u_la b_se b_re u_bk u_va u_su u_ce u_ho u_wy u_bt u_ps b_pt u_tg u_sn b_ip u_ic b_ah b_be b_me u_wd b_tr b_ld u_st b_wn u_id)), (b_op, (arI G 400 (upd v_op u_co.toNatClampNeg p_1))), (b_ar, (arI G 400 (upd v_ar u_co.toNatClampNeg p_2)))] hP hD (fun hP hD => ?_)
  exact W.vret hx hb hr (fun t ht hW => ⟨⟨[(b_o, (oc12 u_th u_sa b_rf b_ro b_im b_ke u_fd b_tp u_td u_fr u_to u_so u_wo u_fa u_bd u_nc b_nl (u_co + 1) b_op b_ar u_le b_pi b_pa u_pd u_od b_ws b_hw u_la b_se b_re u_bk u_va u_su u_ce u_ho u_wy u_bt u_ps b_pt u_tg u_sn b_ip u_ic b_ah b_be b_me u_wd b_tr b_ld u_st b_wn u_id)), (b_op, (arI G 400 (upd v_op u_co.toNatClampNeg p_1))), (b_ar, (arI G 400 (upd v_ar u_co.toNatClampNeg p_2)))], rfl, ⟨(u_co + 1), ⟨by omega, by omega⟩, by omega, rfl⟩, by rw [ht]; exact hP.sub [0, 1, 2] rfl, hD.sub [0, 1, 2] (by decide) rfl⟩, hS.F ht⟩) hS.2.2 dX12_emit_30
theorem dgX12_push_0 : ∀ r ∈ ([(0, (.aload_n 0, 1)), (1, (.getfield 39, 3)), (4, (.aload_n 0, 1)), (5, (.getfield 240, 3)), (8, (.iload_n 1, 1)), (9, (.iastore, 1)), (10, (.aload_n 0, 1)), (11, (.getfield 42, 3)), (14, (.aload_n 0, 1)), (15, (.getfield 240, 3)), (18, (.iload_n 2, 1)), (19, (.iastore, 1)), (20, (.aload_n 0, 1)), (21, (.dup, 1)), (22, (.getfield 240, 3)), (25, (.iconst 1, 1)), (26, (.iadd, 1)), (27, (.putfield 240, 3)), (30, (.return_, 1))] : List (Nat × (Instr × Nat))), decode cX12_push r.1 = .ok r.2 := by decide +kernel
theorem dX12_push_0 : decode cX12_push 0 = .ok (.aload_n 0, 1) := dgX12_push_0 (0, (.aload_n 0, 1)) (List.mem_of_getElem? (i := 0) rfl)
theorem dX12_push_1 : decode cX12_push 1 = .ok (.getfield 39, 3) := dgX12_push_0 (1, (.getfield 39, 3)) (List.mem_of_getElem? (i := 1) rfl)
theorem dX12_push_4 : decode cX12_push 4 = .ok (.aload_n 0, 1) := dgX12_push_0 (4, (.aload_n 0, 1)) (List.mem_of_getElem? (i := 2) rfl)
theorem dX12_push_5 : decode cX12_push 5 = .ok (.getfield 240, 3) := dgX12_push_0 (5, (.getfield 240, 3)) (List.mem_of_getElem? (i := 3) rfl)
theorem dX12_push_8 : decode cX12_push 8 = .ok (.iload_n 1, 1) := dgX12_push_0 (8, (.iload_n 1, 1)) (List.mem_of_getElem? (i := 4) rfl)
theorem dX12_push_9 : decode cX12_push 9 = .ok (.iastore, 1) := dgX12_push_0 (9, (.iastore, 1)) (List.mem_of_getElem? (i := 5) rfl)
theorem dX12_push_10 : decode cX12_push 10 = .ok (.aload_n 0, 1) := dgX12_push_0 (10, (.aload_n 0, 1)) (List.mem_of_getElem? (i := 6) rfl)
theorem dX12_push_11 : decode cX12_push 11 = .ok (.getfield 42, 3) := dgX12_push_0 (11, (.getfield 42, 3)) (List.mem_of_getElem? (i := 7) rfl)
theorem dX12_push_14 : decode cX12_push 14 = .ok (.aload_n 0, 1) := dgX12_push_0 (14, (.aload_n 0, 1)) (List.mem_of_getElem? (i := 8) rfl)
theorem dX12_push_15 : decode cX12_push 15 = .ok (.getfield 240, 3) := dgX12_push_0 (15, (.getfield 240, 3)) (List.mem_of_getElem? (i := 9) rfl)
theorem dX12_push_18 : decode cX12_push 18 = .ok (.iload_n 2, 1) := dgX12_push_0 (18, (.iload_n 2, 1)) (List.mem_of_getElem? (i := 10) rfl)
theorem dX12_push_19 : decode cX12_push 19 = .ok (.iastore, 1) := dgX12_push_0 (19, (.iastore, 1)) (List.mem_of_getElem? (i := 11) rfl)
theorem dX12_push_20 : decode cX12_push 20 = .ok (.aload_n 0, 1) := dgX12_push_0 (20, (.aload_n 0, 1)) (List.mem_of_getElem? (i := 12) rfl)
theorem dX12_push_21 : decode cX12_push 21 = .ok (.dup, 1) := dgX12_push_0 (21, (.dup, 1)) (List.mem_of_getElem? (i := 13) rfl)
theorem dX12_push_22 : decode cX12_push 22 = .ok (.getfield 240, 3) := dgX12_push_0 (22, (.getfield 240, 3)) (List.mem_of_getElem? (i := 14) rfl)
theorem dX12_push_25 : decode cX12_push 25 = .ok (.iconst 1, 1) := dgX12_push_0 (25, (.iconst 1, 1)) (List.mem_of_getElem? (i := 15) rfl)
theorem dX12_push_26 : decode cX12_push 26 = .ok (.iadd, 1) := dgX12_push_0 (26, (.iadd, 1)) (List.mem_of_getElem? (i := 16) rfl)
theorem dX12_push_27 : decode cX12_push 27 = .ok (.putfield 240, 3) := dgX12_push_0 (27, (.putfield 240, 3)) (List.mem_of_getElem? (i := 17) rfl)
theorem dX12_push_30 : decode cX12_push 30 = .ok (.return_, 1) := dgX12_push_0 (30, (.return_, 1)) (List.mem_of_getElem? (i := 18) rfl)
theorem fl_X12_39 : Cond.fieldLink RX12 39 "LateGlassModel" "pile" "[I" ∈ tblG := tg 1224 (by decide +kernel) (by decide +kernel)
theorem fl_X12_240 : Cond.fieldLink RX12 240 "LateGlassModel" "piled" "I" ∈ tblG := tg 1226 (by decide +kernel) (by decide +kernel)
theorem fl_X12_42 : Cond.fieldLink RX12 42 "LateGlassModel" "pileAt" "[I" ∈ tblG := tg 1225 (by decide +kernel) (by decide +kernel)
set_option maxHeartbeats 4000000 in
set_option maxRecDepth 100000 in
theorem n_push (l : Launch) (G : g5_G) (b_o b_pi b_pa b_rf b_ro b_im b_ke b_tp b_nl b_op b_ar b_ws b_hw b_se b_re b_pt b_ip b_ah b_be b_me b_tr b_ld b_wn : Nat) (sz : Nat) (u_th : Int32) (u_sa : Int32) (u_fd : Int32) (u_td : Int32) (u_fr : Int32) (u_to : Int32) (u_so : Int32) (u_fa : Int32) (u_bd : Int32) (u_nc : Int32) (u_co : Int32) (u_le : Int32) (u_pd : Int32) (u_od : Int32) (u_la : Int32) (u_bk : Int32) (u_ce : Int32) (u_ho : Int32) (u_wy : Int32) (u_bt : Int32) (u_ps : Int32) (u_tg : Int32) (u_sn : Int32) (u_ic : Int32) (u_wd : Int32) (u_id : Int32) (p_1 : Int32) (p_2 : Int32) (u_wo : Int64) (u_va : Int64) (u_su : Int64) (u_st : Int64) (v_pi : Nat → Int32) (v_pa : Nat → Int32) (h_u_td : 0 ≤ u_td.toInt ∧ u_td.toInt ≤ 400) (h_u_fr : 0 ≤ u_fr.toInt ∧ u_fr.toInt ≤ 400) (h_u_to : 0 ≤ u_to.toInt ∧ u_to.toInt ≤ 400) (h_u_bd : 0 ≤ u_bd.toInt ∧ u_bd.toInt ≤ 1) (h_u_nc : 0 ≤ u_nc.toInt ∧ u_nc.toInt ≤ 12) (h_u_co : 0 ≤ u_co.toInt ∧ u_co.toInt ≤ 400) (h_u_pd : 0 ≤ u_pd.toInt ∧ u_pd.toInt ≤ 400) (h_u_la : 0 ≤ u_la.toInt ∧ u_la.toInt ≤ 4840) (h_u_bk : 0 ≤ u_bk.toInt ∧ u_bk.toInt ≤ 1) (h_u_ce : 0 ≤ u_ce.toInt ∧ u_ce.toInt ≤ 63) (h_u_ho : 0 ≤ u_ho.toInt ∧ u_ho.toInt ≤ 23) (h_u_wy : 0 ≤ u_wy.toInt ∧ u_wy.toInt ≤ 3) (h_u_bt : 0 ≤ u_bt.toInt ∧ u_bt.toInt ≤ 1000000) (h_u_ps : 0 ≤ u_ps.toInt ∧ u_ps.toInt ≤ 200) (h_u_ic : 0 ≤ u_ic.toInt ∧ u_ic.toInt ≤ 1) (h_u_id : 0 ≤ u_id.toInt ∧ u_id.toInt ≤ 1) (e_c : u_pd.toInt < 400) : Met l yX12_push (wsG yX12_push cX12_push 3 none) ({ frames := 0, cells := 0, slots := 0, locals := 0 }) (va_Pc [.ref b_o, .int p_1, .int p_2] (g5_P G [(b_o, (oc12 u_th u_sa b_rf b_ro b_im b_ke u_fd b_tp u_td u_fr u_to u_so u_wo u_fa u_bd u_nc b_nl u_co b_op b_ar u_le b_pi b_pa u_pd u_od b_ws b_hw u_la b_se b_re u_bk u_va u_su u_ce u_ho u_wy u_bt u_ps b_pt u_tg u_sn b_ip u_ic b_ah b_be b_me u_wd b_tr b_ld u_st b_wn u_id)), (b_pi, (arI G 400 v_pi)), (b_pa, (arI G 400 v_pa))] sz)) (va_Qv (fun (u : va_W) => (∃ (o_pd : Int32), (0 ≤ o_pd.toInt ∧ o_pd.toInt ≤ 400) ∧ (o_pd.toInt = u_pd.toInt + 1) ∧ (u = [(b_o, (oc12 u_th u_sa b_rf b_ro b_im b_ke u_fd b_tp u_td u_fr u_to u_so u_wo u_fa u_bd u_nc b_nl u_co b_op b_ar u_le b_pi b_pa o_pd u_od b_ws b_hw u_la b_se b_re u_bk u_va u_su u_ce u_ho u_wy u_bt u_ps b_pt u_tg u_sn b_ip u_ic b_ah b_be b_me u_wd b_tr b_ld u_st b_wn u_id)), (b_pi, (arI G 400 (upd v_pi u_pd.toNatClampNeg p_1))), (b_pa, (arI G 400 (upd v_pa u_pd.toNatClampNeg p_2)))]))) (g5_B G (va_A [(b_o, (oc12 u_th u_sa b_rf b_ro b_im b_ke u_fd b_tp u_td u_fr u_to u_so u_wo u_fa u_bd u_nc b_nl u_co b_op b_ar u_le b_pi b_pa u_pd u_od b_ws b_hw u_la b_se b_re u_bk u_va u_su u_ce u_ho u_wy u_bt u_ps b_pt u_tg u_sn b_ip u_ic b_ah b_be b_me u_wd b_tr b_ld u_st b_wn u_id)), (b_pi, (arI G 400 v_pi)), (b_pa, (arI G 400 v_pa))] sz)) (va_A [(b_o, (oc12 u_th u_sa b_rf b_ro b_im b_ke u_fd b_tp u_td u_fr u_to u_so u_wo u_fa u_bd u_nc b_nl u_co b_op b_ar u_le b_pi b_pa u_pd u_od b_ws b_hw u_la b_se b_re u_bk u_va u_su u_ce u_ho u_wy u_bt u_ps b_pt u_tg u_sn b_ip u_ic b_ah b_be b_me u_wd b_tr b_ld u_st b_wn u_id)), (b_pi, (arI G 400 v_pi)), (b_pa, (arI G 400 v_pa))] sz)) 0 0 (va_A [(b_o, (oc12 u_th u_sa b_rf b_ro b_im b_ke u_fd b_tp u_td u_fr u_to u_so u_wo u_fa u_bd u_nc b_nl u_co b_op b_ar u_le b_pi b_pa u_pd u_od b_ws b_hw u_la b_se b_re u_bk u_va u_su u_ce u_ho u_wy u_bt u_ps b_pt u_tg u_sn b_ip u_ic b_ah b_be b_me u_wd b_tr b_ld u_st b_wn u_id)), (b_pi, (arI G 400 v_pi)), (b_pa, (arI G 400 v_pa))] sz) := by
  refine Met.ofW (cc := cX12_push) (maxL := 3) (ret := none) (by decide) rfl ?_
  intro p e s m args below meth c s₁ B hml hv
  obtain ⟨rfl, hsz, hP, hK, hD0, hN, hT⟩ := hv
  have hx := B.exec
  have hb := B.bytes
  have hr := B.returns
  have hts : ∀ w ∈ tblG, w.before _ s = true := fun w h => atoms_spec (ws := (wsG yX12_push cX12_push 3 none)) B.pre w (List.mem_cons_of_mem _ h)
  have hown : s.vm.findClass RX12 = some m.cls := findClass_of_methodNamed B.named
  have hlocks := B.notSynchronized
  subst hsz
  have hD := hD0.self (sz := s.heap.size)
  generalize hAe : va_A [(b_o, (oc12 u_th u_sa b_rf b_ro b_im b_ke u_fd b_tp u_td u_fr u_to u_so u_wo u_fa u_bd u_nc b_nl u_co b_op b_ar u_le b_pi b_pa u_pd u_od b_ws b_hw u_la b_se b_re u_bk u_va u_su u_ce u_ho u_wy u_bt u_ps b_pt u_tg u_sn b_ip u_ic b_ah b_be b_me u_wd b_tr b_ld u_st b_wn u_id)), (b_pi, (arI G 400 v_pi)), (b_pa, (arI G 400 v_pa))] s.heap.size = A at hD hT ⊢
  have hA : ∀ q : Nat, s.heap.size ≤ q → A q := fun q h => by rw [← hAe]; exact Or.inr h
  have hS : va_S A s.heap s.heap [] := va_S.rf
  have hP : va_P G.1 vwCl [(b_o, (oc12 u_th u_sa b_rf b_ro b_im b_ke u_fd b_tp u_td u_fr u_to u_so u_wo u_fa u_bd u_nc b_nl u_co b_op b_ar u_le b_pi b_pa u_pd u_od b_ws b_hw u_la b_se b_re u_bk u_va u_su u_ce u_ho u_wy u_bt u_ps b_pt u_tg u_sn b_ip u_ic b_ah b_be b_me u_wd b_tr b_ld u_st b_wn u_id)), (b_pi, (arI G 400 v_pi)), (b_pa, (arI G 400 v_pa))] s.heap := hP
  have hl := lv_entry ([.ref b_o, .int p_1, .int p_2]) (n := 3) (Nat.le_of_ble_eq_true rfl)
  rw [lg_entry_eq]
  generalize (lg_sl ([.ref b_o, .int p_1, .int p_2]) ++ List.replicate (3 - (lg_sl ([.ref b_o, .int p_1, .int p_2])).length) Slot.unset).toArray = ls at hl ⊢
  have hl : lv_has ls 3 [(0, .ref b_o), (1, .int p_1), (2, .int p_2)] := hl
  refine lv_aload_n hx hb dX12_push_0 rfl (lv_at hl 0 rfl) ?_
  refine va_get (D := G.1) (ci := 12) (v := .ref b_pi) (C := RX12) (T := TX12) (N := 52) hx hb hts inG_X12 hown hK hP 0 rfl rfl 21 (by decide) (hts _ fl_X12_39) (fun _ h9 => h9) rfl dX12_push_1 ?_
  refine lv_aload_n hx hb dX12_push_4 rfl (lv_at hl 0 rfl) ?_
  refine va_get (D := G.1) (ci := 12) (v := .int u_pd) (C := RX12) (T := TX12) (N := 52) hx hb hts inG_X12 hown hK hP 0 rfl rfl 23 (by decide) (hts _ fl_X12_240) (fun _ h9 => h9) rfl dX12_push_5 ?_
  refine lv_iload_n hx hb dX12_push_8 rfl (lv_at hl 1 rfl) ?_
  refine va_iast hx hb hK hP hD hS 1 0 rfl rfl (i := u_pd) (x := p_1) (vp_in_iff.mpr ⟨by omega, by omega⟩) dX12_push_9 (fun H locs hP hD hS => ?_)
  refine g5_rs [(b_o, (oc12 u_th u_sa b_rf b_ro b_im b_ke u_fd b_tp u_td u_fr u_to u_so u_wo u_fa u_bd u_nc b_nl u_co b_op b_ar u_le b_pi b_pa u_pd u_od b_ws b_hw u_la b_se b_re u_bk u_va u_su u_ce u_ho u_wy u_bt u_ps b_pt u_tg u_sn b_ip u_ic b_ah b_be b_me u_wd b_tr b_ld u_st b_wn u_id)), (b_pi, (arI G 400 (upd v_pi u_pd.toNatClampNeg p_1))), (b_pa, (arI G 400 v_pa))] hP hD (fun hP hD => ?_)
  refine lv_aload_n hx hb dX12_push_10 rfl (lv_at hl 0 rfl) ?_
  refine va_get (D := G.1) (ci := 12) (v := .ref b_pa) (C := RX12) (T := TX12) (N := 52) hx hb hts inG_X12 hown hK hP 0 rfl rfl 22 (by decide) (hts _ fl_X12_42) (fun _ h9 => h9) rfl dX12_push_11 ?_
  refine lv_aload_n hx hb dX12_push_14 rfl (lv_at hl 0 rfl) ?_
  refine va_get (D := G.1) (ci := 12) (v := .int u_pd) (C := RX12) (T := TX12) (N := 52) hx hb hts inG_X12 hown hK hP 0 rfl rfl 23 (by decide) (hts _ fl_X12_240) (fun _ h9 => h9) rfl dX12_push_15 ?_
  refine lv_iload_n hx hb dX12_push_18 rfl (lv_at hl 2 rfl) ?_
  refine va_iast hx hb hK hP hD hS 2 0 rfl rfl (i := u_pd) (x := p_2) (vp_in_iff.mpr ⟨by omega, by omega⟩) dX12_push_19 (fun H locs hP hD hS => ?_)
  refine g5_rs [(b_o, (oc12 u_th u_sa b_rf b_ro b_im b_ke u_fd b_tp u_td u_fr u_to u_so u_wo u_fa u_bd u_nc b_nl u_co b_op b_ar u_le b_pi b_pa u_pd u_od b_ws b_hw u_la b_se b_re u_bk u_va u_su u_ce u_ho u_wy u_bt u_ps b_pt u_tg u_sn b_ip u_ic b_ah b_be b_me u_wd b_tr b_ld u_st b_wn u_id)), (b_pi, (arI G 400 (upd v_pi u_pd.toNatClampNeg p_1))), (b_pa, (arI G 400 (upd v_pa u_pd.toNatClampNeg p_2)))] hP hD (fun hP hD => ?_)
  refine lv_aload_n hx hb dX12_push_20 rfl (lv_at hl 0 rfl) ?_
  refine lv_dup hx hb dX12_push_21 rfl ?_
  refine va_get (D := G.1) (ci := 12) (v := .int u_pd) (C := RX12) (T := TX12) (N := 52) hx hb hts inG_X12 hown hK hP 0 rfl rfl 23 (by decide) (hts _ fl_X12_240) (fun _ h9 => h9) rfl dX12_push_22 ?_
  refine lv_iconst (v := 1) hx hb dX12_push_25 (by decide) ?_
  refine lv_iadd hx hb dX12_push_26 ?_
  have t_1 : (u_pd + 1).toInt = u_pd.toInt + 1 := g5_iadd (a := u_pd.toInt) (b := 1) (by rfl) (by decide) (by omega) (by omega)
  refine va_put (D := G.1) (ci := 12) (v := .int (u_pd + 1)) (ty := .int) (C := RX12) (T := TX12) (N := 52) hx hb hts inG_X12 tyX12 tyX12_ok nmX12 hown hK hP hD hS 0 rfl rfl 23 (by decide) (hts _ fl_X12_240) (fun _ h9 => h9) rfl (by decide +kernel) rfl rfl (Nat.le_of_ble_eq_true rfl) dX12_push_27 (fun H locs hP hD hS => ?_)
  refine g5_rs [(b_o, (oc12 u_th u_sa b_rf b_ro b_im b_ke u_fd b_tp u_td u_fr u_to u_so u_wo u_fa u_bd u_nc b_nl u_co b_op b_ar u_le b_pi b_pa (u_pd + 1) u_od b_ws b_hw u_la b_se b_re u_bk u_va u_su u_ce u_ho u_wy u_bt u_ps b_pt u_tg u_sn b_ip u_ic b_ah b_be b_me u_wd b_tr b_ld u_st b_wn u_id)), (b_pi, (arI G 400 (upd v_pi u_pd.toNatClampNeg p_1))), (b_pa, (arI G 400 (upd v_pa u_pd.toNatClampNeg p_2)))] hP hD (fun hP hD => ?_)
  exact W.vret hx hb hr (fun t ht hW => ⟨⟨[(b_o, (oc12 u_th u_sa b_rf b_ro b_im b_ke u_fd b_tp u_td u_fr u_to u_so u_wo u_fa u_bd u_nc b_nl u_co b_op b_ar u_le b_pi b_pa (u_pd + 1) u_od b_ws b_hw u_la b_se b_re u_bk u_va u_su u_ce u_ho u_wy u_bt u_ps b_pt u_tg u_sn b_ip u_ic b_ah b_be b_me u_wd b_tr b_ld u_st b_wn u_id)), (b_pi, (arI G 400 (upd v_pi u_pd.toNatClampNeg p_1))), (b_pa, (arI G 400 (upd v_pa u_pd.toNatClampNeg p_2)))], rfl, ⟨(u_pd + 1), ⟨by omega, by omega⟩, by omega, rfl⟩, by rw [ht]; exact hP.sub [0, 1, 2] rfl, hD.sub [0, 1, 2] (by decide) rfl⟩, hS.F ht⟩) hS.2.2 dX12_push_30
theorem dgX12_binds_0 : ∀ r ∈ ([(0, (.iload_n 0, 1)), (1, (.bipush 30, 2)), (3, (.if_icmp .lt 7, 3)), (6, (.iconst 0, 1)), (7, (.goto 55, 3)), (10, (.iload_n 0, 1)), (11, (.bipush 29, 2)), (13, (.if_icmp .ne 7, 3)), (16, (.iconst 1, 1)), (17, (.goto 45, 3)), (20, (.iload_n 0, 1)), (21, (.bipush 28, 2)), (23, (.if_icmp .ne 7, 3)), (26, (.iconst 2, 1)), (27, (.goto 35, 3)), (30, (.iload_n 0, 1)), (31, (.bipush 27, 2)), (33, (.if_icmp .ne 7, 3)), (36, (.iconst 3, 1)), (37, (.goto 25, 3)), (40, (.iload_n 0, 1)), (41, (.bipush 24, 2)), (43, (.if_icmp .lt 7, 3)), (46, (.iconst 4, 1)), (47, (.goto 15, 3)), (50, (.iload_n 0, 1)), (51, (.bipush 22, 2)), (53, (.if_icmp .lt 8, 3)), (56, (.bipush 6, 2)), (58, (.goto 4, 3)), (61, (.iconst 5, 1)), (62, (.ireturn, 1))] : List (Nat × (Instr × Nat))), decode cX12_binds r.1 = .ok r.2 := by decide +kernel
theorem dX12_binds_0 : decode cX12_binds 0 = .ok (.iload_n 0, 1) := dgX12_binds_0 (0, (.iload_n 0, 1)) (List.mem_of_getElem? (i := 0) rfl)
theorem dX12_binds_1 : decode cX12_binds 1 = .ok (.bipush 30, 2) := dgX12_binds_0 (1, (.bipush 30, 2)) (List.mem_of_getElem? (i := 1) rfl)
theorem dX12_binds_3 : decode cX12_binds 3 = .ok (.if_icmp .lt 7, 3) := dgX12_binds_0 (3, (.if_icmp .lt 7, 3)) (List.mem_of_getElem? (i := 2) rfl)
theorem dX12_binds_6 : decode cX12_binds 6 = .ok (.iconst 0, 1) := dgX12_binds_0 (6, (.iconst 0, 1)) (List.mem_of_getElem? (i := 3) rfl)
theorem dX12_binds_7 : decode cX12_binds 7 = .ok (.goto 55, 3) := dgX12_binds_0 (7, (.goto 55, 3)) (List.mem_of_getElem? (i := 4) rfl)
theorem dX12_binds_10 : decode cX12_binds 10 = .ok (.iload_n 0, 1) := dgX12_binds_0 (10, (.iload_n 0, 1)) (List.mem_of_getElem? (i := 5) rfl)
theorem dX12_binds_11 : decode cX12_binds 11 = .ok (.bipush 29, 2) := dgX12_binds_0 (11, (.bipush 29, 2)) (List.mem_of_getElem? (i := 6) rfl)
theorem dX12_binds_13 : decode cX12_binds 13 = .ok (.if_icmp .ne 7, 3) := dgX12_binds_0 (13, (.if_icmp .ne 7, 3)) (List.mem_of_getElem? (i := 7) rfl)
theorem dX12_binds_16 : decode cX12_binds 16 = .ok (.iconst 1, 1) := dgX12_binds_0 (16, (.iconst 1, 1)) (List.mem_of_getElem? (i := 8) rfl)
theorem dX12_binds_17 : decode cX12_binds 17 = .ok (.goto 45, 3) := dgX12_binds_0 (17, (.goto 45, 3)) (List.mem_of_getElem? (i := 9) rfl)
theorem dX12_binds_20 : decode cX12_binds 20 = .ok (.iload_n 0, 1) := dgX12_binds_0 (20, (.iload_n 0, 1)) (List.mem_of_getElem? (i := 10) rfl)
theorem dX12_binds_21 : decode cX12_binds 21 = .ok (.bipush 28, 2) := dgX12_binds_0 (21, (.bipush 28, 2)) (List.mem_of_getElem? (i := 11) rfl)
theorem dX12_binds_23 : decode cX12_binds 23 = .ok (.if_icmp .ne 7, 3) := dgX12_binds_0 (23, (.if_icmp .ne 7, 3)) (List.mem_of_getElem? (i := 12) rfl)
theorem dX12_binds_26 : decode cX12_binds 26 = .ok (.iconst 2, 1) := dgX12_binds_0 (26, (.iconst 2, 1)) (List.mem_of_getElem? (i := 13) rfl)
theorem dX12_binds_27 : decode cX12_binds 27 = .ok (.goto 35, 3) := dgX12_binds_0 (27, (.goto 35, 3)) (List.mem_of_getElem? (i := 14) rfl)
theorem dX12_binds_30 : decode cX12_binds 30 = .ok (.iload_n 0, 1) := dgX12_binds_0 (30, (.iload_n 0, 1)) (List.mem_of_getElem? (i := 15) rfl)
theorem dX12_binds_31 : decode cX12_binds 31 = .ok (.bipush 27, 2) := dgX12_binds_0 (31, (.bipush 27, 2)) (List.mem_of_getElem? (i := 16) rfl)
theorem dX12_binds_33 : decode cX12_binds 33 = .ok (.if_icmp .ne 7, 3) := dgX12_binds_0 (33, (.if_icmp .ne 7, 3)) (List.mem_of_getElem? (i := 17) rfl)
theorem dX12_binds_36 : decode cX12_binds 36 = .ok (.iconst 3, 1) := dgX12_binds_0 (36, (.iconst 3, 1)) (List.mem_of_getElem? (i := 18) rfl)
theorem dX12_binds_37 : decode cX12_binds 37 = .ok (.goto 25, 3) := dgX12_binds_0 (37, (.goto 25, 3)) (List.mem_of_getElem? (i := 19) rfl)
theorem dX12_binds_40 : decode cX12_binds 40 = .ok (.iload_n 0, 1) := dgX12_binds_0 (40, (.iload_n 0, 1)) (List.mem_of_getElem? (i := 20) rfl)
theorem dX12_binds_41 : decode cX12_binds 41 = .ok (.bipush 24, 2) := dgX12_binds_0 (41, (.bipush 24, 2)) (List.mem_of_getElem? (i := 21) rfl)
theorem dX12_binds_43 : decode cX12_binds 43 = .ok (.if_icmp .lt 7, 3) := dgX12_binds_0 (43, (.if_icmp .lt 7, 3)) (List.mem_of_getElem? (i := 22) rfl)
theorem dX12_binds_46 : decode cX12_binds 46 = .ok (.iconst 4, 1) := dgX12_binds_0 (46, (.iconst 4, 1)) (List.mem_of_getElem? (i := 23) rfl)
theorem dX12_binds_47 : decode cX12_binds 47 = .ok (.goto 15, 3) := dgX12_binds_0 (47, (.goto 15, 3)) (List.mem_of_getElem? (i := 24) rfl)
theorem dX12_binds_50 : decode cX12_binds 50 = .ok (.iload_n 0, 1) := dgX12_binds_0 (50, (.iload_n 0, 1)) (List.mem_of_getElem? (i := 25) rfl)
theorem dX12_binds_51 : decode cX12_binds 51 = .ok (.bipush 22, 2) := dgX12_binds_0 (51, (.bipush 22, 2)) (List.mem_of_getElem? (i := 26) rfl)
theorem dX12_binds_53 : decode cX12_binds 53 = .ok (.if_icmp .lt 8, 3) := dgX12_binds_0 (53, (.if_icmp .lt 8, 3)) (List.mem_of_getElem? (i := 27) rfl)
theorem dX12_binds_56 : decode cX12_binds 56 = .ok (.bipush 6, 2) := dgX12_binds_0 (56, (.bipush 6, 2)) (List.mem_of_getElem? (i := 28) rfl)
theorem dX12_binds_58 : decode cX12_binds 58 = .ok (.goto 4, 3) := dgX12_binds_0 (58, (.goto 4, 3)) (List.mem_of_getElem? (i := 29) rfl)
theorem dX12_binds_61 : decode cX12_binds 61 = .ok (.iconst 5, 1) := dgX12_binds_0 (61, (.iconst 5, 1)) (List.mem_of_getElem? (i := 30) rfl)
theorem dX12_binds_62 : decode cX12_binds 62 = .ok (.ireturn, 1) := dgX12_binds_0 (62, (.ireturn, 1)) (List.mem_of_getElem? (i := 31) rfl)
set_option maxHeartbeats 4000000 in
set_option maxRecDepth 100000 in
theorem n_binds (l : Launch) (G : g5_G) (sz : Nat) (p_0 : Int32) (h_p_0 : 20 ≤ p_0.toInt ∧ p_0.toInt ≤ 31) : Met l yX12_binds (wsG yX12_binds cX12_binds 1 (some .int)) ({ frames := 0, cells := 0, slots := 0, locals := 0 }) (va_Pc [.int p_0] (g5_P G [] sz)) (va_Qi (fun (r : Int32) (u : va_W) => (∃ (o_r : Int32), (0 ≤ o_r.toInt ∧ o_r.toInt ≤ 6) ∧ (o_r.toInt = bnd p_0.toInt) ∧ (r = o_r) ∧ (u = []))) (g5_B G (va_A [] sz)) (va_A [] sz)) 0 0 (va_A [] sz) := by
  refine Met.ofW (cc := cX12_binds) (maxL := 1) (ret := (some .int)) (by decide) rfl ?_
  intro p e s m args below meth c s₁ B hml hv
  obtain ⟨rfl, hsz, hP, hK, hD0, hN, hT⟩ := hv
  have hx := B.exec
  have hb := B.bytes
  have hr := B.returns
  have hts : ∀ w ∈ tblG, w.before _ s = true := fun w h => atoms_spec (ws := (wsG yX12_binds cX12_binds 1 (some .int))) B.pre w (List.mem_cons_of_mem _ h)
  have hown : s.vm.findClass RX12 = some m.cls := findClass_of_methodNamed B.named
  have hlocks := B.notSynchronized
  subst hsz
  have hD := hD0.self (sz := s.heap.size)
  generalize hAe : va_A [] s.heap.size = A at hD hT ⊢
  have hA : ∀ q : Nat, s.heap.size ≤ q → A q := fun q h => by rw [← hAe]; exact Or.inr h
  have hS : va_S A s.heap s.heap [] := va_S.rf
  have hP : va_P G.1 vwCl [] s.heap := hP
  have hl := lv_entry ([.int p_0]) (n := 1) (Nat.le_of_ble_eq_true rfl)
  rw [lg_entry_eq]
  generalize (lg_sl ([.int p_0]) ++ List.replicate (1 - (lg_sl ([.int p_0])).length) Slot.unset).toArray = ls at hl ⊢
  have hl : lv_has ls 1 [(0, .int p_0)] := hl
  refine lv_iload_n hx hb dX12_binds_0 rfl (lv_at hl 0 rfl) ?_
  refine lv_bipush (v := 30) hx hb dX12_binds_1 (by decide) ?_
  refine lv_icmp_lt (tgt := 10) hx hb dX12_binds_3 (by decide) (fun c_1 => ?_) (fun c_1 => ?_)
  ·
    have i_1 : p_0.toInt < 30 := by have z := g5_lt (a := p_0.toInt) (b := 30) (by rfl) (by decide) c_1; omega
    refine lv_iload_n hx hb dX12_binds_10 rfl (lv_at hl 0 rfl) ?_
    refine lv_bipush (v := 29) hx hb dX12_binds_11 (by decide) ?_
    refine lv_icmp_ne (tgt := 20) hx hb dX12_binds_13 (by decide) (fun c_2 => ?_) (fun c_2 => ?_)
    ·
      have n_2 : gNe (p_0.toInt) (29) := by have z := g5_ne (a := p_0.toInt) (b := 29) (by rfl) (by decide) c_2; unfold gNe; omega
      have i_2 : p_0.toInt ≤ 28 := by have z := g5_ne (a := p_0.toInt) (b := 29) (by rfl) (by decide) c_2; omega
      refine lv_iload_n hx hb dX12_binds_20 rfl (lv_at hl 0 rfl) ?_
      refine lv_bipush (v := 28) hx hb dX12_binds_21 (by decide) ?_
      refine lv_icmp_ne (tgt := 30) hx hb dX12_binds_23 (by decide) (fun c_3 => ?_) (fun c_3 => ?_)
      ·
        have n_3 : gNe (p_0.toInt) (28) := by have z := g5_ne (a := p_0.toInt) (b := 28) (by rfl) (by decide) c_3; unfold gNe; omega
        have i_3 : p_0.toInt ≤ 27 := by have z := g5_ne (a := p_0.toInt) (b := 28) (by rfl) (by decide) c_3; omega
        refine lv_iload_n hx hb dX12_binds_30 rfl (lv_at hl 0 rfl) ?_
        refine lv_bipush (v := 27) hx hb dX12_binds_31 (by decide) ?_
        refine lv_icmp_ne (tgt := 40) hx hb dX12_binds_33 (by decide) (fun c_4 => ?_) (fun c_4 => ?_)
        ·
          have n_4 : gNe (p_0.toInt) (27) := by have z := g5_ne (a := p_0.toInt) (b := 27) (by rfl) (by decide) c_4; unfold gNe; omega
          have i_4 : p_0.toInt ≤ 26 := by have z := g5_ne (a := p_0.toInt) (b := 27) (by rfl) (by decide) c_4; omega
          refine lv_iload_n hx hb dX12_binds_40 rfl (lv_at hl 0 rfl) ?_
          refine lv_bipush (v := 24) hx hb dX12_binds_41 (by decide) ?_
          refine lv_icmp_lt (tgt := 50) hx hb dX12_binds_43 (by decide) (fun c_5 => ?_) (fun c_5 => ?_)
          ·
            have i_5 : p_0.toInt < 24 := by have z := g5_lt (a := p_0.toInt) (b := 24) (by rfl) (by decide) c_5; omega
            refine lv_iload_n hx hb dX12_binds_50 rfl (lv_at hl 0 rfl) ?_
            refine lv_bipush (v := 22) hx hb dX12_binds_51 (by decide) ?_
            refine lv_icmp_lt (tgt := 61) hx hb dX12_binds_53 (by decide) (fun c_6 => ?_) (fun c_6 => ?_)
            ·
              have i_6 : p_0.toInt < 22 := by have z := g5_lt (a := p_0.toInt) (b := 22) (by rfl) (by decide) c_6; omega
              refine lv_iconst (v := 5) hx hb dX12_binds_61 (by decide) ?_
              exact W.iret (v := 5) hx hb hr (fun t ht hW => ⟨⟨5, [], rfl, ⟨5, ⟨by have zc_o_r : (5 : Int32).toInt = 5 := (by decide); omega, by have zc_o_r : (5 : Int32).toInt = 5 := (by decide); omega⟩, by rw [bnd_5 (by omega)]; decide, rfl, rfl⟩, by rw [ht]; exact hP.sub [] rfl, hD.sub [] (by decide) rfl⟩, hS.F ht⟩) hS.2.2 dX12_binds_62
            ·
              have i_6 : p_0.toInt ≥ 22 := by have z := g5_ltN (a := p_0.toInt) (b := 22) (by rfl) (by decide) c_6; omega
              refine lv_bipush (v := 6) hx hb dX12_binds_56 (by decide) ?_
              refine lv_goto (tgt := 62) hx hb dX12_binds_58 (by decide) ?_
              exact W.iret (v := 6) hx hb hr (fun t ht hW => ⟨⟨6, [], rfl, ⟨6, ⟨by have zc_o_r : (6 : Int32).toInt = 6 := (by decide); omega, by have zc_o_r : (6 : Int32).toInt = 6 := (by decide); omega⟩, by rw [bnd_6 (by omega) (by omega)]; decide, rfl, rfl⟩, by rw [ht]; exact hP.sub [] rfl, hD.sub [] (by decide) rfl⟩, hS.F ht⟩) hS.2.2 dX12_binds_62
          ·
            have i_5 : p_0.toInt ≥ 24 := by have z := g5_ltN (a := p_0.toInt) (b := 24) (by rfl) (by decide) c_5; omega
            refine lv_iconst (v := 4) hx hb dX12_binds_46 (by decide) ?_
            refine lv_goto (tgt := 62) hx hb dX12_binds_47 (by decide) ?_
            exact W.iret (v := 4) hx hb hr (fun t ht hW => ⟨⟨4, [], rfl, ⟨4, ⟨by have zc_o_r : (4 : Int32).toInt = 4 := (by decide); omega, by have zc_o_r : (4 : Int32).toInt = 4 := (by decide); omega⟩, by rw [bnd_4 (by omega) (by omega)]; decide, rfl, rfl⟩, by rw [ht]; exact hP.sub [] rfl, hD.sub [] (by decide) rfl⟩, hS.F ht⟩) hS.2.2 dX12_binds_62
        ·
          have i_4 : p_0.toInt = 27 := by have z := g5_neN (a := p_0.toInt) (b := 27) (by rfl) (by decide) c_4; omega
          refine lv_iconst (v := 3) hx hb dX12_binds_36 (by decide) ?_
          refine lv_goto (tgt := 62) hx hb dX12_binds_37 (by decide) ?_
          exact W.iret (v := 3) hx hb hr (fun t ht hW => ⟨⟨3, [], rfl, ⟨3, ⟨by have zc_o_r : (3 : Int32).toInt = 3 := (by decide); omega, by have zc_o_r : (3 : Int32).toInt = 3 := (by decide); omega⟩, by rw [bnd_3 (by omega)]; decide, rfl, rfl⟩, by rw [ht]; exact hP.sub [] rfl, hD.sub [] (by decide) rfl⟩, hS.F ht⟩) hS.2.2 dX12_binds_62
      ·
        have i_3 : p_0.toInt = 28 := by have z := g5_neN (a := p_0.toInt) (b := 28) (by rfl) (by decide) c_3; omega
        refine lv_iconst (v := 2) hx hb dX12_binds_26 (by decide) ?_
        refine lv_goto (tgt := 62) hx hb dX12_binds_27 (by decide) ?_
        exact W.iret (v := 2) hx hb hr (fun t ht hW => ⟨⟨2, [], rfl, ⟨2, ⟨by have zc_o_r : (2 : Int32).toInt = 2 := (by decide); omega, by have zc_o_r : (2 : Int32).toInt = 2 := (by decide); omega⟩, by rw [bnd_2 (by omega)]; decide, rfl, rfl⟩, by rw [ht]; exact hP.sub [] rfl, hD.sub [] (by decide) rfl⟩, hS.F ht⟩) hS.2.2 dX12_binds_62
    ·
      have i_2 : p_0.toInt = 29 := by have z := g5_neN (a := p_0.toInt) (b := 29) (by rfl) (by decide) c_2; omega
      refine lv_iconst (v := 1) hx hb dX12_binds_16 (by decide) ?_
      refine lv_goto (tgt := 62) hx hb dX12_binds_17 (by decide) ?_
      exact W.iret (v := 1) hx hb hr (fun t ht hW => ⟨⟨1, [], rfl, ⟨1, ⟨by have zc_o_r : (1 : Int32).toInt = 1 := (by decide); omega, by have zc_o_r : (1 : Int32).toInt = 1 := (by decide); omega⟩, by rw [bnd_1 (by omega)]; decide, rfl, rfl⟩, by rw [ht]; exact hP.sub [] rfl, hD.sub [] (by decide) rfl⟩, hS.F ht⟩) hS.2.2 dX12_binds_62
  ·
    have i_1 : p_0.toInt ≥ 30 := by have z := g5_ltN (a := p_0.toInt) (b := 30) (by rfl) (by decide) c_1; omega
    refine lv_iconst (v := 0) hx hb dX12_binds_6 (by decide) ?_
    refine lv_goto (tgt := 62) hx hb dX12_binds_7 (by decide) ?_
    exact W.iret (v := 0) hx hb hr (fun t ht hW => ⟨⟨0, [], rfl, ⟨0, ⟨by have zc_o_r : (0 : Int32).toInt = 0 := (by decide); omega, by have zc_o_r : (0 : Int32).toInt = 0 := (by decide); omega⟩, by rw [bnd_0 (by omega)]; decide, rfl, rfl⟩, by rw [ht]; exact hP.sub [] rfl, hD.sub [] (by decide) rfl⟩, hS.F ht⟩) hS.2.2 dX12_binds_62
set_option maxHeartbeats 4000000 in
set_option maxRecDepth 100000 in
theorem n_binds20 (l : Launch) (G : g5_G) (sz : Nat) : Met l yX12_binds (wsG yX12_binds cX12_binds 1 (some .int)) ({ frames := 0, cells := 0, slots := 0, locals := 0 }) (va_Pc [.int 20] (g5_P G [] sz)) (va_Qi (fun (r : Int32) (u : va_W) => ((r = 5) ∧ (u = []))) (g5_B G (va_A [] sz)) (va_A [] sz)) 0 0 (va_A [] sz) := by
  refine Met.ofW (cc := cX12_binds) (maxL := 1) (ret := (some .int)) (by decide) rfl ?_
  intro p e s m args below meth c s₁ B hml hv
  obtain ⟨rfl, hsz, hP, hK, hD0, hN, hT⟩ := hv
  have hx := B.exec
  have hb := B.bytes
  have hr := B.returns
  have hts : ∀ w ∈ tblG, w.before _ s = true := fun w h => atoms_spec (ws := (wsG yX12_binds cX12_binds 1 (some .int))) B.pre w (List.mem_cons_of_mem _ h)
  have hown : s.vm.findClass RX12 = some m.cls := findClass_of_methodNamed B.named
  have hlocks := B.notSynchronized
  subst hsz
  have hD := hD0.self (sz := s.heap.size)
  generalize hAe : va_A [] s.heap.size = A at hD hT ⊢
  have hA : ∀ q : Nat, s.heap.size ≤ q → A q := fun q h => by rw [← hAe]; exact Or.inr h
  have hS : va_S A s.heap s.heap [] := va_S.rf
  have hP : va_P G.1 vwCl [] s.heap := hP
  have hl := lv_entry ([.int 20]) (n := 1) (Nat.le_of_ble_eq_true rfl)
  rw [lg_entry_eq]
  generalize (lg_sl ([.int 20]) ++ List.replicate (1 - (lg_sl ([.int 20])).length) Slot.unset).toArray = ls at hl ⊢
  have hl : lv_has ls 1 [(0, .int 20)] := hl
  refine lv_iload_n hx hb dX12_binds_0 rfl (lv_at hl 0 rfl) ?_
  refine lv_bipush (v := 30) hx hb dX12_binds_1 (by decide) ?_
  refine lv_icmp_lt (tgt := 10) hx hb dX12_binds_3 (by decide) (fun c_1 => ?_) (fun c_1 => ?_)
  ·
    refine lv_iload_n hx hb dX12_binds_10 rfl (lv_at hl 0 rfl) ?_
    refine lv_bipush (v := 29) hx hb dX12_binds_11 (by decide) ?_
    refine lv_icmp_ne (tgt := 20) hx hb dX12_binds_13 (by decide) (fun c_2 => ?_) (fun c_2 => ?_)
    ·
      refine lv_iload_n hx hb dX12_binds_20 rfl (lv_at hl 0 rfl) ?_
      refine lv_bipush (v := 28) hx hb dX12_binds_21 (by decide) ?_
      refine lv_icmp_ne (tgt := 30) hx hb dX12_binds_23 (by decide) (fun c_3 => ?_) (fun c_3 => ?_)
      ·
        refine lv_iload_n hx hb dX12_binds_30 rfl (lv_at hl 0 rfl) ?_
        refine lv_bipush (v := 27) hx hb dX12_binds_31 (by decide) ?_
        refine lv_icmp_ne (tgt := 40) hx hb dX12_binds_33 (by decide) (fun c_4 => ?_) (fun c_4 => ?_)
        ·
          refine lv_iload_n hx hb dX12_binds_40 rfl (lv_at hl 0 rfl) ?_
          refine lv_bipush (v := 24) hx hb dX12_binds_41 (by decide) ?_
          refine lv_icmp_lt (tgt := 50) hx hb dX12_binds_43 (by decide) (fun c_5 => ?_) (fun c_5 => ?_)
          ·
            refine lv_iload_n hx hb dX12_binds_50 rfl (lv_at hl 0 rfl) ?_
            refine lv_bipush (v := 22) hx hb dX12_binds_51 (by decide) ?_
            refine lv_icmp_lt (tgt := 61) hx hb dX12_binds_53 (by decide) (fun c_6 => ?_) (fun c_6 => ?_)
            ·
              refine lv_iconst (v := 5) hx hb dX12_binds_61 (by decide) ?_
              exact W.iret (v := 5) hx hb hr (fun t ht hW => ⟨⟨5, [], rfl, ⟨rfl, rfl⟩, by rw [ht]; exact hP.sub [] rfl, hD.sub [] (by decide) rfl⟩, hS.F ht⟩) hS.2.2 dX12_binds_62
            ·
              exact absurd c_6 (by decide)
          ·
            exact absurd c_5 (by decide)
        ·
          exact absurd c_4 (by decide)
      ·
        exact absurd c_3 (by decide)
    ·
      exact absurd c_2 (by decide)
  ·
    exact absurd c_1 (by decide)
set_option maxHeartbeats 4000000 in
set_option maxRecDepth 100000 in
theorem n_binds21 (l : Launch) (G : g5_G) (sz : Nat) : Met l yX12_binds (wsG yX12_binds cX12_binds 1 (some .int)) ({ frames := 0, cells := 0, slots := 0, locals := 0 }) (va_Pc [.int 21] (g5_P G [] sz)) (va_Qi (fun (r : Int32) (u : va_W) => ((r = 5) ∧ (u = []))) (g5_B G (va_A [] sz)) (va_A [] sz)) 0 0 (va_A [] sz) := by
  refine Met.ofW (cc := cX12_binds) (maxL := 1) (ret := (some .int)) (by decide) rfl ?_
  intro p e s m args below meth c s₁ B hml hv
  obtain ⟨rfl, hsz, hP, hK, hD0, hN, hT⟩ := hv
  have hx := B.exec
  have hb := B.bytes
  have hr := B.returns
  have hts : ∀ w ∈ tblG, w.before _ s = true := fun w h => atoms_spec (ws := (wsG yX12_binds cX12_binds 1 (some .int))) B.pre w (List.mem_cons_of_mem _ h)
  have hown : s.vm.findClass RX12 = some m.cls := findClass_of_methodNamed B.named
  have hlocks := B.notSynchronized
  subst hsz
  have hD := hD0.self (sz := s.heap.size)
  generalize hAe : va_A [] s.heap.size = A at hD hT ⊢
  have hA : ∀ q : Nat, s.heap.size ≤ q → A q := fun q h => by rw [← hAe]; exact Or.inr h
  have hS : va_S A s.heap s.heap [] := va_S.rf
  have hP : va_P G.1 vwCl [] s.heap := hP
  have hl := lv_entry ([.int 21]) (n := 1) (Nat.le_of_ble_eq_true rfl)
  rw [lg_entry_eq]
  generalize (lg_sl ([.int 21]) ++ List.replicate (1 - (lg_sl ([.int 21])).length) Slot.unset).toArray = ls at hl ⊢
  have hl : lv_has ls 1 [(0, .int 21)] := hl
  refine lv_iload_n hx hb dX12_binds_0 rfl (lv_at hl 0 rfl) ?_
  refine lv_bipush (v := 30) hx hb dX12_binds_1 (by decide) ?_
  refine lv_icmp_lt (tgt := 10) hx hb dX12_binds_3 (by decide) (fun c_1 => ?_) (fun c_1 => ?_)
  ·
    refine lv_iload_n hx hb dX12_binds_10 rfl (lv_at hl 0 rfl) ?_
    refine lv_bipush (v := 29) hx hb dX12_binds_11 (by decide) ?_
    refine lv_icmp_ne (tgt := 20) hx hb dX12_binds_13 (by decide) (fun c_2 => ?_) (fun c_2 => ?_)
    ·
      refine lv_iload_n hx hb dX12_binds_20 rfl (lv_at hl 0 rfl) ?_
      refine lv_bipush (v := 28) hx hb dX12_binds_21 (by decide) ?_
      refine lv_icmp_ne (tgt := 30) hx hb dX12_binds_23 (by decide) (fun c_3 => ?_) (fun c_3 => ?_)
      ·
        refine lv_iload_n hx hb dX12_binds_30 rfl (lv_at hl 0 rfl) ?_
        refine lv_bipush (v := 27) hx hb dX12_binds_31 (by decide) ?_
        refine lv_icmp_ne (tgt := 40) hx hb dX12_binds_33 (by decide) (fun c_4 => ?_) (fun c_4 => ?_)
        ·
          refine lv_iload_n hx hb dX12_binds_40 rfl (lv_at hl 0 rfl) ?_
          refine lv_bipush (v := 24) hx hb dX12_binds_41 (by decide) ?_
          refine lv_icmp_lt (tgt := 50) hx hb dX12_binds_43 (by decide) (fun c_5 => ?_) (fun c_5 => ?_)
          ·
            refine lv_iload_n hx hb dX12_binds_50 rfl (lv_at hl 0 rfl) ?_
            refine lv_bipush (v := 22) hx hb dX12_binds_51 (by decide) ?_
            refine lv_icmp_lt (tgt := 61) hx hb dX12_binds_53 (by decide) (fun c_6 => ?_) (fun c_6 => ?_)
            ·
              refine lv_iconst (v := 5) hx hb dX12_binds_61 (by decide) ?_
              exact W.iret (v := 5) hx hb hr (fun t ht hW => ⟨⟨5, [], rfl, ⟨rfl, rfl⟩, by rw [ht]; exact hP.sub [] rfl, hD.sub [] (by decide) rfl⟩, hS.F ht⟩) hS.2.2 dX12_binds_62
            ·
              exact absurd c_6 (by decide)
          ·
            exact absurd c_5 (by decide)
        ·
          exact absurd c_4 (by decide)
      ·
        exact absurd c_3 (by decide)
    ·
      exact absurd c_2 (by decide)
  ·
    exact absurd c_1 (by decide)
set_option maxHeartbeats 4000000 in
set_option maxRecDepth 100000 in
theorem n_binds22 (l : Launch) (G : g5_G) (sz : Nat) : Met l yX12_binds (wsG yX12_binds cX12_binds 1 (some .int)) ({ frames := 0, cells := 0, slots := 0, locals := 0 }) (va_Pc [.int 22] (g5_P G [] sz)) (va_Qi (fun (r : Int32) (u : va_W) => ((r = 6) ∧ (u = []))) (g5_B G (va_A [] sz)) (va_A [] sz)) 0 0 (va_A [] sz) := by
  refine Met.ofW (cc := cX12_binds) (maxL := 1) (ret := (some .int)) (by decide) rfl ?_
  intro p e s m args below meth c s₁ B hml hv
  obtain ⟨rfl, hsz, hP, hK, hD0, hN, hT⟩ := hv
  have hx := B.exec
  have hb := B.bytes
  have hr := B.returns
  have hts : ∀ w ∈ tblG, w.before _ s = true := fun w h => atoms_spec (ws := (wsG yX12_binds cX12_binds 1 (some .int))) B.pre w (List.mem_cons_of_mem _ h)
  have hown : s.vm.findClass RX12 = some m.cls := findClass_of_methodNamed B.named
  have hlocks := B.notSynchronized
  subst hsz
  have hD := hD0.self (sz := s.heap.size)
  generalize hAe : va_A [] s.heap.size = A at hD hT ⊢
  have hA : ∀ q : Nat, s.heap.size ≤ q → A q := fun q h => by rw [← hAe]; exact Or.inr h
  have hS : va_S A s.heap s.heap [] := va_S.rf
  have hP : va_P G.1 vwCl [] s.heap := hP
  have hl := lv_entry ([.int 22]) (n := 1) (Nat.le_of_ble_eq_true rfl)
  rw [lg_entry_eq]
  generalize (lg_sl ([.int 22]) ++ List.replicate (1 - (lg_sl ([.int 22])).length) Slot.unset).toArray = ls at hl ⊢
  have hl : lv_has ls 1 [(0, .int 22)] := hl
  refine lv_iload_n hx hb dX12_binds_0 rfl (lv_at hl 0 rfl) ?_
  refine lv_bipush (v := 30) hx hb dX12_binds_1 (by decide) ?_
  refine lv_icmp_lt (tgt := 10) hx hb dX12_binds_3 (by decide) (fun c_1 => ?_) (fun c_1 => ?_)
  ·
    refine lv_iload_n hx hb dX12_binds_10 rfl (lv_at hl 0 rfl) ?_
    refine lv_bipush (v := 29) hx hb dX12_binds_11 (by decide) ?_
    refine lv_icmp_ne (tgt := 20) hx hb dX12_binds_13 (by decide) (fun c_2 => ?_) (fun c_2 => ?_)
    ·
      refine lv_iload_n hx hb dX12_binds_20 rfl (lv_at hl 0 rfl) ?_
      refine lv_bipush (v := 28) hx hb dX12_binds_21 (by decide) ?_
      refine lv_icmp_ne (tgt := 30) hx hb dX12_binds_23 (by decide) (fun c_3 => ?_) (fun c_3 => ?_)
      ·
        refine lv_iload_n hx hb dX12_binds_30 rfl (lv_at hl 0 rfl) ?_
        refine lv_bipush (v := 27) hx hb dX12_binds_31 (by decide) ?_
        refine lv_icmp_ne (tgt := 40) hx hb dX12_binds_33 (by decide) (fun c_4 => ?_) (fun c_4 => ?_)
        ·
          refine lv_iload_n hx hb dX12_binds_40 rfl (lv_at hl 0 rfl) ?_
          refine lv_bipush (v := 24) hx hb dX12_binds_41 (by decide) ?_
          refine lv_icmp_lt (tgt := 50) hx hb dX12_binds_43 (by decide) (fun c_5 => ?_) (fun c_5 => ?_)
          ·
            refine lv_iload_n hx hb dX12_binds_50 rfl (lv_at hl 0 rfl) ?_
            refine lv_bipush (v := 22) hx hb dX12_binds_51 (by decide) ?_
            refine lv_icmp_lt (tgt := 61) hx hb dX12_binds_53 (by decide) (fun c_6 => ?_) (fun c_6 => ?_)
            ·
              exact absurd c_6 (by decide)
            ·
              refine lv_bipush (v := 6) hx hb dX12_binds_56 (by decide) ?_
              refine lv_goto (tgt := 62) hx hb dX12_binds_58 (by decide) ?_
              exact W.iret (v := 6) hx hb hr (fun t ht hW => ⟨⟨6, [], rfl, ⟨rfl, rfl⟩, by rw [ht]; exact hP.sub [] rfl, hD.sub [] (by decide) rfl⟩, hS.F ht⟩) hS.2.2 dX12_binds_62
          ·
            exact absurd c_5 (by decide)
        ·
          exact absurd c_4 (by decide)
      ·
        exact absurd c_3 (by decide)
    ·
      exact absurd c_2 (by decide)
  ·
    exact absurd c_1 (by decide)
set_option maxHeartbeats 4000000 in
set_option maxRecDepth 100000 in
theorem n_binds23 (l : Launch) (G : g5_G) (sz : Nat) : Met l yX12_binds (wsG yX12_binds cX12_binds 1 (some .int)) ({ frames := 0, cells := 0, slots := 0, locals := 0 }) (va_Pc [.int 23] (g5_P G [] sz)) (va_Qi (fun (r : Int32) (u : va_W) => ((r = 6) ∧ (u = []))) (g5_B G (va_A [] sz)) (va_A [] sz)) 0 0 (va_A [] sz) := by
  refine Met.ofW (cc := cX12_binds) (maxL := 1) (ret := (some .int)) (by decide) rfl ?_
  intro p e s m args below meth c s₁ B hml hv
  obtain ⟨rfl, hsz, hP, hK, hD0, hN, hT⟩ := hv
  have hx := B.exec
  have hb := B.bytes
  have hr := B.returns
  have hts : ∀ w ∈ tblG, w.before _ s = true := fun w h => atoms_spec (ws := (wsG yX12_binds cX12_binds 1 (some .int))) B.pre w (List.mem_cons_of_mem _ h)
  have hown : s.vm.findClass RX12 = some m.cls := findClass_of_methodNamed B.named
  have hlocks := B.notSynchronized
  subst hsz
  have hD := hD0.self (sz := s.heap.size)
  generalize hAe : va_A [] s.heap.size = A at hD hT ⊢
  have hA : ∀ q : Nat, s.heap.size ≤ q → A q := fun q h => by rw [← hAe]; exact Or.inr h
  have hS : va_S A s.heap s.heap [] := va_S.rf
  have hP : va_P G.1 vwCl [] s.heap := hP
  have hl := lv_entry ([.int 23]) (n := 1) (Nat.le_of_ble_eq_true rfl)
  rw [lg_entry_eq]
  generalize (lg_sl ([.int 23]) ++ List.replicate (1 - (lg_sl ([.int 23])).length) Slot.unset).toArray = ls at hl ⊢
  have hl : lv_has ls 1 [(0, .int 23)] := hl
  refine lv_iload_n hx hb dX12_binds_0 rfl (lv_at hl 0 rfl) ?_
  refine lv_bipush (v := 30) hx hb dX12_binds_1 (by decide) ?_
  refine lv_icmp_lt (tgt := 10) hx hb dX12_binds_3 (by decide) (fun c_1 => ?_) (fun c_1 => ?_)
  ·
    refine lv_iload_n hx hb dX12_binds_10 rfl (lv_at hl 0 rfl) ?_
    refine lv_bipush (v := 29) hx hb dX12_binds_11 (by decide) ?_
    refine lv_icmp_ne (tgt := 20) hx hb dX12_binds_13 (by decide) (fun c_2 => ?_) (fun c_2 => ?_)
    ·
      refine lv_iload_n hx hb dX12_binds_20 rfl (lv_at hl 0 rfl) ?_
      refine lv_bipush (v := 28) hx hb dX12_binds_21 (by decide) ?_
      refine lv_icmp_ne (tgt := 30) hx hb dX12_binds_23 (by decide) (fun c_3 => ?_) (fun c_3 => ?_)
      ·
        refine lv_iload_n hx hb dX12_binds_30 rfl (lv_at hl 0 rfl) ?_
        refine lv_bipush (v := 27) hx hb dX12_binds_31 (by decide) ?_
        refine lv_icmp_ne (tgt := 40) hx hb dX12_binds_33 (by decide) (fun c_4 => ?_) (fun c_4 => ?_)
        ·
          refine lv_iload_n hx hb dX12_binds_40 rfl (lv_at hl 0 rfl) ?_
          refine lv_bipush (v := 24) hx hb dX12_binds_41 (by decide) ?_
          refine lv_icmp_lt (tgt := 50) hx hb dX12_binds_43 (by decide) (fun c_5 => ?_) (fun c_5 => ?_)
          ·
            refine lv_iload_n hx hb dX12_binds_50 rfl (lv_at hl 0 rfl) ?_
            refine lv_bipush (v := 22) hx hb dX12_binds_51 (by decide) ?_
            refine lv_icmp_lt (tgt := 61) hx hb dX12_binds_53 (by decide) (fun c_6 => ?_) (fun c_6 => ?_)
            ·
              exact absurd c_6 (by decide)
            ·
              refine lv_bipush (v := 6) hx hb dX12_binds_56 (by decide) ?_
              refine lv_goto (tgt := 62) hx hb dX12_binds_58 (by decide) ?_
              exact W.iret (v := 6) hx hb hr (fun t ht hW => ⟨⟨6, [], rfl, ⟨rfl, rfl⟩, by rw [ht]; exact hP.sub [] rfl, hD.sub [] (by decide) rfl⟩, hS.F ht⟩) hS.2.2 dX12_binds_62
          ·
            exact absurd c_5 (by decide)
        ·
          exact absurd c_4 (by decide)
      ·
        exact absurd c_3 (by decide)
    ·
      exact absurd c_2 (by decide)
  ·
    exact absurd c_1 (by decide)
theorem dgX12_settle_0 : ∀ r ∈ ([(0, (.aload_n 0, 1)), (1, (.getfield 240, 3)), (4, (.ifCond .le 97, 3)), (7, (.aload_n 0, 1)), (8, (.getfield 39, 3)), (11, (.aload_n 0, 1)), (12, (.getfield 240, 3)), (15, (.iconst 1, 1)), (16, (.isub, 1)), (17, (.iaload, 1)), (18, (.invokestatic 243, 3)), (21, (.iload_n 1, 1)), (22, (.if_icmp .lt 79, 3)), (25, (.aload_n 0, 1)), (26, (.dup, 1)), (27, (.getfield 240, 3)), (30, (.iconst 1, 1)), (31, (.isub, 1)), (32, (.putfield 240, 3)), (35, (.aload_n 0, 1)), (36, (.getfield 39, 3)), (39, (.aload_n 0, 1)), (40, (.getfield 240, 3)), (43, (.iaload, 1)), (44, (.bipush 28, 2)), (46, (.if_icmp .eq 17, 3)), (49, (.aload_n 0, 1)), (50, (.getfield 39, 3)), (53, (.aload_n 0, 1)), (54, (.getfield 240, 3)), (57, (.iaload, 1)), (58, (.bipush 29, 2)), (60, (.if_icmp .ne 24, 3)), (63, (.aload_n 0, 1)), (64, (.getfield 36, 3)), (67, (.aload_n 0, 1)), (68, (.getfield 42, 3)), (71, (.aload_n 0, 1)), (72, (.getfield 240, 3)), (75, (.iaload, 1))] : List (Nat × (Instr × Nat))), decode cX12_settle r.1 = .ok r.2 := by decide +kernel
theorem dX12_settle_0 : decode cX12_settle 0 = .ok (.aload_n 0, 1) := dgX12_settle_0 (0, (.aload_n 0, 1)) (List.mem_of_getElem? (i := 0) rfl)
theorem dX12_settle_1 : decode cX12_settle 1 = .ok (.getfield 240, 3) := dgX12_settle_0 (1, (.getfield 240, 3)) (List.mem_of_getElem? (i := 1) rfl)
theorem dX12_settle_4 : decode cX12_settle 4 = .ok (.ifCond .le 97, 3) := dgX12_settle_0 (4, (.ifCond .le 97, 3)) (List.mem_of_getElem? (i := 2) rfl)
theorem dX12_settle_7 : decode cX12_settle 7 = .ok (.aload_n 0, 1) := dgX12_settle_0 (7, (.aload_n 0, 1)) (List.mem_of_getElem? (i := 3) rfl)
theorem dX12_settle_8 : decode cX12_settle 8 = .ok (.getfield 39, 3) := dgX12_settle_0 (8, (.getfield 39, 3)) (List.mem_of_getElem? (i := 4) rfl)
theorem dX12_settle_11 : decode cX12_settle 11 = .ok (.aload_n 0, 1) := dgX12_settle_0 (11, (.aload_n 0, 1)) (List.mem_of_getElem? (i := 5) rfl)
theorem dX12_settle_12 : decode cX12_settle 12 = .ok (.getfield 240, 3) := dgX12_settle_0 (12, (.getfield 240, 3)) (List.mem_of_getElem? (i := 6) rfl)
theorem dX12_settle_15 : decode cX12_settle 15 = .ok (.iconst 1, 1) := dgX12_settle_0 (15, (.iconst 1, 1)) (List.mem_of_getElem? (i := 7) rfl)
theorem dX12_settle_16 : decode cX12_settle 16 = .ok (.isub, 1) := dgX12_settle_0 (16, (.isub, 1)) (List.mem_of_getElem? (i := 8) rfl)
theorem dX12_settle_17 : decode cX12_settle 17 = .ok (.iaload, 1) := dgX12_settle_0 (17, (.iaload, 1)) (List.mem_of_getElem? (i := 9) rfl)
theorem dX12_settle_18 : decode cX12_settle 18 = .ok (.invokestatic 243, 3) := dgX12_settle_0 (18, (.invokestatic 243, 3)) (List.mem_of_getElem? (i := 10) rfl)
theorem dX12_settle_21 : decode cX12_settle 21 = .ok (.iload_n 1, 1) := dgX12_settle_0 (21, (.iload_n 1, 1)) (List.mem_of_getElem? (i := 11) rfl)
theorem dX12_settle_22 : decode cX12_settle 22 = .ok (.if_icmp .lt 79, 3) := dgX12_settle_0 (22, (.if_icmp .lt 79, 3)) (List.mem_of_getElem? (i := 12) rfl)
theorem dX12_settle_25 : decode cX12_settle 25 = .ok (.aload_n 0, 1) := dgX12_settle_0 (25, (.aload_n 0, 1)) (List.mem_of_getElem? (i := 13) rfl)
theorem dX12_settle_26 : decode cX12_settle 26 = .ok (.dup, 1) := dgX12_settle_0 (26, (.dup, 1)) (List.mem_of_getElem? (i := 14) rfl)
theorem dX12_settle_27 : decode cX12_settle 27 = .ok (.getfield 240, 3) := dgX12_settle_0 (27, (.getfield 240, 3)) (List.mem_of_getElem? (i := 15) rfl)
theorem dX12_settle_30 : decode cX12_settle 30 = .ok (.iconst 1, 1) := dgX12_settle_0 (30, (.iconst 1, 1)) (List.mem_of_getElem? (i := 16) rfl)
theorem dX12_settle_31 : decode cX12_settle 31 = .ok (.isub, 1) := dgX12_settle_0 (31, (.isub, 1)) (List.mem_of_getElem? (i := 17) rfl)
theorem dX12_settle_32 : decode cX12_settle 32 = .ok (.putfield 240, 3) := dgX12_settle_0 (32, (.putfield 240, 3)) (List.mem_of_getElem? (i := 18) rfl)
theorem dX12_settle_35 : decode cX12_settle 35 = .ok (.aload_n 0, 1) := dgX12_settle_0 (35, (.aload_n 0, 1)) (List.mem_of_getElem? (i := 19) rfl)
theorem dX12_settle_36 : decode cX12_settle 36 = .ok (.getfield 39, 3) := dgX12_settle_0 (36, (.getfield 39, 3)) (List.mem_of_getElem? (i := 20) rfl)
theorem dX12_settle_39 : decode cX12_settle 39 = .ok (.aload_n 0, 1) := dgX12_settle_0 (39, (.aload_n 0, 1)) (List.mem_of_getElem? (i := 21) rfl)
theorem dX12_settle_40 : decode cX12_settle 40 = .ok (.getfield 240, 3) := dgX12_settle_0 (40, (.getfield 240, 3)) (List.mem_of_getElem? (i := 22) rfl)
theorem dX12_settle_43 : decode cX12_settle 43 = .ok (.iaload, 1) := dgX12_settle_0 (43, (.iaload, 1)) (List.mem_of_getElem? (i := 23) rfl)
theorem dX12_settle_44 : decode cX12_settle 44 = .ok (.bipush 28, 2) := dgX12_settle_0 (44, (.bipush 28, 2)) (List.mem_of_getElem? (i := 24) rfl)
theorem dX12_settle_46 : decode cX12_settle 46 = .ok (.if_icmp .eq 17, 3) := dgX12_settle_0 (46, (.if_icmp .eq 17, 3)) (List.mem_of_getElem? (i := 25) rfl)
theorem dX12_settle_49 : decode cX12_settle 49 = .ok (.aload_n 0, 1) := dgX12_settle_0 (49, (.aload_n 0, 1)) (List.mem_of_getElem? (i := 26) rfl)
theorem dX12_settle_50 : decode cX12_settle 50 = .ok (.getfield 39, 3) := dgX12_settle_0 (50, (.getfield 39, 3)) (List.mem_of_getElem? (i := 27) rfl)
theorem dX12_settle_53 : decode cX12_settle 53 = .ok (.aload_n 0, 1) := dgX12_settle_0 (53, (.aload_n 0, 1)) (List.mem_of_getElem? (i := 28) rfl)
theorem dX12_settle_54 : decode cX12_settle 54 = .ok (.getfield 240, 3) := dgX12_settle_0 (54, (.getfield 240, 3)) (List.mem_of_getElem? (i := 29) rfl)
theorem dX12_settle_57 : decode cX12_settle 57 = .ok (.iaload, 1) := dgX12_settle_0 (57, (.iaload, 1)) (List.mem_of_getElem? (i := 30) rfl)
theorem dX12_settle_58 : decode cX12_settle 58 = .ok (.bipush 29, 2) := dgX12_settle_0 (58, (.bipush 29, 2)) (List.mem_of_getElem? (i := 31) rfl)
theorem dX12_settle_60 : decode cX12_settle 60 = .ok (.if_icmp .ne 24, 3) := dgX12_settle_0 (60, (.if_icmp .ne 24, 3)) (List.mem_of_getElem? (i := 32) rfl)
theorem dX12_settle_63 : decode cX12_settle 63 = .ok (.aload_n 0, 1) := dgX12_settle_0 (63, (.aload_n 0, 1)) (List.mem_of_getElem? (i := 33) rfl)
theorem dX12_settle_64 : decode cX12_settle 64 = .ok (.getfield 36, 3) := dgX12_settle_0 (64, (.getfield 36, 3)) (List.mem_of_getElem? (i := 34) rfl)
theorem dX12_settle_67 : decode cX12_settle 67 = .ok (.aload_n 0, 1) := dgX12_settle_0 (67, (.aload_n 0, 1)) (List.mem_of_getElem? (i := 35) rfl)
theorem dX12_settle_68 : decode cX12_settle 68 = .ok (.getfield 42, 3) := dgX12_settle_0 (68, (.getfield 42, 3)) (List.mem_of_getElem? (i := 36) rfl)
theorem dX12_settle_71 : decode cX12_settle 71 = .ok (.aload_n 0, 1) := dgX12_settle_0 (71, (.aload_n 0, 1)) (List.mem_of_getElem? (i := 37) rfl)
theorem dX12_settle_72 : decode cX12_settle 72 = .ok (.getfield 240, 3) := dgX12_settle_0 (72, (.getfield 240, 3)) (List.mem_of_getElem? (i := 38) rfl)
theorem dX12_settle_75 : decode cX12_settle 75 = .ok (.iaload, 1) := dgX12_settle_0 (75, (.iaload, 1)) (List.mem_of_getElem? (i := 39) rfl)
theorem dgX12_settle_1 : ∀ r ∈ ([(76, (.aload_n 0, 1)), (77, (.getfield 237, 3)), (80, (.iastore, 1)), (81, (.goto (-81), 3)), (84, (.aload_n 0, 1)), (85, (.aload_n 0, 1)), (86, (.getfield 39, 3)), (89, (.aload_n 0, 1)), (90, (.getfield 240, 3)), (93, (.iaload, 1)), (94, (.iconst 0, 1)), (95, (.invokevirtual 246, 3)), (98, (.goto (-98), 3)), (101, (.return_, 1))] : List (Nat × (Instr × Nat))), decode cX12_settle r.1 = .ok r.2 := by decide +kernel
theorem dX12_settle_76 : decode cX12_settle 76 = .ok (.aload_n 0, 1) := dgX12_settle_1 (76, (.aload_n 0, 1)) (List.mem_of_getElem? (i := 0) rfl)
theorem dX12_settle_77 : decode cX12_settle 77 = .ok (.getfield 237, 3) := dgX12_settle_1 (77, (.getfield 237, 3)) (List.mem_of_getElem? (i := 1) rfl)
theorem dX12_settle_80 : decode cX12_settle 80 = .ok (.iastore, 1) := dgX12_settle_1 (80, (.iastore, 1)) (List.mem_of_getElem? (i := 2) rfl)
theorem dX12_settle_81 : decode cX12_settle 81 = .ok (.goto (-81), 3) := dgX12_settle_1 (81, (.goto (-81), 3)) (List.mem_of_getElem? (i := 3) rfl)
theorem dX12_settle_84 : decode cX12_settle 84 = .ok (.aload_n 0, 1) := dgX12_settle_1 (84, (.aload_n 0, 1)) (List.mem_of_getElem? (i := 4) rfl)
theorem dX12_settle_85 : decode cX12_settle 85 = .ok (.aload_n 0, 1) := dgX12_settle_1 (85, (.aload_n 0, 1)) (List.mem_of_getElem? (i := 5) rfl)
theorem dX12_settle_86 : decode cX12_settle 86 = .ok (.getfield 39, 3) := dgX12_settle_1 (86, (.getfield 39, 3)) (List.mem_of_getElem? (i := 6) rfl)
theorem dX12_settle_89 : decode cX12_settle 89 = .ok (.aload_n 0, 1) := dgX12_settle_1 (89, (.aload_n 0, 1)) (List.mem_of_getElem? (i := 7) rfl)
theorem dX12_settle_90 : decode cX12_settle 90 = .ok (.getfield 240, 3) := dgX12_settle_1 (90, (.getfield 240, 3)) (List.mem_of_getElem? (i := 8) rfl)
theorem dX12_settle_93 : decode cX12_settle 93 = .ok (.iaload, 1) := dgX12_settle_1 (93, (.iaload, 1)) (List.mem_of_getElem? (i := 9) rfl)
theorem dX12_settle_94 : decode cX12_settle 94 = .ok (.iconst 0, 1) := dgX12_settle_1 (94, (.iconst 0, 1)) (List.mem_of_getElem? (i := 10) rfl)
theorem dX12_settle_95 : decode cX12_settle 95 = .ok (.invokevirtual 246, 3) := dgX12_settle_1 (95, (.invokevirtual 246, 3)) (List.mem_of_getElem? (i := 11) rfl)
theorem dX12_settle_98 : decode cX12_settle 98 = .ok (.goto (-98), 3) := dgX12_settle_1 (98, (.goto (-98), 3)) (List.mem_of_getElem? (i := 12) rfl)
theorem dX12_settle_101 : decode cX12_settle 101 = .ok (.return_, 1) := dgX12_settle_1 (101, (.return_, 1)) (List.mem_of_getElem? (i := 13) rfl)
theorem ml_X12_243 : Cond.methodLink RX12 243 yX12_binds ∈ tblG := tg 1571 (by decide +kernel) (by decide +kernel)
theorem st_X12_binds : Cond.static yX12_binds ∈ tblG := tg 1572 (by decide +kernel) (by decide +kernel)
theorem cd_X12_binds : Cond.code yX12_binds cX12_binds 1 (some .int) ∈ tblG := tg 1573 (by decide +kernel) (by decide +kernel)
theorem gW_X12_binds : GoodIn tblG (wsG yX12_binds cX12_binds 1 (some .int)) := tgi cd_X12_binds
theorem gS_X12_243 : GoodIn tblG (va_wsS RX12 243 yX12_binds (wsG yX12_binds cX12_binds 1 (some .int))) := tgS ml_X12_243 st_X12_binds ini_X12 gW_X12_binds
theorem hs_X12_binds : yX12_binds.cls ≠ "java/lang/invoke/MethodHandle" ∧ yX12_binds.cls ≠ "java/lang/invoke/VarHandle" ∧ (parseMethodDescriptor yX12_binds.desc).map (fun d => d.parameters.length) = some 1 := by decide +kernel
theorem ml_X12_246 : Cond.methodLink RX12 246 yX12_emit ∈ tblG := tg 1563 (by decide +kernel) (by decide +kernel)
theorem im_X12_emit : Cond.instanceMethod yX12_emit ∈ tblG := tg 1565 (by decide +kernel) (by decide +kernel)
theorem se_X12_emit : Cond.selects RX12 yX12_emit yX12_emit ∈ tblG := tg 56 (by decide +kernel) (by decide +kernel)
theorem cd_X12_emit : Cond.code yX12_emit cX12_emit 3 none ∈ tblG := tg 1566 (by decide +kernel) (by decide +kernel)
theorem gW_X12_emit : GoodIn tblG (wsG yX12_emit cX12_emit 3 none) := tgi cd_X12_emit
theorem gV_X12_246 : GoodIn tblG (wsV RX12 246 RX12 yX12_emit (wsG yX12_emit cX12_emit 3 none)) := tgV ml_X12_246 im_X12_emit se_X12_emit ini_X12 gW_X12_emit
theorem hv_X12_emit : yX12_emit.cls = RX12 ∧ yX12_emit.cls ≠ "java/lang/invoke/MethodHandle" ∧ yX12_emit.cls ≠ "java/lang/invoke/VarHandle" ∧ (parseMethodDescriptor yX12_emit.desc).map (fun d => d.parameters.length) = some 2 := by decide +kernel
set_option maxHeartbeats 4000000 in
set_option maxRecDepth 100000 in
theorem n_settleB (l : Launch) (G : g5_G) (b_o b_op b_ar b_pi b_pa b_rf b_ro b_im b_ke b_tp b_nl b_ws b_hw b_se b_re b_pt b_ip b_ah b_be b_me b_tr b_ld b_wn : Nat) (sz : Nat) (u_th : Int32) (u_sa : Int32) (u_fd : Int32) (u_td : Int32) (u_fr : Int32) (u_to : Int32) (u_so : Int32) (u_fa : Int32) (u_bd : Int32) (u_nc : Int32) (u_co : Int32) (u_le : Int32) (u_pd : Int32) (u_od : Int32) (u_la : Int32) (u_bk : Int32) (u_ce : Int32) (u_ho : Int32) (u_wy : Int32) (u_bt : Int32) (u_ps : Int32) (u_tg : Int32) (u_sn : Int32) (u_ic : Int32) (u_wd : Int32) (u_id : Int32) (p_1 : Int32) (g_a : Int32) (g_f : Int32) (u_wo : Int64) (u_va : Int64) (u_su : Int64) (u_st : Int64) (v_op : Nat → Int32) (v_ar : Nat → Int32) (v_pi : Nat → Int32) (v_pa : Nat → Int32) (g_op : Nat → Int32) (g_ar : Nat → Int32) (h_u_td : 0 ≤ u_td.toInt ∧ u_td.toInt ≤ 400) (h_u_fr : 0 ≤ u_fr.toInt ∧ u_fr.toInt ≤ 400) (h_u_to : 0 ≤ u_to.toInt ∧ u_to.toInt ≤ 400) (h_u_bd : 0 ≤ u_bd.toInt ∧ u_bd.toInt ≤ 1) (h_u_nc : 0 ≤ u_nc.toInt ∧ u_nc.toInt ≤ 12) (h_u_co : 0 ≤ u_co.toInt ∧ u_co.toInt ≤ 400) (h_u_pd : 0 ≤ u_pd.toInt ∧ u_pd.toInt ≤ 400) (h_u_la : 0 ≤ u_la.toInt ∧ u_la.toInt ≤ 4840) (h_u_bk : 0 ≤ u_bk.toInt ∧ u_bk.toInt ≤ 1) (h_u_ce : 0 ≤ u_ce.toInt ∧ u_ce.toInt ≤ 63) (h_u_ho : 0 ≤ u_ho.toInt ∧ u_ho.toInt ≤ 23) (h_u_wy : 0 ≤ u_wy.toInt ∧ u_wy.toInt ≤ 3) (h_u_bt : 0 ≤ u_bt.toInt ∧ u_bt.toInt ≤ 1000000) (h_u_ps : 0 ≤ u_ps.toInt ∧ u_ps.toInt ≤ 200) (h_u_ic : 0 ≤ u_ic.toInt ∧ u_ic.toInt ≤ 1) (h_u_id : 0 ≤ u_id.toInt ∧ u_id.toInt ≤ 1) (h_p_1 : 1 ≤ p_1.toInt ∧ p_1.toInt ≤ 6) (e_f : g_f.toInt ≤ 400) (e_x : XJ g_op g_ar v_op v_ar v_pi v_pa g_a.toInt u_co.toInt u_pd.toInt g_f.toInt) : Met l yX12_settle (wsG yX12_settle cX12_settle 2 none) ({ frames := 1, cells := 0, slots := 0, locals := 22 }) (va_Pc [.ref b_o, .int p_1] (g5_P G [(b_o, (oc12 u_th u_sa b_rf b_ro b_im b_ke u_fd b_tp u_td u_fr u_to u_so u_wo u_fa u_bd u_nc b_nl u_co b_op b_ar u_le b_pi b_pa u_pd u_od b_ws b_hw u_la b_se b_re u_bk u_va u_su u_ce u_ho u_wy u_bt u_ps b_pt u_tg u_sn b_ip u_ic b_ah b_be b_me u_wd b_tr b_ld u_st b_wn u_id)), (b_op, (arI G 400 v_op)), (b_ar, (arI G 400 v_ar)), (b_pi, (arI G 400 v_pi)), (b_pa, (arI G 400 v_pa))] sz)) (va_Qv (fun (u : va_W) => (∃ (o_co : Int32) (o_pd : Int32) (o_op : Nat → Int32) (o_ar : Nat → Int32), (0 ≤ o_co.toInt ∧ o_co.toInt ≤ 400) ∧ (0 ≤ o_pd.toInt ∧ o_pd.toInt ≤ 400) ∧ (XJ g_op g_ar o_op o_ar v_pi v_pa g_a.toInt o_co.toInt o_pd.toInt g_f.toInt) ∧ (S1 v_pi u_pd.toInt o_pd.toInt) ∧ (S2 v_pi o_pd.toInt p_1.toInt) ∧ (o_pd.toInt ≤ u_pd.toInt) ∧ (u = [(b_o, (oc12 u_th u_sa b_rf b_ro b_im b_ke u_fd b_tp u_td u_fr u_to u_so u_wo u_fa u_bd u_nc b_nl o_co b_op b_ar u_le b_pi b_pa o_pd u_od b_ws b_hw u_la b_se b_re u_bk u_va u_su u_ce u_ho u_wy u_bt u_ps b_pt u_tg u_sn b_ip u_ic b_ah b_be b_me u_wd b_tr b_ld u_st b_wn u_id)), (b_op, (arI G 400 o_op)), (b_ar, (arI G 400 o_ar)), (b_pi, (arI G 400 v_pi)), (b_pa, (arI G 400 v_pa))]))) (g5_B G (va_A [(b_o, (oc12 u_th u_sa b_rf b_ro b_im b_ke u_fd b_tp u_td u_fr u_to u_so u_wo u_fa u_bd u_nc b_nl u_co b_op b_ar u_le b_pi b_pa u_pd u_od b_ws b_hw u_la b_se b_re u_bk u_va u_su u_ce u_ho u_wy u_bt u_ps b_pt u_tg u_sn b_ip u_ic b_ah b_be b_me u_wd b_tr b_ld u_st b_wn u_id)), (b_op, (arI G 400 v_op)), (b_ar, (arI G 400 v_ar)), (b_pi, (arI G 400 v_pi)), (b_pa, (arI G 400 v_pa))] sz)) (va_A [(b_o, (oc12 u_th u_sa b_rf b_ro b_im b_ke u_fd b_tp u_td u_fr u_to u_so u_wo u_fa u_bd u_nc b_nl u_co b_op b_ar u_le b_pi b_pa u_pd u_od b_ws b_hw u_la b_se b_re u_bk u_va u_su u_ce u_ho u_wy u_bt u_ps b_pt u_tg u_sn b_ip u_ic b_ah b_be b_me u_wd b_tr b_ld u_st b_wn u_id)), (b_op, (arI G 400 v_op)), (b_ar, (arI G 400 v_ar)), (b_pi, (arI G 400 v_pi)), (b_pa, (arI G 400 v_pa))] sz)) 0 0 (va_A [(b_o, (oc12 u_th u_sa b_rf b_ro b_im b_ke u_fd b_tp u_td u_fr u_to u_so u_wo u_fa u_bd u_nc b_nl u_co b_op b_ar u_le b_pi b_pa u_pd u_od b_ws b_hw u_la b_se b_re u_bk u_va u_su u_ce u_ho u_wy u_bt u_ps b_pt u_tg u_sn b_ip u_ic b_ah b_be b_me u_wd b_tr b_ld u_st b_wn u_id)), (b_op, (arI G 400 v_op)), (b_ar, (arI G 400 v_ar)), (b_pi, (arI G 400 v_pi)), (b_pa, (arI G 400 v_pa))] sz) := by
  refine Met.ofW (cc := cX12_settle) (maxL := 2) (ret := none) (by decide) rfl ?_
  intro p e s m args below meth c s₁ B hml hv
  obtain ⟨rfl, hsz, hP, hK, hD0, hN, hT⟩ := hv
  have hx := B.exec
  have hb := B.bytes
  have hr := B.returns
  have hts : ∀ w ∈ tblG, w.before _ s = true := fun w h => atoms_spec (ws := (wsG yX12_settle cX12_settle 2 none)) B.pre w (List.mem_cons_of_mem _ h)
  have hown : s.vm.findClass RX12 = some m.cls := findClass_of_methodNamed B.named
  have hlocks := B.notSynchronized
  subst hsz
  have hD := hD0.self (sz := s.heap.size)
  generalize hAe : va_A [(b_o, (oc12 u_th u_sa b_rf b_ro b_im b_ke u_fd b_tp u_td u_fr u_to u_so u_wo u_fa u_bd u_nc b_nl u_co b_op b_ar u_le b_pi b_pa u_pd u_od b_ws b_hw u_la b_se b_re u_bk u_va u_su u_ce u_ho u_wy u_bt u_ps b_pt u_tg u_sn b_ip u_ic b_ah b_be b_me u_wd b_tr b_ld u_st b_wn u_id)), (b_op, (arI G 400 v_op)), (b_ar, (arI G 400 v_ar)), (b_pi, (arI G 400 v_pi)), (b_pa, (arI G 400 v_pa))] s.heap.size = A at hD hT ⊢
  have hA : ∀ q : Nat, s.heap.size ≤ q → A q := fun q h => by rw [← hAe]; exact Or.inr h
  have hS : va_S A s.heap s.heap [] := va_S.rf
  have hP : va_P G.1 vwCl [(b_o, (oc12 u_th u_sa b_rf b_ro b_im b_ke u_fd b_tp u_td u_fr u_to u_so u_wo u_fa u_bd u_nc b_nl u_co b_op b_ar u_le b_pi b_pa u_pd u_od b_ws b_hw u_la b_se b_re u_bk u_va u_su u_ce u_ho u_wy u_bt u_ps b_pt u_tg u_sn b_ip u_ic b_ah b_be b_me u_wd b_tr b_ld u_st b_wn u_id)), (b_op, (arI G 400 v_op)), (b_ar, (arI G 400 v_ar)), (b_pi, (arI G 400 v_pi)), (b_pa, (arI G 400 v_pa))] s.heap := hP
  have hl := lv_entry ([.ref b_o, .int p_1]) (n := 2) (Nat.le_of_ble_eq_true rfl)
  rw [lg_entry_eq]
  generalize (lg_sl ([.ref b_o, .int p_1]) ++ List.replicate (2 - (lg_sl ([.ref b_o, .int p_1])).length) Slot.unset).toArray = ls at hl ⊢
  have hl : lv_has ls 2 [(0, .ref b_o), (1, .int p_1)] := hl
  refine g5_loop (α := (Int32) × (Int32) × (Nat → Int32) × (Nat → Int32)) (fun (q : (Int32) × (Int32) × (Nat → Int32) × (Nat → Int32)) (ls : Array Slot) (H : Heap) (locs : List Loc) => match q with | (k0_co, k0_pd, k0_op, k0_ar) => lv_has ls 2 [(0, .ref b_o), (1, .int p_1)] ∧ va_P G.1 vwCl [(b_o, (oc12 u_th u_sa b_rf b_ro b_im b_ke u_fd b_tp u_td u_fr u_to u_so u_wo u_fa u_bd u_nc b_nl k0_co b_op b_ar u_le b_pi b_pa k0_pd u_od b_ws b_hw u_la b_se b_re u_bk u_va u_su u_ce u_ho u_wy u_bt u_ps b_pt u_tg u_sn b_ip u_ic b_ah b_be b_me u_wd b_tr b_ld u_st b_wn u_id)), (b_op, (arI G 400 k0_op)), (b_ar, (arI G 400 k0_ar)), (b_pi, (arI G 400 v_pi)), (b_pa, (arI G 400 v_pa))] H ∧ va_D A [(b_o, (oc12 u_th u_sa b_rf b_ro b_im b_ke u_fd b_tp u_td u_fr u_to u_so u_wo u_fa u_bd u_nc b_nl k0_co b_op b_ar u_le b_pi b_pa k0_pd u_od b_ws b_hw u_la b_se b_re u_bk u_va u_su u_ce u_ho u_wy u_bt u_ps b_pt u_tg u_sn b_ip u_ic b_ah b_be b_me u_wd b_tr b_ld u_st b_wn u_id)), (b_op, (arI G 400 k0_op)), (b_ar, (arI G 400 k0_ar)), (b_pi, (arI G 400 v_pi)), (b_pa, (arI G 400 v_pa))] ∧ va_S A s.heap H locs ∧ (0 ≤ k0_co.toInt ∧ k0_co.toInt ≤ 400) ∧ (0 ≤ k0_pd.toInt ∧ k0_pd.toInt ≤ 400) ∧ (XJ g_op g_ar k0_op k0_ar v_pi v_pa g_a.toInt k0_co.toInt k0_pd.toInt g_f.toInt) ∧ (S1 v_pi u_pd.toInt k0_pd.toInt) ∧ (k0_pd.toInt ≤ u_pd.toInt)) (fun (q : (Int32) × (Int32) × (Nat → Int32) × (Nat → Int32)) => match q with | (k0_co, k0_pd, k0_op, k0_ar) => Int.toNat (k0_pd.toInt + 1)) (u_co, u_pd, v_op, v_ar) ⟨lv_sub hl [0, 1] rfl, hP, hD, hS, h_u_co, h_u_pd, e_x, s1_0, Int.le_refl _⟩ ?_
  rintro ⟨k0_co, k0_pd, k0_op, k0_ar⟩ ls H locs ⟨hl, hP, hD, hS, i_1, i_2, i_3, i_4, i_5⟩ ih_0_6
  have hl : lv_has ls 2 [(0, .ref b_o), (1, .int p_1)] := hl
  have i_1 : 0 ≤ k0_co.toInt ∧ k0_co.toInt ≤ 400 := i_1
  have i_2 : 0 ≤ k0_pd.toInt ∧ k0_pd.toInt ≤ 400 := i_2
  have i_3 : XJ g_op g_ar k0_op k0_ar v_pi v_pa g_a.toInt k0_co.toInt k0_pd.toInt g_f.toInt := i_3
  have i_4 : S1 v_pi u_pd.toInt k0_pd.toInt := i_4
  have i_5 : k0_pd.toInt ≤ u_pd.toInt := i_5
  refine g5_rs [(b_o, (oc12 u_th u_sa b_rf b_ro b_im b_ke u_fd b_tp u_td u_fr u_to u_so u_wo u_fa u_bd u_nc b_nl k0_co b_op b_ar u_le b_pi b_pa k0_pd u_od b_ws b_hw u_la b_se b_re u_bk u_va u_su u_ce u_ho u_wy u_bt u_ps b_pt u_tg u_sn b_ip u_ic b_ah b_be b_me u_wd b_tr b_ld u_st b_wn u_id)), (b_op, (arI G 400 k0_op)), (b_ar, (arI G 400 k0_ar)), (b_pi, (arI G 400 v_pi)), (b_pa, (arI G 400 v_pa))] hP hD (fun hP hD => ?_)
  refine lv_aload_n hx hb dX12_settle_0 rfl (lv_at hl 0 rfl) ?_
  refine va_get (D := G.1) (ci := 12) (v := .int k0_pd) (C := RX12) (T := TX12) (N := 52) hx hb hts inG_X12 hown hK hP 0 rfl rfl 23 (by decide) (hts _ fl_X12_240) (fun _ h9 => h9) rfl dX12_settle_1 ?_
  refine lv_if_le (tgt := 101) hx hb dX12_settle_4 (by decide) (fun c_7 => ?_) (fun c_7 => ?_)
  ·
    have i_7 : k0_pd.toInt ≤ 0 := by have z := g5_le (a := k0_pd.toInt) (b := 0) (by rfl) (by decide) c_7; omega
    exact W.vret hx hb hr (fun t ht hW => ⟨⟨[(b_o, (oc12 u_th u_sa b_rf b_ro b_im b_ke u_fd b_tp u_td u_fr u_to u_so u_wo u_fa u_bd u_nc b_nl k0_co b_op b_ar u_le b_pi b_pa k0_pd u_od b_ws b_hw u_la b_se b_re u_bk u_va u_su u_ce u_ho u_wy u_bt u_ps b_pt u_tg u_sn b_ip u_ic b_ah b_be b_me u_wd b_tr b_ld u_st b_wn u_id)), (b_op, (arI G 400 k0_op)), (b_ar, (arI G 400 k0_ar)), (b_pi, (arI G 400 v_pi)), (b_pa, (arI G 400 v_pa))], rfl, ⟨k0_co, k0_pd, k0_op, k0_ar, i_1, i_2, i_3, i_4, Or.inl (by omega), by omega, rfl⟩, by rw [ht]; exact hP.sub [0, 1, 2, 3, 4] rfl, hD.sub [0, 1, 2, 3, 4] (by decide) rfl⟩, hS.F ht⟩) hS.2.2 dX12_settle_101
  ·
    have i_7 : k0_pd.toInt > 0 := by have z := g5_leN (a := k0_pd.toInt) (b := 0) (by rfl) (by decide) c_7; omega
    refine lv_aload_n hx hb dX12_settle_7 rfl (lv_at hl 0 rfl) ?_
    refine va_get (D := G.1) (ci := 12) (v := .ref b_pi) (C := RX12) (T := TX12) (N := 52) hx hb hts inG_X12 hown hK hP 0 rfl rfl 21 (by decide) (hts _ fl_X12_39) (fun _ h9 => h9) rfl dX12_settle_8 ?_
    refine lv_aload_n hx hb dX12_settle_11 rfl (lv_at hl 0 rfl) ?_
    refine va_get (D := G.1) (ci := 12) (v := .int k0_pd) (C := RX12) (T := TX12) (N := 52) hx hb hts inG_X12 hown hK hP 0 rfl rfl 23 (by decide) (hts _ fl_X12_240) (fun _ h9 => h9) rfl dX12_settle_12 ?_
    refine lv_iconst (v := 1) hx hb dX12_settle_15 (by decide) ?_
    refine lv_isub hx hb dX12_settle_16 ?_
    have t_8 : (k0_pd - 1).toInt = k0_pd.toInt - 1 := g5_isub (a := k0_pd.toInt) (b := 1) (by rfl) (by decide) (by omega) (by omega)
    refine va_iald hx hb hK hP 3 0 rfl rfl (i := (k0_pd - 1)) (vp_in_iff.mpr ⟨by omega, by omega⟩) dX12_settle_17 ?_
    have hv9 : 20 ≤ (v_pi (k0_pd - 1).toNatClampNeg).toInt ∧ (v_pi (k0_pd - 1).toNatClampNeg).toInt ≤ 31 := xj_at i_3 (by omega) (by omega)
    obtain ⟨hPc, hDc, hFc⟩ := g5_sub3 (wc := []) hP hD hS hA [] (by decide) rfl
    refine va_calli (va_runS (As := [.int (v_pi (k0_pd - 1).toNatClampNeg)]) (rest := []) ⟨hx, hb, hml, hown, hts⟩ (n_binds l G H.size (v_pi (k0_pd - 1).toNatClampNeg) ⟨by omega, by omega⟩) (va_cwS 1 hts gS_X12_243 rfl rfl rfl hs_X12_binds ⟨Nat.le_of_ble_eq_true rfl, Nat.le_of_ble_eq_true rfl⟩) (g5_preS hPc hK hDc hN hT hS hFc) rfl rfl hl.1 rfl (lv_room (Nat.le_of_ble_eq_true rfl)) dX12_settle_18 ⟨Nat.le_of_ble_eq_true rfl, Nat.le_of_ble_eq_true rfl⟩) hS (fun q _ h => hFc q h) hFc (fun r u t H1 locs ht hvm hw hB hz1 hk1 hS => ?_)
    obtain ⟨hP1, hD1⟩ := hB
    rw [ht] at hP1
    obtain ⟨z11, i_9, i_10, y12, rfl⟩ := hw
    have i_9 : 0 ≤ z11.toInt ∧ z11.toInt ≤ 6 := i_9
    have i_10 : z11.toInt = bnd (v_pi (k0_pd - 1).toNatClampNeg).toInt := i_10
    have hP := g5_same hP hk1
    generalize H1 = H at hP hS ⊢
    refine g5_ti (v := z11) y12 ?_
    refine lv_iload_n hx hb dX12_settle_21 rfl (lv_at hl 1 rfl) ?_
    refine lv_icmp_lt (tgt := 101) hx hb dX12_settle_22 (by decide) (fun c_13 => ?_) (fun c_13 => ?_)
    ·
      have i_13 : z11.toInt < p_1.toInt := by have z := g5_lt (a := z11.toInt) (b := p_1.toInt) (by rfl) (by rfl) c_13; omega
      exact W.vret hx hb hr (fun t ht hW => ⟨⟨[(b_o, (oc12 u_th u_sa b_rf b_ro b_im b_ke u_fd b_tp u_td u_fr u_to u_so u_wo u_fa u_bd u_nc b_nl k0_co b_op b_ar u_le b_pi b_pa k0_pd u_od b_ws b_hw u_la b_se b_re u_bk u_va u_su u_ce u_ho u_wy u_bt u_ps b_pt u_tg u_sn b_ip u_ic b_ah b_be b_me u_wd b_tr b_ld u_st b_wn u_id)), (b_op, (arI G 400 k0_op)), (b_ar, (arI G 400 k0_ar)), (b_pi, (arI G 400 v_pi)), (b_pa, (arI G 400 v_pa))], rfl, ⟨k0_co, k0_pd, k0_op, k0_ar, i_1, i_2, i_3, i_4, s2_lt (p' := (k0_pd - 1)) (by omega) (by omega) (by omega), by omega, rfl⟩, by rw [ht]; exact hP.sub [0, 1, 2, 3, 4] rfl, hD.sub [0, 1, 2, 3, 4] (by decide) rfl⟩, hS.F ht⟩) hS.2.2 dX12_settle_101
    ·
      have i_13 : z11.toInt ≥ p_1.toInt := by have z := g5_ltN (a := z11.toInt) (b := p_1.toInt) (by rfl) (by rfl) c_13; omega
      have hw9 : (v_pi (k0_pd - 1).toNatClampNeg).toInt < 30 := bnd_ge1 (by omega)
      refine lv_aload_n hx hb dX12_settle_25 rfl (lv_at hl 0 rfl) ?_
      refine lv_dup hx hb dX12_settle_26 rfl ?_
      refine va_get (D := G.1) (ci := 12) (v := .int k0_pd) (C := RX12) (T := TX12) (N := 52) hx hb hts inG_X12 hown hK hP 0 rfl rfl 23 (by decide) (hts _ fl_X12_240) (fun _ h9 => h9) rfl dX12_settle_27 ?_
      refine lv_iconst (v := 1) hx hb dX12_settle_30 (by decide) ?_
      refine lv_isub hx hb dX12_settle_31 ?_
      have t_14 : (k0_pd - 1).toInt = k0_pd.toInt - 1 := g5_isub (a := k0_pd.toInt) (b := 1) (by rfl) (by decide) (by omega) (by omega)
      refine va_put (D := G.1) (ci := 12) (v := .int (k0_pd - 1)) (ty := .int) (C := RX12) (T := TX12) (N := 52) hx hb hts inG_X12 tyX12 tyX12_ok nmX12 hown hK hP hD hS 0 rfl rfl 23 (by decide) (hts _ fl_X12_240) (fun _ h9 => h9) rfl (by decide +kernel) rfl rfl (Nat.le_of_ble_eq_true rfl) dX12_settle_32 (fun H locs hP hD hS => ?_)
      refine g5_rs [(b_o, (oc12 u_th u_sa b_rf b_ro b_im b_ke u_fd b_tp u_td u_fr u_to u_so u_wo u_fa u_bd u_nc b_nl k0_co b_op b_ar u_le b_pi b_pa (k0_pd - 1) u_od b_ws b_hw u_la b_se b_re u_bk u_va u_su u_ce u_ho u_wy u_bt u_ps b_pt u_tg u_sn b_ip u_ic b_ah b_be b_me u_wd b_tr b_ld u_st b_wn u_id)), (b_op, (arI G 400 k0_op)), (b_ar, (arI G 400 k0_ar)), (b_pi, (arI G 400 v_pi)), (b_pa, (arI G 400 v_pa))] hP hD (fun hP hD => ?_)
      refine lv_aload_n hx hb dX12_settle_35 rfl (lv_at hl 0 rfl) ?_
      refine va_get (D := G.1) (ci := 12) (v := .ref b_pi) (C := RX12) (T := TX12) (N := 52) hx hb hts inG_X12 hown hK hP 0 rfl rfl 21 (by decide) (hts _ fl_X12_39) (fun _ h9 => h9) rfl dX12_settle_36 ?_
      refine lv_aload_n hx hb dX12_settle_39 rfl (lv_at hl 0 rfl) ?_
      refine va_get (D := G.1) (ci := 12) (v := .int (k0_pd - 1)) (C := RX12) (T := TX12) (N := 52) hx hb hts inG_X12 hown hK hP 0 rfl rfl 23 (by decide) (hts _ fl_X12_240) (fun _ h9 => h9) rfl dX12_settle_40 ?_
      refine va_iald hx hb hK hP 3 0 rfl rfl (i := (k0_pd - 1)) (vp_in_iff.mpr ⟨by omega, by omega⟩) dX12_settle_43 ?_
      refine lv_bipush (v := 28) hx hb dX12_settle_44 (by decide) ?_
      refine lv_icmp_eq (tgt := 63) hx hb dX12_settle_46 (by decide) (fun c_15 => ?_) (fun c_15 => ?_)
      ·
        have i_15 : (v_pi (k0_pd - 1).toNatClampNeg).toInt = 28 := by have z := g5_eq (a := (v_pi (k0_pd - 1).toNatClampNeg).toInt) (b := 28) (by rfl) (by decide) c_15; omega
        have hj9 : isJ (v_pi (k0_pd - 1).toNatClampNeg) := by unfold isJ; omega
        refine lv_aload_n hx hb dX12_settle_63 rfl (lv_at hl 0 rfl) ?_
        refine va_get (D := G.1) (ci := 12) (v := .ref b_ar) (C := RX12) (T := TX12) (N := 52) hx hb hts inG_X12 hown hK hP 0 rfl rfl 19 (by decide) (hts _ fl_X12_36) (fun _ h9 => h9) rfl dX12_settle_64 ?_
        refine lv_aload_n hx hb dX12_settle_67 rfl (lv_at hl 0 rfl) ?_
        refine va_get (D := G.1) (ci := 12) (v := .ref b_pa) (C := RX12) (T := TX12) (N := 52) hx hb hts inG_X12 hown hK hP 0 rfl rfl 22 (by decide) (hts _ fl_X12_42) (fun _ h9 => h9) rfl dX12_settle_68 ?_
        refine lv_aload_n hx hb dX12_settle_71 rfl (lv_at hl 0 rfl) ?_
        refine va_get (D := G.1) (ci := 12) (v := .int (k0_pd - 1)) (C := RX12) (T := TX12) (N := 52) hx hb hts inG_X12 hown hK hP 0 rfl rfl 23 (by decide) (hts _ fl_X12_240) (fun _ h9 => h9) rfl dX12_settle_72 ?_
        refine va_iald hx hb hK hP 4 0 rfl rfl (i := (k0_pd - 1)) (vp_in_iff.mpr ⟨by omega, by omega⟩) dX12_settle_75 ?_
        have hq9 : 0 ≤ (v_pa (k0_pd - 1).toNatClampNeg).toInt ∧ (v_pa (k0_pd - 1).toNatClampNeg).toInt ≤ 399 := xj_pa i_3 (by omega) (by omega) (by omega) hj9
        refine lv_aload_n hx hb dX12_settle_76 rfl (lv_at hl 0 rfl) ?_
        refine va_get (D := G.1) (ci := 12) (v := .int k0_co) (C := RX12) (T := TX12) (N := 52) hx hb hts inG_X12 hown hK hP 0 rfl rfl 17 (by decide) (hts _ fl_X12_237) (fun _ h9 => h9) rfl dX12_settle_77 ?_
        refine va_iast hx hb hK hP hD hS 2 0 rfl rfl (i := (v_pa (k0_pd - 1).toNatClampNeg)) (x := k0_co) (vp_in_iff.mpr ⟨by omega, by omega⟩) dX12_settle_80 (fun H locs hP hD hS => ?_)
        refine g5_rs [(b_o, (oc12 u_th u_sa b_rf b_ro b_im b_ke u_fd b_tp u_td u_fr u_to u_so u_wo u_fa u_bd u_nc b_nl k0_co b_op b_ar u_le b_pi b_pa (k0_pd - 1) u_od b_ws b_hw u_la b_se b_re u_bk u_va u_su u_ce u_ho u_wy u_bt u_ps b_pt u_tg u_sn b_ip u_ic b_ah b_be b_me u_wd b_tr b_ld u_st b_wn u_id)), (b_op, (arI G 400 k0_op)), (b_ar, (arI G 400 (upd k0_ar (v_pa (k0_pd - 1).toNatClampNeg).toNatClampNeg k0_co))), (b_pi, (arI G 400 v_pi)), (b_pa, (arI G 400 v_pa))] hP hD (fun hP hD => ?_)
        refine lv_goto (tgt := 0) hx hb dX12_settle_81 (by decide) ?_
        exact ih_0_6 (k0_co, (k0_pd - 1), k0_op, (upd k0_ar (v_pa (k0_pd - 1).toNatClampNeg).toNatClampNeg k0_co)) ls H locs (show Int.toNat ((k0_pd - 1).toInt + 1) < Int.toNat (k0_pd.toInt + 1) from g_dn (show (k0_pd - 1).toInt < k0_pd.toInt by omega) (show 0 ≤ k0_pd.toInt by omega)) ⟨lv_sub hl [0, 1] rfl, hP, hD, hS, i_1, ⟨by omega, by omega⟩, xj_popJ i_3 (by omega) (by omega) hj9, s1_S i_4 (by omega) (by omega) (by omega), by omega⟩
      ·
        have n_15 : gNe ((v_pi (k0_pd - 1).toNatClampNeg).toInt) (28) := by have z := g5_eqN (a := (v_pi (k0_pd - 1).toNatClampNeg).toInt) (b := 28) (by rfl) (by decide) c_15; unfold gNe; omega
        refine lv_aload_n hx hb dX12_settle_49 rfl (lv_at hl 0 rfl) ?_
        refine va_get (D := G.1) (ci := 12) (v := .ref b_pi) (C := RX12) (T := TX12) (N := 52) hx hb hts inG_X12 hown hK hP 0 rfl rfl 21 (by decide) (hts _ fl_X12_39) (fun _ h9 => h9) rfl dX12_settle_50 ?_
        refine lv_aload_n hx hb dX12_settle_53 rfl (lv_at hl 0 rfl) ?_
        refine va_get (D := G.1) (ci := 12) (v := .int (k0_pd - 1)) (C := RX12) (T := TX12) (N := 52) hx hb hts inG_X12 hown hK hP 0 rfl rfl 23 (by decide) (hts _ fl_X12_240) (fun _ h9 => h9) rfl dX12_settle_54 ?_
        refine va_iald hx hb hK hP 3 0 rfl rfl (i := (k0_pd - 1)) (vp_in_iff.mpr ⟨by omega, by omega⟩) dX12_settle_57 ?_
        refine lv_bipush (v := 29) hx hb dX12_settle_58 (by decide) ?_
        refine lv_icmp_ne (tgt := 84) hx hb dX12_settle_60 (by decide) (fun c_16 => ?_) (fun c_16 => ?_)
        ·
          have n_16 : gNe ((v_pi (k0_pd - 1).toNatClampNeg).toInt) (29) := by have z := g5_ne (a := (v_pi (k0_pd - 1).toNatClampNeg).toInt) (b := 29) (by rfl) (by decide) c_16; unfold gNe; omega
          have i_16 : (v_pi (k0_pd - 1).toNatClampNeg).toInt ≤ 28 := by have z := g5_ne (a := (v_pi (k0_pd - 1).toNatClampNeg).toInt) (b := 29) (by rfl) (by decide) c_16; omega
          have hx28 : (v_pi (k0_pd - 1).toNatClampNeg).toInt < 28 := by have q9 : ¬ (v_pi (k0_pd - 1).toNatClampNeg).toInt = 28 := n_15; omega
          have hc9 : k0_co.toInt < 400 := xj_room i_3 (by omega) (by omega) (by omega) hx28
          refine lv_aload_n hx hb dX12_settle_84 rfl (lv_at hl 0 rfl) ?_
          refine lv_aload_n hx hb dX12_settle_85 rfl (lv_at hl 0 rfl) ?_
          refine va_get (D := G.1) (ci := 12) (v := .ref b_pi) (C := RX12) (T := TX12) (N := 52) hx hb hts inG_X12 hown hK hP 0 rfl rfl 21 (by decide) (hts _ fl_X12_39) (fun _ h9 => h9) rfl dX12_settle_86 ?_
          refine lv_aload_n hx hb dX12_settle_89 rfl (lv_at hl 0 rfl) ?_
          refine va_get (D := G.1) (ci := 12) (v := .int (k0_pd - 1)) (C := RX12) (T := TX12) (N := 52) hx hb hts inG_X12 hown hK hP 0 rfl rfl 23 (by decide) (hts _ fl_X12_240) (fun _ h9 => h9) rfl dX12_settle_90 ?_
          refine va_iald hx hb hK hP 3 0 rfl rfl (i := (k0_pd - 1)) (vp_in_iff.mpr ⟨by omega, by omega⟩) dX12_settle_93 ?_
          refine lv_iconst (v := 0) hx hb dX12_settle_94 (by decide) ?_
          obtain ⟨hPc, hDc, hFc⟩ := g5_sub3 (wc := [(b_o, (oc12 u_th u_sa b_rf b_ro b_im b_ke u_fd b_tp u_td u_fr u_to u_so u_wo u_fa u_bd u_nc b_nl k0_co b_op b_ar u_le b_pi b_pa (k0_pd - 1) u_od b_ws b_hw u_la b_se b_re u_bk u_va u_su u_ce u_ho u_wy u_bt u_ps b_pt u_tg u_sn b_ip u_ic b_ah b_be b_me u_wd b_tr b_ld u_st b_wn u_id)), (b_op, (arI G 400 k0_op)), (b_ar, (arI G 400 k0_ar))]) hP hD hS hA [0, 1, 2] (by decide) rfl
          refine va_callv (va_runV (As := [.int (v_pi (k0_pd - 1).toNatClampNeg), .int 0]) (rest := []) ⟨hx, hb, hml, hown, hts⟩ (n_emit l G b_o b_op b_ar b_rf b_ro b_im b_ke b_tp b_nl b_pi b_pa b_ws b_hw b_se b_re b_pt b_ip b_ah b_be b_me b_tr b_ld b_wn H.size u_th u_sa u_fd u_td u_fr u_to u_so u_fa u_bd u_nc k0_co u_le (k0_pd - 1) u_od u_la u_bk u_ce u_ho u_wy u_bt u_ps u_tg u_sn u_ic u_wd u_id (v_pi (k0_pd - 1).toNatClampNeg) 0 u_wo u_va u_su u_st k0_op k0_ar h_u_td h_u_fr h_u_to h_u_bd h_u_nc i_1 ⟨by omega, by omega⟩ h_u_la h_u_bk h_u_ce h_u_ho h_u_wy h_u_bt h_u_ps h_u_ic h_u_id (by omega)) (cwV 2 hts gV_X12_246 rfl rfl rfl hv_X12_emit ⟨Nat.le_of_ble_eq_true rfl, Nat.le_of_ble_eq_true rfl⟩) (g5_preV hPc hK hDc hN hT hS hFc (ci := 12) (q0 := 0) rfl rfl) rfl rfl hl.1 rfl (lv_room (Nat.le_of_ble_eq_true rfl)) dX12_settle_95 ⟨Nat.le_of_ble_eq_true rfl, Nat.le_of_ble_eq_true rfl⟩) hS (fun q _ h => hFc q h) hFc (fun u t H1 locs ht hvm hw hB hz1 hk1 hS => ?_)
          obtain ⟨hP1, hD1⟩ := hB
          rw [ht] at hP1
          obtain ⟨z19, i_17, i_18, rfl⟩ := hw
          have i_17 : 0 ≤ z19.toInt ∧ z19.toInt ≤ 400 := i_17
          have i_18 : z19.toInt = k0_co.toInt + 1 := i_18
          obtain ⟨hP, hD⟩ := va_join (wr := [(b_pi, (arI G 400 v_pi)), (b_pa, (arI G 400 v_pa))]) hP hD [0, 1, 2] [3, 4] rfl rfl (by decide) (by decide) hk1 hFc hP1 hD1
          generalize H1 = H at hP hS ⊢
          refine g5_rs [(b_pi, (arI G 400 v_pi)), (b_pa, (arI G 400 v_pa)), (b_o, (oc12 u_th u_sa b_rf b_ro b_im b_ke u_fd b_tp u_td u_fr u_to u_so u_wo u_fa u_bd u_nc b_nl z19 b_op b_ar u_le b_pi b_pa (k0_pd - 1) u_od b_ws b_hw u_la b_se b_re u_bk u_va u_su u_ce u_ho u_wy u_bt u_ps b_pt u_tg u_sn b_ip u_ic b_ah b_be b_me u_wd b_tr b_ld u_st b_wn u_id)), (b_op, (arI G 400 (upd k0_op k0_co.toNatClampNeg (v_pi (k0_pd - 1).toNatClampNeg)))), (b_ar, (arI G 400 (upd k0_ar k0_co.toNatClampNeg 0)))] hP hD (fun hP hD => ?_)
          refine lv_goto (tgt := 0) hx hb dX12_settle_98 (by decide) ?_
          exact ih_0_6 (z19, (k0_pd - 1), (upd k0_op k0_co.toNatClampNeg (v_pi (k0_pd - 1).toNatClampNeg)), (upd k0_ar k0_co.toNatClampNeg 0)) ls H locs (show Int.toNat ((k0_pd - 1).toInt + 1) < Int.toNat (k0_pd.toInt + 1) from g_dn (show (k0_pd - 1).toInt < k0_pd.toInt by omega) (show 0 ≤ k0_pd.toInt by omega)) ⟨lv_sub hl [0, 1] rfl, hP.sub [2, 3, 4, 0, 1] rfl, hD.sub [2, 3, 4, 0, 1] (by decide) rfl, hS, i_17, ⟨by omega, by omega⟩, xj_popE i_3 (by omega) (by omega) (by omega) hx28, s1_S i_4 (by omega) (by omega) (by omega), by omega⟩
        ·
          have i_16 : (v_pi (k0_pd - 1).toNatClampNeg).toInt = 29 := by have z := g5_neN (a := (v_pi (k0_pd - 1).toNatClampNeg).toInt) (b := 29) (by rfl) (by decide) c_16; omega
          have hj9 : isJ (v_pi (k0_pd - 1).toNatClampNeg) := by unfold isJ; omega
          refine lv_aload_n hx hb dX12_settle_63 rfl (lv_at hl 0 rfl) ?_
          refine va_get (D := G.1) (ci := 12) (v := .ref b_ar) (C := RX12) (T := TX12) (N := 52) hx hb hts inG_X12 hown hK hP 0 rfl rfl 19 (by decide) (hts _ fl_X12_36) (fun _ h9 => h9) rfl dX12_settle_64 ?_
          refine lv_aload_n hx hb dX12_settle_67 rfl (lv_at hl 0 rfl) ?_
          refine va_get (D := G.1) (ci := 12) (v := .ref b_pa) (C := RX12) (T := TX12) (N := 52) hx hb hts inG_X12 hown hK hP 0 rfl rfl 22 (by decide) (hts _ fl_X12_42) (fun _ h9 => h9) rfl dX12_settle_68 ?_
          refine lv_aload_n hx hb dX12_settle_71 rfl (lv_at hl 0 rfl) ?_
          refine va_get (D := G.1) (ci := 12) (v := .int (k0_pd - 1)) (C := RX12) (T := TX12) (N := 52) hx hb hts inG_X12 hown hK hP 0 rfl rfl 23 (by decide) (hts _ fl_X12_240) (fun _ h9 => h9) rfl dX12_settle_72 ?_
          refine va_iald hx hb hK hP 4 0 rfl rfl (i := (k0_pd - 1)) (vp_in_iff.mpr ⟨by omega, by omega⟩) dX12_settle_75 ?_
          have hq9 : 0 ≤ (v_pa (k0_pd - 1).toNatClampNeg).toInt ∧ (v_pa (k0_pd - 1).toNatClampNeg).toInt ≤ 399 := xj_pa i_3 (by omega) (by omega) (by omega) hj9
          refine lv_aload_n hx hb dX12_settle_76 rfl (lv_at hl 0 rfl) ?_
          refine va_get (D := G.1) (ci := 12) (v := .int k0_co) (C := RX12) (T := TX12) (N := 52) hx hb hts inG_X12 hown hK hP 0 rfl rfl 17 (by decide) (hts _ fl_X12_237) (fun _ h9 => h9) rfl dX12_settle_77 ?_
          refine va_iast hx hb hK hP hD hS 2 0 rfl rfl (i := (v_pa (k0_pd - 1).toNatClampNeg)) (x := k0_co) (vp_in_iff.mpr ⟨by omega, by omega⟩) dX12_settle_80 (fun H locs hP hD hS => ?_)
          refine g5_rs [(b_o, (oc12 u_th u_sa b_rf b_ro b_im b_ke u_fd b_tp u_td u_fr u_to u_so u_wo u_fa u_bd u_nc b_nl k0_co b_op b_ar u_le b_pi b_pa (k0_pd - 1) u_od b_ws b_hw u_la b_se b_re u_bk u_va u_su u_ce u_ho u_wy u_bt u_ps b_pt u_tg u_sn b_ip u_ic b_ah b_be b_me u_wd b_tr b_ld u_st b_wn u_id)), (b_op, (arI G 400 k0_op)), (b_ar, (arI G 400 (upd k0_ar (v_pa (k0_pd - 1).toNatClampNeg).toNatClampNeg k0_co))), (b_pi, (arI G 400 v_pi)), (b_pa, (arI G 400 v_pa))] hP hD (fun hP hD => ?_)
          refine lv_goto (tgt := 0) hx hb dX12_settle_81 (by decide) ?_
          exact ih_0_6 (k0_co, (k0_pd - 1), k0_op, (upd k0_ar (v_pa (k0_pd - 1).toNatClampNeg).toNatClampNeg k0_co)) ls H locs (show Int.toNat ((k0_pd - 1).toInt + 1) < Int.toNat (k0_pd.toInt + 1) from g_dn (show (k0_pd - 1).toInt < k0_pd.toInt by omega) (show 0 ≤ k0_pd.toInt by omega)) ⟨lv_sub hl [0, 1] rfl, hP, hD, hS, i_1, ⟨by omega, by omega⟩, xj_popJ i_3 (by omega) (by omega) hj9, s1_S i_4 (by omega) (by omega) (by omega), by omega⟩
