set_option maxHeartbeats 4000000 in
set_option maxRecDepth 100000 in
theorem n_readPart (l : Launch) (G : g5_G) (b_o b_tp b_op b_ar b_pi b_pa b_ws b_rf b_ro b_im b_ke b_nl b_hw b_se b_re b_pt b_ip b_ah b_be b_me b_tr b_ld b_wn : Nat) (sz : Nat) (u_th : Int32) (u_sa : Int32) (u_fd : Int32) (u_td : Int32) (u_fr : Int32) (u_to : Int32) (u_so : Int32) (u_fa : Int32) (u_bd : Int32) (u_nc : Int32) (u_co : Int32) (u_le : Int32) (u_pd : Int32) (u_od : Int32) (u_la : Int32) (u_bk : Int32) (u_ce : Int32) (u_ho : Int32) (u_wy : Int32) (u_bt : Int32) (u_ps : Int32) (u_tg : Int32) (u_sn : Int32) (u_ic : Int32) (u_wd : Int32) (u_id : Int32) (g_a : Int32) (u_wo : Int64) (u_va : Int64) (u_su : Int64) (u_st : Int64) (v_tp : Nat → Int32) (v_op : Nat → Int32) (v_ar : Nat → Int32) (v_pi : Nat → Int32) (v_pa : Nat → Int32) (v_ws : Nat → Int64) (g_op : Nat → Int32) (g_ar : Nat → Int32) (h_u_td : 0 ≤ u_td.toInt ∧ u_td.toInt ≤ 400) (h_u_fr : 0 ≤ u_fr.toInt ∧ u_fr.toInt ≤ 400) (h_u_to : 0 ≤ u_to.toInt ∧ u_to.toInt ≤ 400) (h_u_bd : 0 ≤ u_bd.toInt ∧ u_bd.toInt ≤ 0) (h_u_nc : 0 ≤ u_nc.toInt ∧ u_nc.toInt ≤ 12) (h_u_co : 0 ≤ u_co.toInt ∧ u_co.toInt ≤ 400) (h_u_pd : 0 ≤ u_pd.toInt ∧ u_pd.toInt ≤ 400) (h_u_la : 0 ≤ u_la.toInt ∧ u_la.toInt ≤ 4840) (h_u_bk : 0 ≤ u_bk.toInt ∧ u_bk.toInt ≤ 1) (h_u_ce : 0 ≤ u_ce.toInt ∧ u_ce.toInt ≤ 63) (h_u_ho : 0 ≤ u_ho.toInt ∧ u_ho.toInt ≤ 23) (h_u_wy : 0 ≤ u_wy.toInt ∧ u_wy.toInt ≤ 3) (h_u_bt : 0 ≤ u_bt.toInt ∧ u_bt.toInt ≤ 1000000) (h_u_ps : 0 ≤ u_ps.toInt ∧ u_ps.toInt ≤ 200) (h_u_ic : 0 ≤ u_ic.toInt ∧ u_ic.toInt ≤ 1) (h_u_id : 0 ≤ u_id.toInt ∧ u_id.toInt ≤ 1) (e_t : u_fr.toInt ≤ u_to.toInt ∧ u_to.toInt ≤ u_td.toInt) (e_s : TKs u_so.toInt u_fr.toInt u_to.toInt) (e_x : XJ g_op g_ar v_op v_ar v_pi v_pa g_a.toInt u_co.toInt u_pd.toInt u_fr.toInt) (e_j : TJ v_op v_ar v_pi v_pa g_a.toInt u_co.toInt u_pd.toInt 1) : Met l yX12_readPart (wsG yX12_readPart cX12_readPart 3 (some .int)) ({ frames := 4, cells := 0, slots := 0, locals := 84 }) (va_Pc [.ref b_o] (g5_P G [(b_o, (oc12 u_th u_sa b_rf b_ro b_im b_ke u_fd b_tp u_td u_fr u_to u_so u_wo u_fa u_bd u_nc b_nl u_co b_op b_ar u_le b_pi b_pa u_pd u_od b_ws b_hw u_la b_se b_re u_bk u_va u_su u_ce u_ho u_wy u_bt u_ps b_pt u_tg u_sn b_ip u_ic b_ah b_be b_me u_wd b_tr b_ld u_st b_wn u_id)), (b_tp, (arI G 400 v_tp)), (b_op, (arI G 400 v_op)), (b_ar, (arI G 400 v_ar)), (b_pi, (arI G 400 v_pi)), (b_pa, (arI G 400 v_pa)), (b_ws, (arJ G 8 v_ws))] sz)) (va_Qi (fun (r : Int32) (u : va_W) => (∃ (o_r : Int32), (0 ≤ o_r.toInt ∧ o_r.toInt ≤ 4) ∧ (r = o_r) ∧ (u = [(b_o, (oc12 u_th u_sa b_rf b_ro b_im b_ke u_fd b_tp u_td u_fr u_to u_so u_wo u_fr 1 u_nc b_nl u_co b_op b_ar u_le b_pi b_pa u_pd u_od b_ws b_hw u_la b_se b_re u_bk u_va u_su u_ce u_ho u_wy u_bt u_ps b_pt u_tg u_sn b_ip u_ic b_ah b_be b_me u_wd b_tr b_ld u_st b_wn u_id)), (b_tp, (arI G 400 v_tp)), (b_op, (arI G 400 v_op)), (b_ar, (arI G 400 v_ar)), (b_pi, (arI G 400 v_pi)), (b_pa, (arI G 400 v_pa)), (b_ws, (arJ G 8 v_ws))])) ∨ (∃ (o_r : Int32) (o_fr : Int32) (o_to : Int32) (o_so : Int32) (o_wo : Int64) (o_co : Int32) (o_le : Int32) (o_pd : Int32) (o_od : Int32) (o_op : Nat → Int32) (o_ar : Nat → Int32) (o_pi : Nat → Int32) (o_pa : Nat → Int32), (0 ≤ o_fr.toInt ∧ o_fr.toInt ≤ 400) ∧ (0 ≤ o_to.toInt ∧ o_to.toInt ≤ 400) ∧ (0 ≤ o_co.toInt ∧ o_co.toInt ≤ 400) ∧ (0 ≤ o_pd.toInt ∧ o_pd.toInt ≤ 400) ∧ (0 ≤ o_r.toInt ∧ o_r.toInt ≤ 4) ∧ (u_fr.toInt ≤ o_fr.toInt ∧ o_fr.toInt ≤ o_to.toInt ∧ o_to.toInt ≤ u_td.toInt) ∧ (TKs o_so.toInt o_fr.toInt o_to.toInt) ∧ (XJ g_op g_ar o_op o_ar o_pi o_pa g_a.toInt o_co.toInt o_pd.toInt o_fr.toInt) ∧ (TJ o_op o_ar o_pi o_pa g_a.toInt o_co.toInt o_pd.toInt o_r.toInt) ∧ (twt o_r.toInt + 1 ≤ 0 + 3 * (o_fr.toInt - u_fr.toInt)) ∧ (r = o_r) ∧ (u = [(b_o, (oc12 u_th u_sa b_rf b_ro b_im b_ke u_fd b_tp u_td o_fr o_to o_so o_wo u_fa u_bd u_nc b_nl o_co b_op b_ar o_le b_pi b_pa o_pd o_od b_ws b_hw u_la b_se b_re u_bk u_va u_su u_ce u_ho u_wy u_bt u_ps b_pt u_tg u_sn b_ip u_ic b_ah b_be b_me u_wd b_tr b_ld u_st b_wn u_id)), (b_tp, (arI G 400 v_tp)), (b_op, (arI G 400 o_op)), (b_ar, (arI G 400 o_ar)), (b_pi, (arI G 400 o_pi)), (b_pa, (arI G 400 o_pa)), (b_ws, (arJ G 8 v_ws))]))) (g5_B G (va_A [(b_o, (oc12 u_th u_sa b_rf b_ro b_im b_ke u_fd b_tp u_td u_fr u_to u_so u_wo u_fa u_bd u_nc b_nl u_co b_op b_ar u_le b_pi b_pa u_pd u_od b_ws b_hw u_la b_se b_re u_bk u_va u_su u_ce u_ho u_wy u_bt u_ps b_pt u_tg u_sn b_ip u_ic b_ah b_be b_me u_wd b_tr b_ld u_st b_wn u_id)), (b_tp, (arI G 400 v_tp)), (b_op, (arI G 400 v_op)), (b_ar, (arI G 400 v_ar)), (b_pi, (arI G 400 v_pi)), (b_pa, (arI G 400 v_pa)), (b_ws, (arJ G 8 v_ws))] sz)) (va_A [(b_o, (oc12 u_th u_sa b_rf b_ro b_im b_ke u_fd b_tp u_td u_fr u_to u_so u_wo u_fa u_bd u_nc b_nl u_co b_op b_ar u_le b_pi b_pa u_pd u_od b_ws b_hw u_la b_se b_re u_bk u_va u_su u_ce u_ho u_wy u_bt u_ps b_pt u_tg u_sn b_ip u_ic b_ah b_be b_me u_wd b_tr b_ld u_st b_wn u_id)), (b_tp, (arI G 400 v_tp)), (b_op, (arI G 400 v_op)), (b_ar, (arI G 400 v_ar)), (b_pi, (arI G 400 v_pi)), (b_pa, (arI G 400 v_pa)), (b_ws, (arJ G 8 v_ws))] sz)) 0 0 (va_A [(b_o, (oc12 u_th u_sa b_rf b_ro b_im b_ke u_fd b_tp u_td u_fr u_to u_so u_wo u_fa u_bd u_nc b_nl u_co b_op b_ar u_le b_pi b_pa u_pd u_od b_ws b_hw u_la b_se b_re u_bk u_va u_su u_ce u_ho u_wy u_bt u_ps b_pt u_tg u_sn b_ip u_ic b_ah b_be b_me u_wd b_tr b_ld u_st b_wn u_id)), (b_tp, (arI G 400 v_tp)), (b_op, (arI G 400 v_op)), (b_ar, (arI G 400 v_ar)), (b_pi, (arI G 400 v_pi)), (b_pa, (arI G 400 v_pa)), (b_ws, (arJ G 8 v_ws))] sz) := by
  refine Met.ofW (cc := cX12_readPart) (maxL := 3) (ret := (some .int)) (by decide) rfl ?_
  intro p e s m args below meth c s₁ B hml hv
  obtain ⟨rfl, hsz, hP, hK, hD0, hN, hT⟩ := hv
  have hx := B.exec
  have hb := B.bytes
  have hr := B.returns
  have hts : ∀ w ∈ tblG, w.before _ s = true := fun w h => atoms_spec (ws := (wsG yX12_readPart cX12_readPart 3 (some .int))) B.pre w (List.mem_cons_of_mem _ h)
  have hown : s.vm.findClass RX12 = some m.cls := findClass_of_methodNamed B.named
  have hlocks := B.notSynchronized
  subst hsz
  have hD := hD0.self (sz := s.heap.size)
  generalize hAe : va_A [(b_o, (oc12 u_th u_sa b_rf b_ro b_im b_ke u_fd b_tp u_td u_fr u_to u_so u_wo u_fa u_bd u_nc b_nl u_co b_op b_ar u_le b_pi b_pa u_pd u_od b_ws b_hw u_la b_se b_re u_bk u_va u_su u_ce u_ho u_wy u_bt u_ps b_pt u_tg u_sn b_ip u_ic b_ah b_be b_me u_wd b_tr b_ld u_st b_wn u_id)), (b_tp, (arI G 400 v_tp)), (b_op, (arI G 400 v_op)), (b_ar, (arI G 400 v_ar)), (b_pi, (arI G 400 v_pi)), (b_pa, (arI G 400 v_pa)), (b_ws, (arJ G 8 v_ws))] s.heap.size = A at hD hT ⊢
  have hA : ∀ q : Nat, s.heap.size ≤ q → A q := fun q h => by rw [← hAe]; exact Or.inr h
  have hS : va_S A s.heap s.heap [] := va_S.rf
  have hP : va_P G.1 vwCl [(b_o, (oc12 u_th u_sa b_rf b_ro b_im b_ke u_fd b_tp u_td u_fr u_to u_so u_wo u_fa u_bd u_nc b_nl u_co b_op b_ar u_le b_pi b_pa u_pd u_od b_ws b_hw u_la b_se b_re u_bk u_va u_su u_ce u_ho u_wy u_bt u_ps b_pt u_tg u_sn b_ip u_ic b_ah b_be b_me u_wd b_tr b_ld u_st b_wn u_id)), (b_tp, (arI G 400 v_tp)), (b_op, (arI G 400 v_op)), (b_ar, (arI G 400 v_ar)), (b_pi, (arI G 400 v_pi)), (b_pa, (arI G 400 v_pa)), (b_ws, (arJ G 8 v_ws))] s.heap := hP
  have hl := lv_entry ([.ref b_o]) (n := 3) (Nat.le_of_ble_eq_true rfl)
  rw [lg_entry_eq]
  generalize (lg_sl ([.ref b_o]) ++ List.replicate (3 - (lg_sl ([.ref b_o])).length) Slot.unset).toArray = ls at hl ⊢
  have hl : lv_has ls 3 [(0, .ref b_o)] := hl
  have hmf9 := xj_mf e_x
  refine lv_aload_n hx hb dX12_readPart_0 rfl (lv_at hl 0 rfl) ?_
  refine lv_bipush (v := 91) hx hb dX12_readPart_1 (by decide) ?_
  obtain ⟨hPc, hDc, hFc⟩ := g5_sub3 (wc := [(b_o, (oc12 u_th u_sa b_rf b_ro b_im b_ke u_fd b_tp u_td u_fr u_to u_so u_wo u_fa u_bd u_nc b_nl u_co b_op b_ar u_le b_pi b_pa u_pd u_od b_ws b_hw u_la b_se b_re u_bk u_va u_su u_ce u_ho u_wy u_bt u_ps b_pt u_tg u_sn b_ip u_ic b_ah b_be b_me u_wd b_tr b_ld u_st b_wn u_id))]) hP hD hS hA [0] (by decide) rfl
  refine va_calli (va_runV (As := [.int 91]) (rest := []) ⟨hx, hb, hml, hown, hts⟩ (n_isSign l G b_o b_rf b_ro b_im b_ke b_tp b_nl b_op b_ar b_pi b_pa b_ws b_hw b_se b_re b_pt b_ip b_ah b_be b_me b_tr b_ld b_wn s.heap.size u_th u_sa u_fd u_td u_fr u_to u_so u_fa u_bd u_nc u_co u_le u_pd u_od u_la u_bk u_ce u_ho u_wy u_bt u_ps u_tg u_sn u_ic u_wd u_id 91 u_wo u_va u_su u_st h_u_td h_u_fr h_u_to ⟨by omega, by omega⟩ h_u_nc h_u_co h_u_pd h_u_la h_u_bk h_u_ce h_u_ho h_u_wy h_u_bt h_u_ps h_u_ic h_u_id) (cwV 1 hts gV_X12_267 rfl rfl rfl hv_X12_isSign ⟨Nat.le_of_ble_eq_true rfl, Nat.le_of_ble_eq_true rfl⟩) (g5_preV hPc hK hDc hN hT hS hFc (ci := 12) (q0 := 0) rfl rfl) rfl rfl hl.1 rfl (lv_room (Nat.le_of_ble_eq_true rfl)) dX12_readPart_3 ⟨Nat.le_of_ble_eq_true rfl, Nat.le_of_ble_eq_true rfl⟩) hS (fun q _ h => hFc q h) hFc (fun r u t H1 locs ht hvm hw hB hz1 hk1 hS => ?_)
  obtain ⟨hP1, hD1⟩ := hB
  rw [ht] at hP1
  rcases hw with ⟨i_1, rfl, rfl⟩ | ⟨rfl, rfl⟩
  ·
    have i_1 : u_so.toInt = 3 := i_1
    obtain ⟨hP, hD⟩ := va_join (wr := [(b_tp, (arI G 400 v_tp)), (b_op, (arI G 400 v_op)), (b_ar, (arI G 400 v_ar)), (b_pi, (arI G 400 v_pi)), (b_pa, (arI G 400 v_pa)), (b_ws, (arJ G 8 v_ws))]) hP hD [0] [1, 2, 3, 4, 5, 6] rfl rfl (by decide) (by decide) hk1 hFc hP1 hD1
    generalize H1 = H at hP hS ⊢
    refine g5_rs [(b_tp, (arI G 400 v_tp)), (b_op, (arI G 400 v_op)), (b_ar, (arI G 400 v_ar)), (b_pi, (arI G 400 v_pi)), (b_pa, (arI G 400 v_pa)), (b_ws, (arJ G 8 v_ws)), (b_o, (oc12 u_th u_sa b_rf b_ro b_im b_ke u_fd b_tp u_td u_fr u_to u_so u_wo u_fa u_bd u_nc b_nl u_co b_op b_ar u_le b_pi b_pa u_pd u_od b_ws b_hw u_la b_se b_re u_bk u_va u_su u_ce u_ho u_wy u_bt u_ps b_pt u_tg u_sn b_ip u_ic b_ah b_be b_me u_wd b_tr b_ld u_st b_wn u_id))] hP hD (fun hP hD => ?_)
    refine lv_if_eq (tgt := 17) hx hb dX12_readPart_6 (by decide) (fun c_2 => ?_) (fun c_2 => ?_)
    ·
      exact absurd c_2 (by decide)
    ·
      have hlt9 : u_fr.toInt < u_to.toInt := tks_lt e_s (by omega)
      refine lv_aload_n hx hb dX12_readPart_9 rfl (lv_at hl 0 rfl) ?_
      refine lv_bipush (v := 31) hx hb dX12_readPart_10 (by decide) ?_
      obtain ⟨hPc, hDc, hFc⟩ := g5_sub3 (wc := [(b_o, (oc12 u_th u_sa b_rf b_ro b_im b_ke u_fd b_tp u_td u_fr u_to u_so u_wo u_fa u_bd u_nc b_nl u_co b_op b_ar u_le b_pi b_pa u_pd u_od b_ws b_hw u_la b_se b_re u_bk u_va u_su u_ce u_ho u_wy u_bt u_ps b_pt u_tg u_sn b_ip u_ic b_ah b_be b_me u_wd b_tr b_ld u_st b_wn u_id)), (b_tp, (arI G 400 v_tp)), (b_pi, (arI G 400 v_pi)), (b_pa, (arI G 400 v_pa))]) hP hD hS hA [6, 0, 3, 4] (by decide) rfl
      refine va_callv (va_runV (As := [.int 31]) (rest := []) ⟨hx, hb, hml, hown, hts⟩ (n_openBracket l G b_o b_tp b_pi b_pa b_rf b_ro b_im b_ke b_nl b_op b_ar b_ws b_hw b_se b_re b_pt b_ip b_ah b_be b_me b_tr b_ld b_wn H.size u_th u_sa u_fd u_td u_fr u_to u_so u_fa u_bd u_nc u_co u_le u_pd u_od u_la u_bk u_ce u_ho u_wy u_bt u_ps u_tg u_sn u_ic u_wd u_id 31 u_wo u_va u_su u_st v_tp v_pi v_pa h_u_td h_u_fr h_u_to h_u_bd h_u_nc h_u_co h_u_pd h_u_la h_u_bk h_u_ce h_u_ho h_u_wy h_u_bt h_u_ps h_u_ic h_u_id ⟨by decide, by decide⟩ (by omega) (by omega)) (cwV 1 hts gV_X12_270 rfl rfl rfl hv_X12_openBracket ⟨Nat.le_of_ble_eq_true rfl, Nat.le_of_ble_eq_true rfl⟩) (g5_preV hPc hK hDc hN hT hS hFc (ci := 12) (q0 := 0) rfl rfl) rfl rfl hl.1 rfl (lv_room (Nat.le_of_ble_eq_true rfl)) dX12_readPart_12 ⟨Nat.le_of_ble_eq_true rfl, Nat.le_of_ble_eq_true rfl⟩) hS (fun q _ h => hFc q h) hFc (fun u t H1 locs ht hvm hw hB hz1 hk1 hS => ?_)
      obtain ⟨hP1, hD1⟩ := hB
      rw [ht] at hP1
      rcases hw with rfl | ⟨z9, z10, z11, z12, z13, z14, i_3, i_4, i_5, i_6, i_7, i_8, rfl⟩
      ·
        obtain ⟨hP, hD⟩ := va_join (wr := [(b_op, (arI G 400 v_op)), (b_ar, (arI G 400 v_ar)), (b_ws, (arJ G 8 v_ws))]) hP hD [6, 0, 3, 4] [1, 2, 5] rfl rfl (by decide) (by decide) hk1 hFc hP1 hD1
        generalize H1 = H at hP hS ⊢
        refine g5_rs [(b_op, (arI G 400 v_op)), (b_ar, (arI G 400 v_ar)), (b_ws, (arJ G 8 v_ws)), (b_o, (oc12 u_th u_sa b_rf b_ro b_im b_ke u_fd b_tp u_td u_fr u_to u_so u_wo u_fr 1 u_nc b_nl u_co b_op b_ar u_le b_pi b_pa u_pd u_od b_ws b_hw u_la b_se b_re u_bk u_va u_su u_ce u_ho u_wy u_bt u_ps b_pt u_tg u_sn b_ip u_ic b_ah b_be b_me u_wd b_tr b_ld u_st b_wn u_id)), (b_tp, (arI G 400 v_tp)), (b_pi, (arI G 400 v_pi)), (b_pa, (arI G 400 v_pa))] hP hD (fun hP hD => ?_)
        refine lv_iconst (v := 1) hx hb dX12_readPart_15 (by decide) ?_
        exact W.iret (v := 1) hx hb hr (fun t ht hW => ⟨⟨1, [(b_o, (oc12 u_th u_sa b_rf b_ro b_im b_ke u_fd b_tp u_td u_fr u_to u_so u_wo u_fr 1 u_nc b_nl u_co b_op b_ar u_le b_pi b_pa u_pd u_od b_ws b_hw u_la b_se b_re u_bk u_va u_su u_ce u_ho u_wy u_bt u_ps b_pt u_tg u_sn b_ip u_ic b_ah b_be b_me u_wd b_tr b_ld u_st b_wn u_id)), (b_tp, (arI G 400 v_tp)), (b_op, (arI G 400 v_op)), (b_ar, (arI G 400 v_ar)), (b_pi, (arI G 400 v_pi)), (b_pa, (arI G 400 v_pa)), (b_ws, (arJ G 8 v_ws))], rfl, Or.inl (⟨1, ⟨by have zc_o_r : (1 : Int32).toInt = 1 := (by decide); omega, by have zc_o_r : (1 : Int32).toInt = 1 := (by decide); omega⟩, rfl, rfl⟩), by rw [ht]; exact hP.sub [3, 4, 0, 1, 5, 6, 2] rfl, hD.sub [3, 4, 0, 1, 5, 6, 2] (by decide) rfl⟩, hS.F ht⟩) hS.2.2 dX12_readPart_16
      ·
        have i_3 : 0 ≤ z9.toInt ∧ z9.toInt ≤ 400 := i_3
        have i_4 : 0 ≤ z10.toInt ∧ z10.toInt ≤ 400 := i_4
        have i_5 : 0 ≤ z13.toInt ∧ z13.toInt ≤ 400 := i_5
        have i_6 : u_to.toInt ≤ z9.toInt ∧ z9.toInt ≤ z10.toInt ∧ z10.toInt ≤ u_td.toInt := i_6
        have i_7 : TKs z11.toInt z9.toInt z10.toInt := i_7
        have i_8 : z13.toInt = u_pd.toInt + 1 := i_8
        obtain ⟨hP, hD⟩ := va_join (wr := [(b_op, (arI G 400 v_op)), (b_ar, (arI G 400 v_ar)), (b_ws, (arJ G 8 v_ws))]) hP hD [6, 0, 3, 4] [1, 2, 5] rfl rfl (by decide) (by decide) hk1 hFc hP1 hD1
        generalize H1 = H at hP hS ⊢
        refine g5_rs [(b_op, (arI G 400 v_op)), (b_ar, (arI G 400 v_ar)), (b_ws, (arJ G 8 v_ws)), (b_o, (oc12 u_th u_sa b_rf b_ro b_im b_ke u_fd b_tp u_td z9 z10 z11 z12 u_fa u_bd u_nc b_nl u_co b_op b_ar u_le b_pi b_pa z13 z14 b_ws b_hw u_la b_se b_re u_bk u_va u_su u_ce u_ho u_wy u_bt u_ps b_pt u_tg u_sn b_ip u_ic b_ah b_be b_me u_wd b_tr b_ld u_st b_wn u_id)), (b_tp, (arI G 400 v_tp)), (b_pi, (arI G 400 (upd v_pi u_pd.toNatClampNeg 31))), (b_pa, (arI G 400 (upd v_pa u_pd.toNatClampNeg 0)))] hP hD (fun hP hD => ?_)
        refine lv_iconst (v := 1) hx hb dX12_readPart_15 (by decide) ?_
        exact W.iret (v := 1) hx hb hr (fun t ht hW => ⟨⟨1, [(b_o, (oc12 u_th u_sa b_rf b_ro b_im b_ke u_fd b_tp u_td z9 z10 z11 z12 u_fa u_bd u_nc b_nl u_co b_op b_ar u_le b_pi b_pa z13 z14 b_ws b_hw u_la b_se b_re u_bk u_va u_su u_ce u_ho u_wy u_bt u_ps b_pt u_tg u_sn b_ip u_ic b_ah b_be b_me u_wd b_tr b_ld u_st b_wn u_id)), (b_tp, (arI G 400 v_tp)), (b_op, (arI G 400 v_op)), (b_ar, (arI G 400 v_ar)), (b_pi, (arI G 400 (upd v_pi u_pd.toNatClampNeg 31))), (b_pa, (arI G 400 (upd v_pa u_pd.toNatClampNeg 0))), (b_ws, (arJ G 8 v_ws))], rfl, Or.inr (⟨1, z9, z10, z11, z12, u_co, u_le, z13, z14, v_op, v_ar, (upd v_pi u_pd.toNatClampNeg 31), (upd v_pa u_pd.toNatClampNeg 0), i_3, i_4, h_u_co, i_5, ⟨by have zc_o_r : (1 : Int32).toInt = 1 := (by decide); omega, by have zc_o_r : (1 : Int32).toInt = 1 := (by decide); omega⟩, by omega, i_7, xj_push e_x (by omega) (by omega) ⟨by decide, by decide⟩ (Or.inr (by decide)), tj_1 (hj_push0 (tj_d0 e_j (Or.inr rfl)) (by omega) (by omega) (Or.inr (by decide)) (Or.inl (by decide))) (by decide), by have w9 := (twt_0 (by decide) : twt (1 : Int32).toInt = 0); omega, rfl, rfl⟩), by rw [ht]; exact hP.sub [3, 4, 0, 1, 5, 6, 2] rfl, hD.sub [3, 4, 0, 1, 5, 6, 2] (by decide) rfl⟩, hS.F ht⟩) hS.2.2 dX12_readPart_16
  ·
    obtain ⟨hP, hD⟩ := va_join (wr := [(b_tp, (arI G 400 v_tp)), (b_op, (arI G 400 v_op)), (b_ar, (arI G 400 v_ar)), (b_pi, (arI G 400 v_pi)), (b_pa, (arI G 400 v_pa)), (b_ws, (arJ G 8 v_ws))]) hP hD [0] [1, 2, 3, 4, 5, 6] rfl rfl (by decide) (by decide) hk1 hFc hP1 hD1
    generalize H1 = H at hP hS ⊢
    refine g5_rs [(b_tp, (arI G 400 v_tp)), (b_op, (arI G 400 v_op)), (b_ar, (arI G 400 v_ar)), (b_pi, (arI G 400 v_pi)), (b_pa, (arI G 400 v_pa)), (b_ws, (arJ G 8 v_ws)), (b_o, (oc12 u_th u_sa b_rf b_ro b_im b_ke u_fd b_tp u_td u_fr u_to u_so u_wo u_fa u_bd u_nc b_nl u_co b_op b_ar u_le b_pi b_pa u_pd u_od b_ws b_hw u_la b_se b_re u_bk u_va u_su u_ce u_ho u_wy u_bt u_ps b_pt u_tg u_sn b_ip u_ic b_ah b_be b_me u_wd b_tr b_ld u_st b_wn u_id))] hP hD (fun hP hD => ?_)
    refine lv_if_eq (tgt := 17) hx hb dX12_readPart_6 (by decide) (fun c_15 => ?_) (fun c_15 => ?_)
    ·
      refine lv_aload_n hx hb dX12_readPart_17 rfl (lv_at hl 0 rfl) ?_
      obtain ⟨hPc, hDc, hFc⟩ := g5_sub3 (wc := [(b_o, (oc12 u_th u_sa b_rf b_ro b_im b_ke u_fd b_tp u_td u_fr u_to u_so u_wo u_fa u_bd u_nc b_nl u_co b_op b_ar u_le b_pi b_pa u_pd u_od b_ws b_hw u_la b_se b_re u_bk u_va u_su u_ce u_ho u_wy u_bt u_ps b_pt u_tg u_sn b_ip u_ic b_ah b_be b_me u_wd b_tr b_ld u_st b_wn u_id)), (b_ws, (arJ G 8 v_ws))]) hP hD hS hA [6, 5] (by decide) rfl
      refine va_calli (va_runV (As := []) (rest := []) ⟨hx, hb, hml, hown, hts⟩ (n_partAt l G b_o b_ws b_rf b_ro b_im b_ke b_tp b_nl b_op b_ar b_pi b_pa b_hw b_se b_re b_pt b_ip b_ah b_be b_me b_tr b_ld b_wn H.size u_th u_sa u_fd u_td u_fr u_to u_so u_fa u_bd u_nc u_co u_le u_pd u_od u_la u_bk u_ce u_ho u_wy u_bt u_ps u_tg u_sn u_ic u_wd u_id u_wo u_va u_su u_st v_ws h_u_td h_u_fr h_u_to ⟨by omega, by omega⟩ h_u_nc h_u_co h_u_pd h_u_la h_u_bk h_u_ce h_u_ho h_u_wy h_u_bt h_u_ps h_u_ic h_u_id) (cwV 0 hts gV_X12_273 rfl rfl rfl hv_X12_partAt ⟨Nat.le_of_ble_eq_true rfl, Nat.le_of_ble_eq_true rfl⟩) (g5_preV hPc hK hDc hN hT hS hFc (ci := 12) (q0 := 0) rfl rfl) rfl rfl hl.1 rfl (lv_room (Nat.le_of_ble_eq_true rfl)) dX12_readPart_18 ⟨Nat.le_of_ble_eq_true rfl, Nat.le_of_ble_eq_true rfl⟩) hS (fun q _ h => hFc q h) hFc (fun r u t H1 locs ht hvm hw hB hz1 hk1 hS => ?_)
      obtain ⟨hP1, hD1⟩ := hB
      rw [ht] at hP1
      obtain ⟨z18, i_16, i_17, y19, rfl⟩ := hw
      have i_16 : -1 ≤ z18.toInt ∧ z18.toInt ≤ 8 := i_16
      have i_17 : z18.toInt = -1 ∨ u_so.toInt = 1 := i_17
      obtain ⟨hP, hD⟩ := va_join (wr := [(b_tp, (arI G 400 v_tp)), (b_op, (arI G 400 v_op)), (b_ar, (arI G 400 v_ar)), (b_pi, (arI G 400 v_pi)), (b_pa, (arI G 400 v_pa))]) hP hD [6, 5] [0, 1, 2, 3, 4] rfl rfl (by decide) (by decide) hk1 hFc hP1 hD1
      generalize H1 = H at hP hS ⊢
      refine g5_rs [(b_tp, (arI G 400 v_tp)), (b_op, (arI G 400 v_op)), (b_ar, (arI G 400 v_ar)), (b_pi, (arI G 400 v_pi)), (b_pa, (arI G 400 v_pa)), (b_o, (oc12 u_th u_sa b_rf b_ro b_im b_ke u_fd b_tp u_td u_fr u_to u_so u_wo u_fa u_bd u_nc b_nl u_co b_op b_ar u_le b_pi b_pa u_pd u_od b_ws b_hw u_la b_se b_re u_bk u_va u_su u_ce u_ho u_wy u_bt u_ps b_pt u_tg u_sn b_ip u_ic b_ah b_be b_me u_wd b_tr b_ld u_st b_wn u_id)), (b_ws, (arJ G 8 v_ws))] hP hD (fun hP hD => ?_)
      refine g5_ti (v := z18) y19 ?_
      refine lv_istore_n (lv' := [(1, .int z18), (0, .ref b_o)]) hx hb dX12_readPart_21 rfl hl (by decide) rfl (fun ls hl => ?_)
      refine lv_aload_n hx hb dX12_readPart_22 rfl (lv_at hl 1 rfl) ?_
      refine va_get (D := G.1) (ci := 12) (v := .int u_so) (C := RX12) (T := TX12) (N := 52) hx hb hts inG_X12 hown hK hP 5 rfl rfl 11 (by decide) (hts _ fl_X12_224) (fun _ h9 => h9) rfl dX12_readPart_23 ?_
      refine lv_iconst (v := 2) hx hb dX12_readPart_26 (by decide) ?_
      refine lv_icmp_ne (tgt := 45) hx hb dX12_readPart_27 (by decide) (fun c_20 => ?_) (fun c_20 => ?_)
      ·
        have n_20 : gNe (u_so.toInt) (2) := by have z := g5_ne (a := u_so.toInt) (b := 2) (by rfl) (by decide) c_20; unfold gNe; omega
        refine lv_iconst (v := 0) hx hb dX12_readPart_45 (by decide) ?_
        refine lv_istore_n (lv' := [(2, .int 0), (1, .int z18), (0, .ref b_o)]) hx hb dX12_readPart_46 rfl hl (by decide) rfl (fun ls hl => ?_)
        refine lv_aload_n hx hb dX12_readPart_47 rfl (lv_at hl 2 rfl) ?_
        refine lv_iload_n hx hb dX12_readPart_48 rfl (lv_at hl 1 rfl) ?_
        refine lv_iconst (v := (-1)) hx hb dX12_readPart_49 (by decide) ?_
        refine lv_icmp_ne (tgt := 57) hx hb dX12_readPart_50 (by decide) (fun c_21 => ?_) (fun c_21 => ?_)
        ·
          have n_21 : gNe (z18.toInt) ((-1)) := by have z := g5_ne (a := z18.toInt) (b := (-1)) (by rfl) (by decide) c_21; unfold gNe; omega
          have i_21 : z18.toInt ≥ 0 := by have z := g5_ne (a := z18.toInt) (b := (-1)) (by rfl) (by decide) c_21; omega
          refine lv_iconst (v := 1) hx hb dX12_readPart_57 (by decide) ?_
          refine lv_goto (tgt := 62) hx hb dX12_readPart_58 (by decide) ?_
          refine lv_iload_n hx hb dX12_readPart_62 rfl (lv_at hl 1 rfl) ?_
          refine lv_iconst (v := (-1)) hx hb dX12_readPart_63 (by decide) ?_
          refine lv_icmp_ne (tgt := 71) hx hb dX12_readPart_64 (by decide) (fun c_22 => ?_) (fun c_22 => ?_)
          ·
            have n_22 : gNe (z18.toInt) ((-1)) := by have z := g5_ne (a := z18.toInt) (b := (-1)) (by rfl) (by decide) c_22; unfold gNe; omega
            refine lv_iload_n hx hb dX12_readPart_71 rfl (lv_at hl 1 rfl) ?_
            refine lv_iload_n hx hb dX12_readPart_72 rfl (lv_at hl 0 rfl) ?_
            refine lv_if_eq (tgt := 84) hx hb dX12_readPart_73 (by decide) (fun c_23 => ?_) (fun c_23 => ?_)
            ·
              refine lv_iconst (v := 0) hx hb dX12_readPart_84 (by decide) ?_
              have hlt9 : u_fr.toInt < u_to.toInt := tks_lt e_s (by omega)
              obtain ⟨hPc, hDc, hFc⟩ := g5_sub3 (wc := [(b_o, (oc12 u_th u_sa b_rf b_ro b_im b_ke u_fd b_tp u_td u_fr u_to u_so u_wo u_fa u_bd u_nc b_nl u_co b_op b_ar u_le b_pi b_pa u_pd u_od b_ws b_hw u_la b_se b_re u_bk u_va u_su u_ce u_ho u_wy u_bt u_ps b_pt u_tg u_sn b_ip u_ic b_ah b_be b_me u_wd b_tr b_ld u_st b_wn u_id)), (b_tp, (arI G 400 v_tp)), (b_op, (arI G 400 v_op)), (b_ar, (arI G 400 v_ar))]) hP hD hS hA [5, 0, 1, 2] (by decide) rfl
              refine va_callv (va_runV (As := [.int 1, .int z18, .int 0]) (rest := []) ⟨hx, hb, hml, hown, hts⟩ (n_leaf1 l G b_o b_tp b_op b_ar b_rf b_ro b_im b_ke b_nl b_pi b_pa b_ws b_hw b_se b_re b_pt b_ip b_ah b_be b_me b_tr b_ld b_wn H.size u_th u_sa u_fd u_td u_fr u_to u_so u_fa u_bd u_nc u_co u_le u_pd u_od u_la u_bk u_ce u_ho u_wy u_bt u_ps u_tg u_sn u_ic u_wd u_id z18 0 u_wo u_va u_su u_st v_tp v_op v_ar h_u_td h_u_fr h_u_to h_u_bd h_u_nc h_u_co h_u_pd h_u_la h_u_bk h_u_ce h_u_ho h_u_wy h_u_bt h_u_ps h_u_ic h_u_id ⟨by omega, by omega⟩ (by omega) (by omega)) (cwV 3 hts gV_X12_279 rfl rfl rfl hv_X12_leaf ⟨Nat.le_of_ble_eq_true rfl, Nat.le_of_ble_eq_true rfl⟩) (g5_preV hPc hK hDc hN hT hS hFc (ci := 12) (q0 := 0) rfl rfl) rfl rfl hl.1 rfl (lv_room (Nat.le_of_ble_eq_true rfl)) dX12_readPart_85 ⟨Nat.le_of_ble_eq_true rfl, Nat.le_of_ble_eq_true rfl⟩) hS (fun q _ h => hFc q h) hFc (fun u t H1 locs ht hvm hw hB hz1 hk1 hS => ?_)
              obtain ⟨hP1, hD1⟩ := hB
              rw [ht] at hP1
              rcases hw with rfl | ⟨z30, z31, z32, z33, z34, z35, i_24, i_25, i_26, i_27, i_28, i_29, rfl⟩
              ·
                obtain ⟨hP, hD⟩ := va_join (wr := [(b_pi, (arI G 400 v_pi)), (b_pa, (arI G 400 v_pa)), (b_ws, (arJ G 8 v_ws))]) hP hD [5, 0, 1, 2] [3, 4, 6] rfl rfl (by decide) (by decide) hk1 hFc hP1 hD1
                generalize H1 = H at hP hS ⊢
                refine g5_rs [(b_pi, (arI G 400 v_pi)), (b_pa, (arI G 400 v_pa)), (b_ws, (arJ G 8 v_ws)), (b_o, (oc12 u_th u_sa b_rf b_ro b_im b_ke u_fd b_tp u_td u_fr u_to u_so u_wo u_fr 1 u_nc b_nl u_co b_op b_ar u_le b_pi b_pa u_pd u_od b_ws b_hw u_la b_se b_re u_bk u_va u_su u_ce u_ho u_wy u_bt u_ps b_pt u_tg u_sn b_ip u_ic b_ah b_be b_me u_wd b_tr b_ld u_st b_wn u_id)), (b_tp, (arI G 400 v_tp)), (b_op, (arI G 400 v_op)), (b_ar, (arI G 400 v_ar))] hP hD (fun hP hD => ?_)
                refine lv_iconst (v := 3) hx hb dX12_readPart_88 (by decide) ?_
                exact W.iret (v := 3) hx hb hr (fun t ht hW => ⟨⟨3, [(b_o, (oc12 u_th u_sa b_rf b_ro b_im b_ke u_fd b_tp u_td u_fr u_to u_so u_wo u_fr 1 u_nc b_nl u_co b_op b_ar u_le b_pi b_pa u_pd u_od b_ws b_hw u_la b_se b_re u_bk u_va u_su u_ce u_ho u_wy u_bt u_ps b_pt u_tg u_sn b_ip u_ic b_ah b_be b_me u_wd b_tr b_ld u_st b_wn u_id)), (b_tp, (arI G 400 v_tp)), (b_op, (arI G 400 v_op)), (b_ar, (arI G 400 v_ar)), (b_pi, (arI G 400 v_pi)), (b_pa, (arI G 400 v_pa)), (b_ws, (arJ G 8 v_ws))], rfl, Or.inl (⟨3, ⟨by have zc_o_r : (3 : Int32).toInt = 3 := (by decide); omega, by have zc_o_r : (3 : Int32).toInt = 3 := (by decide); omega⟩, rfl, rfl⟩), by rw [ht]; exact hP.sub [3, 4, 5, 6, 0, 1, 2] rfl, hD.sub [3, 4, 5, 6, 0, 1, 2] (by decide) rfl⟩, hS.F ht⟩) hS.2.2 dX12_readPart_89
              ·
                have i_24 : 0 ≤ z30.toInt ∧ z30.toInt ≤ 400 := i_24
                have i_25 : 0 ≤ z31.toInt ∧ z31.toInt ≤ 400 := i_25
                have i_26 : 0 ≤ z34.toInt ∧ z34.toInt ≤ 400 := i_26
                have i_27 : u_to.toInt ≤ z30.toInt ∧ z30.toInt ≤ z31.toInt ∧ z31.toInt ≤ u_td.toInt := i_27
                have i_28 : TKs z32.toInt z30.toInt z31.toInt := i_28
                have i_29 : z34.toInt = u_co.toInt + 1 := i_29
                obtain ⟨hP, hD⟩ := va_join (wr := [(b_pi, (arI G 400 v_pi)), (b_pa, (arI G 400 v_pa)), (b_ws, (arJ G 8 v_ws))]) hP hD [5, 0, 1, 2] [3, 4, 6] rfl rfl (by decide) (by decide) hk1 hFc hP1 hD1
                generalize H1 = H at hP hS ⊢
                refine g5_rs [(b_pi, (arI G 400 v_pi)), (b_pa, (arI G 400 v_pa)), (b_ws, (arJ G 8 v_ws)), (b_o, (oc12 u_th u_sa b_rf b_ro b_im b_ke u_fd b_tp u_td z30 z31 z32 z33 u_fa u_bd u_nc b_nl z34 b_op b_ar z35 b_pi b_pa u_pd u_od b_ws b_hw u_la b_se b_re u_bk u_va u_su u_ce u_ho u_wy u_bt u_ps b_pt u_tg u_sn b_ip u_ic b_ah b_be b_me u_wd b_tr b_ld u_st b_wn u_id)), (b_tp, (arI G 400 v_tp)), (b_op, (arI G 400 (upd v_op u_co.toNatClampNeg z18))), (b_ar, (arI G 400 (upd v_ar u_co.toNatClampNeg 0)))] hP hD (fun hP hD => ?_)
                refine lv_iconst (v := 3) hx hb dX12_readPart_88 (by decide) ?_
                exact W.iret (v := 3) hx hb hr (fun t ht hW => ⟨⟨3, [(b_o, (oc12 u_th u_sa b_rf b_ro b_im b_ke u_fd b_tp u_td z30 z31 z32 z33 u_fa u_bd u_nc b_nl z34 b_op b_ar z35 b_pi b_pa u_pd u_od b_ws b_hw u_la b_se b_re u_bk u_va u_su u_ce u_ho u_wy u_bt u_ps b_pt u_tg u_sn b_ip u_ic b_ah b_be b_me u_wd b_tr b_ld u_st b_wn u_id)), (b_tp, (arI G 400 v_tp)), (b_op, (arI G 400 (upd v_op u_co.toNatClampNeg z18))), (b_ar, (arI G 400 (upd v_ar u_co.toNatClampNeg 0))), (b_pi, (arI G 400 v_pi)), (b_pa, (arI G 400 v_pa)), (b_ws, (arJ G 8 v_ws))], rfl, Or.inr (⟨3, z30, z31, z32, z33, z34, z35, u_pd, u_od, (upd v_op u_co.toNatClampNeg z18), (upd v_ar u_co.toNatClampNeg 0), v_pi, v_pa, i_24, i_25, i_26, h_u_pd, ⟨by have zc_o_r : (3 : Int32).toInt = 3 := (by decide); omega, by have zc_o_r : (3 : Int32).toInt = 3 := (by decide); omega⟩, by omega, i_28, xj_emit e_x (by omega) (by omega), tj_3 (hj_leaf e_x (tj_d0 e_j (Or.inr rfl)) (by omega) ⟨by omega, by omega⟩) (by decide), by have w9 := (twt_3 (by decide) : twt (3 : Int32).toInt = 2); omega, rfl, rfl⟩), by rw [ht]; exact hP.sub [3, 4, 5, 6, 0, 1, 2] rfl, hD.sub [3, 4, 5, 6, 0, 1, 2] (by decide) rfl⟩, hS.F ht⟩) hS.2.2 dX12_readPart_89
            ·
              exact absurd c_23 (by decide)
          ·
            have i_22 : z18.toInt = (-1) := by have z := g5_neN (a := z18.toInt) (b := (-1)) (by rfl) (by decide) c_22; omega
            omega
        ·
          have i_21 : z18.toInt = (-1) := by have z := g5_neN (a := z18.toInt) (b := (-1)) (by rfl) (by decide) c_21; omega
          refine lv_iload_n hx hb dX12_readPart_53 rfl (lv_at hl 0 rfl) ?_
          refine lv_if_eq (tgt := 61) hx hb dX12_readPart_54 (by decide) (fun c_36 => ?_) (fun c_36 => ?_)
          ·
            refine lv_iconst (v := 0) hx hb dX12_readPart_61 (by decide) ?_
            refine lv_iload_n hx hb dX12_readPart_62 rfl (lv_at hl 1 rfl) ?_
            refine lv_iconst (v := (-1)) hx hb dX12_readPart_63 (by decide) ?_
            refine lv_icmp_ne (tgt := 71) hx hb dX12_readPart_64 (by decide) (fun c_37 => ?_) (fun c_37 => ?_)
            ·
              have i_37 : z18.toInt ≠ (-1) := by have z := g5_ne (a := z18.toInt) (b := (-1)) (by rfl) (by decide) c_37; omega
              omega
            ·
              have i_37 : z18.toInt = (-1) := by have z := g5_neN (a := z18.toInt) (b := (-1)) (by rfl) (by decide) c_37; omega
              refine lv_iconst (v := 0) hx hb dX12_readPart_67 (by decide) ?_
              refine lv_goto (tgt := 72) hx hb dX12_readPart_68 (by decide) ?_
              refine lv_iload_n hx hb dX12_readPart_72 rfl (lv_at hl 0 rfl) ?_
              refine lv_if_eq (tgt := 84) hx hb dX12_readPart_73 (by decide) (fun c_38 => ?_) (fun c_38 => ?_)
              ·
                refine lv_iconst (v := 0) hx hb dX12_readPart_84 (by decide) ?_
                obtain ⟨hPc, hDc, hFc⟩ := g5_sub3 (wc := [(b_o, (oc12 u_th u_sa b_rf b_ro b_im b_ke u_fd b_tp u_td u_fr u_to u_so u_wo u_fa u_bd u_nc b_nl u_co b_op b_ar u_le b_pi b_pa u_pd u_od b_ws b_hw u_la b_se b_re u_bk u_va u_su u_ce u_ho u_wy u_bt u_ps b_pt u_tg u_sn b_ip u_ic b_ah b_be b_me u_wd b_tr b_ld u_st b_wn u_id)), (b_tp, (arI G 400 v_tp)), (b_op, (arI G 400 v_op)), (b_ar, (arI G 400 v_ar))]) hP hD hS hA [5, 0, 1, 2] (by decide) rfl
                refine va_callv (va_runV (As := [.int 0, .int 0, .int 0]) (rest := []) ⟨hx, hb, hml, hown, hts⟩ (n_leaf0 l G b_o b_tp b_op b_ar b_rf b_ro b_im b_ke b_nl b_pi b_pa b_ws b_hw b_se b_re b_pt b_ip b_ah b_be b_me b_tr b_ld b_wn H.size u_th u_sa u_fd u_td u_fr u_to u_so u_fa u_bd u_nc u_co u_le u_pd u_od u_la u_bk u_ce u_ho u_wy u_bt u_ps u_tg u_sn u_ic u_wd u_id 0 0 u_wo u_va u_su u_st v_tp v_op v_ar h_u_td h_u_fr h_u_to h_u_bd h_u_nc h_u_co h_u_pd h_u_la h_u_bk h_u_ce h_u_ho h_u_wy h_u_bt h_u_ps h_u_ic h_u_id ⟨by decide, by decide⟩) (cwV 3 hts gV_X12_279 rfl rfl rfl hv_X12_leaf ⟨Nat.le_of_ble_eq_true rfl, Nat.le_of_ble_eq_true rfl⟩) (g5_preV hPc hK hDc hN hT hS hFc (ci := 12) (q0 := 0) rfl rfl) rfl rfl hl.1 rfl (lv_room (Nat.le_of_ble_eq_true rfl)) dX12_readPart_85 ⟨Nat.le_of_ble_eq_true rfl, Nat.le_of_ble_eq_true rfl⟩) hS (fun q _ h => hFc q h) hFc (fun u t H1 locs ht hvm hw hB hz1 hk1 hS => ?_)
                obtain ⟨hP1, hD1⟩ := hB
                rw [ht] at hP1
                obtain rfl := hw
                obtain ⟨hP, hD⟩ := va_join (wr := [(b_pi, (arI G 400 v_pi)), (b_pa, (arI G 400 v_pa)), (b_ws, (arJ G 8 v_ws))]) hP hD [5, 0, 1, 2] [3, 4, 6] rfl rfl (by decide) (by decide) hk1 hFc hP1 hD1
                generalize H1 = H at hP hS ⊢
                refine g5_rs [(b_pi, (arI G 400 v_pi)), (b_pa, (arI G 400 v_pa)), (b_ws, (arJ G 8 v_ws)), (b_o, (oc12 u_th u_sa b_rf b_ro b_im b_ke u_fd b_tp u_td u_fr u_to u_so u_wo u_fr 1 u_nc b_nl u_co b_op b_ar u_le b_pi b_pa u_pd u_od b_ws b_hw u_la b_se b_re u_bk u_va u_su u_ce u_ho u_wy u_bt u_ps b_pt u_tg u_sn b_ip u_ic b_ah b_be b_me u_wd b_tr b_ld u_st b_wn u_id)), (b_tp, (arI G 400 v_tp)), (b_op, (arI G 400 v_op)), (b_ar, (arI G 400 v_ar))] hP hD (fun hP hD => ?_)
                refine lv_iconst (v := 3) hx hb dX12_readPart_88 (by decide) ?_
                exact W.iret (v := 3) hx hb hr (fun t ht hW => ⟨⟨3, [(b_o, (oc12 u_th u_sa b_rf b_ro b_im b_ke u_fd b_tp u_td u_fr u_to u_so u_wo u_fr 1 u_nc b_nl u_co b_op b_ar u_le b_pi b_pa u_pd u_od b_ws b_hw u_la b_se b_re u_bk u_va u_su u_ce u_ho u_wy u_bt u_ps b_pt u_tg u_sn b_ip u_ic b_ah b_be b_me u_wd b_tr b_ld u_st b_wn u_id)), (b_tp, (arI G 400 v_tp)), (b_op, (arI G 400 v_op)), (b_ar, (arI G 400 v_ar)), (b_pi, (arI G 400 v_pi)), (b_pa, (arI G 400 v_pa)), (b_ws, (arJ G 8 v_ws))], rfl, Or.inl (⟨3, ⟨by have zc_o_r : (3 : Int32).toInt = 3 := (by decide); omega, by have zc_o_r : (3 : Int32).toInt = 3 := (by decide); omega⟩, rfl, rfl⟩), by rw [ht]; exact hP.sub [3, 4, 5, 6, 0, 1, 2] rfl, hD.sub [3, 4, 5, 6, 0, 1, 2] (by decide) rfl⟩, hS.F ht⟩) hS.2.2 dX12_readPart_89
              ·
                exact absurd c_38 (by decide)
          ·
            exact absurd c_36 (by decide)
      ·
        have i_20 : u_so.toInt = 2 := by have z := g5_neN (a := u_so.toInt) (b := 2) (by rfl) (by decide) c_20; omega
        refine lv_aload_n hx hb dX12_readPart_30 rfl (lv_at hl 1 rfl) ?_
        refine va_get (D := G.1) (ci := 12) (v := .long u_wo) (C := RX12) (T := TX12) (N := 52) hx hb hts inG_X12 hown hK hP 5 rfl rfl 12 (by decide) (hts _ fl_X12_214) (fun _ h9 => h9) rfl dX12_readPart_31 ?_
        refine lv_ldc2 (v := 1000) hx hb hown (hts _ kl_X12_277) dX12_readPart_34 ?_
        refine W.lcmp hx hb dX12_readPart_37 ?_
        refine lv_if_gt (tgt := 45) hx hb dX12_readPart_38 (by decide) (fun c_39 => ?_) (fun c_39 => ?_)
        ·
          have i_39 : (lg_cmp u_wo 1000).toInt > 0 := by have z := g5_gt (a := (lg_cmp u_wo 1000).toInt) (b := 0) (by rfl) (by decide) c_39; omega
          refine lv_iconst (v := 0) hx hb dX12_readPart_45 (by decide) ?_
          refine lv_istore_n (lv' := [(2, .int 0), (1, .int z18), (0, .ref b_o)]) hx hb dX12_readPart_46 rfl hl (by decide) rfl (fun ls hl => ?_)
          refine lv_aload_n hx hb dX12_readPart_47 rfl (lv_at hl 2 rfl) ?_
          refine lv_iload_n hx hb dX12_readPart_48 rfl (lv_at hl 1 rfl) ?_
          refine lv_iconst (v := (-1)) hx hb dX12_readPart_49 (by decide) ?_
          refine lv_icmp_ne (tgt := 57) hx hb dX12_readPart_50 (by decide) (fun c_40 => ?_) (fun c_40 => ?_)
          ·
            have n_40 : gNe (z18.toInt) ((-1)) := by have z := g5_ne (a := z18.toInt) (b := (-1)) (by rfl) (by decide) c_40; unfold gNe; omega
            have i_40 : z18.toInt ≥ 0 := by have z := g5_ne (a := z18.toInt) (b := (-1)) (by rfl) (by decide) c_40; omega
            refine lv_iconst (v := 1) hx hb dX12_readPart_57 (by decide) ?_
            refine lv_goto (tgt := 62) hx hb dX12_readPart_58 (by decide) ?_
            refine lv_iload_n hx hb dX12_readPart_62 rfl (lv_at hl 1 rfl) ?_
            refine lv_iconst (v := (-1)) hx hb dX12_readPart_63 (by decide) ?_
            refine lv_icmp_ne (tgt := 71) hx hb dX12_readPart_64 (by decide) (fun c_41 => ?_) (fun c_41 => ?_)
            ·
              have n_41 : gNe (z18.toInt) ((-1)) := by have z := g5_ne (a := z18.toInt) (b := (-1)) (by rfl) (by decide) c_41; unfold gNe; omega
              refine lv_iload_n hx hb dX12_readPart_71 rfl (lv_at hl 1 rfl) ?_
              refine lv_iload_n hx hb dX12_readPart_72 rfl (lv_at hl 0 rfl) ?_
              refine lv_if_eq (tgt := 84) hx hb dX12_readPart_73 (by decide) (fun c_42 => ?_) (fun c_42 => ?_)
              ·
                refine lv_iconst (v := 0) hx hb dX12_readPart_84 (by decide) ?_
                have hlt9 : u_fr.toInt < u_to.toInt := tks_lt e_s (by omega)
                obtain ⟨hPc, hDc, hFc⟩ := g5_sub3 (wc := [(b_o, (oc12 u_th u_sa b_rf b_ro b_im b_ke u_fd b_tp u_td u_fr u_to u_so u_wo u_fa u_bd u_nc b_nl u_co b_op b_ar u_le b_pi b_pa u_pd u_od b_ws b_hw u_la b_se b_re u_bk u_va u_su u_ce u_ho u_wy u_bt u_ps b_pt u_tg u_sn b_ip u_ic b_ah b_be b_me u_wd b_tr b_ld u_st b_wn u_id)), (b_tp, (arI G 400 v_tp)), (b_op, (arI G 400 v_op)), (b_ar, (arI G 400 v_ar))]) hP hD hS hA [5, 0, 1, 2] (by decide) rfl
                refine va_callv (va_runV (As := [.int 1, .int z18, .int 0]) (rest := []) ⟨hx, hb, hml, hown, hts⟩ (n_leaf1 l G b_o b_tp b_op b_ar b_rf b_ro b_im b_ke b_nl b_pi b_pa b_ws b_hw b_se b_re b_pt b_ip b_ah b_be b_me b_tr b_ld b_wn H.size u_th u_sa u_fd u_td u_fr u_to u_so u_fa u_bd u_nc u_co u_le u_pd u_od u_la u_bk u_ce u_ho u_wy u_bt u_ps u_tg u_sn u_ic u_wd u_id z18 0 u_wo u_va u_su u_st v_tp v_op v_ar h_u_td h_u_fr h_u_to h_u_bd h_u_nc h_u_co h_u_pd h_u_la h_u_bk h_u_ce h_u_ho h_u_wy h_u_bt h_u_ps h_u_ic h_u_id ⟨by omega, by omega⟩ (by omega) (by omega)) (cwV 3 hts gV_X12_279 rfl rfl rfl hv_X12_leaf ⟨Nat.le_of_ble_eq_true rfl, Nat.le_of_ble_eq_true rfl⟩) (g5_preV hPc hK hDc hN hT hS hFc (ci := 12) (q0 := 0) rfl rfl) rfl rfl hl.1 rfl (lv_room (Nat.le_of_ble_eq_true rfl)) dX12_readPart_85 ⟨Nat.le_of_ble_eq_true rfl, Nat.le_of_ble_eq_true rfl⟩) hS (fun q _ h => hFc q h) hFc (fun u t H1 locs ht hvm hw hB hz1 hk1 hS => ?_)
                obtain ⟨hP1, hD1⟩ := hB
                rw [ht] at hP1
                rcases hw with rfl | ⟨z49, z50, z51, z52, z53, z54, i_43, i_44, i_45, i_46, i_47, i_48, rfl⟩
                ·
                  obtain ⟨hP, hD⟩ := va_join (wr := [(b_pi, (arI G 400 v_pi)), (b_pa, (arI G 400 v_pa)), (b_ws, (arJ G 8 v_ws))]) hP hD [5, 0, 1, 2] [3, 4, 6] rfl rfl (by decide) (by decide) hk1 hFc hP1 hD1
                  generalize H1 = H at hP hS ⊢
                  refine g5_rs [(b_pi, (arI G 400 v_pi)), (b_pa, (arI G 400 v_pa)), (b_ws, (arJ G 8 v_ws)), (b_o, (oc12 u_th u_sa b_rf b_ro b_im b_ke u_fd b_tp u_td u_fr u_to u_so u_wo u_fr 1 u_nc b_nl u_co b_op b_ar u_le b_pi b_pa u_pd u_od b_ws b_hw u_la b_se b_re u_bk u_va u_su u_ce u_ho u_wy u_bt u_ps b_pt u_tg u_sn b_ip u_ic b_ah b_be b_me u_wd b_tr b_ld u_st b_wn u_id)), (b_tp, (arI G 400 v_tp)), (b_op, (arI G 400 v_op)), (b_ar, (arI G 400 v_ar))] hP hD (fun hP hD => ?_)
                  refine lv_iconst (v := 3) hx hb dX12_readPart_88 (by decide) ?_
                  exact W.iret (v := 3) hx hb hr (fun t ht hW => ⟨⟨3, [(b_o, (oc12 u_th u_sa b_rf b_ro b_im b_ke u_fd b_tp u_td u_fr u_to u_so u_wo u_fr 1 u_nc b_nl u_co b_op b_ar u_le b_pi b_pa u_pd u_od b_ws b_hw u_la b_se b_re u_bk u_va u_su u_ce u_ho u_wy u_bt u_ps b_pt u_tg u_sn b_ip u_ic b_ah b_be b_me u_wd b_tr b_ld u_st b_wn u_id)), (b_tp, (arI G 400 v_tp)), (b_op, (arI G 400 v_op)), (b_ar, (arI G 400 v_ar)), (b_pi, (arI G 400 v_pi)), (b_pa, (arI G 400 v_pa)), (b_ws, (arJ G 8 v_ws))], rfl, Or.inl (⟨3, ⟨by have zc_o_r : (3 : Int32).toInt = 3 := (by decide); omega, by have zc_o_r : (3 : Int32).toInt = 3 := (by decide); omega⟩, rfl, rfl⟩), by rw [ht]; exact hP.sub [3, 4, 5, 6, 0, 1, 2] rfl, hD.sub [3, 4, 5, 6, 0, 1, 2] (by decide) rfl⟩, hS.F ht⟩) hS.2.2 dX12_readPart_89
                ·
                  have i_43 : 0 ≤ z49.toInt ∧ z49.toInt ≤ 400 := i_43
                  have i_44 : 0 ≤ z50.toInt ∧ z50.toInt ≤ 400 := i_44
                  have i_45 : 0 ≤ z53.toInt ∧ z53.toInt ≤ 400 := i_45
                  have i_46 : u_to.toInt ≤ z49.toInt ∧ z49.toInt ≤ z50.toInt ∧ z50.toInt ≤ u_td.toInt := i_46
                  have i_47 : TKs z51.toInt z49.toInt z50.toInt := i_47
                  have i_48 : z53.toInt = u_co.toInt + 1 := i_48
                  obtain ⟨hP, hD⟩ := va_join (wr := [(b_pi, (arI G 400 v_pi)), (b_pa, (arI G 400 v_pa)), (b_ws, (arJ G 8 v_ws))]) hP hD [5, 0, 1, 2] [3, 4, 6] rfl rfl (by decide) (by decide) hk1 hFc hP1 hD1
                  generalize H1 = H at hP hS ⊢
                  refine g5_rs [(b_pi, (arI G 400 v_pi)), (b_pa, (arI G 400 v_pa)), (b_ws, (arJ G 8 v_ws)), (b_o, (oc12 u_th u_sa b_rf b_ro b_im b_ke u_fd b_tp u_td z49 z50 z51 z52 u_fa u_bd u_nc b_nl z53 b_op b_ar z54 b_pi b_pa u_pd u_od b_ws b_hw u_la b_se b_re u_bk u_va u_su u_ce u_ho u_wy u_bt u_ps b_pt u_tg u_sn b_ip u_ic b_ah b_be b_me u_wd b_tr b_ld u_st b_wn u_id)), (b_tp, (arI G 400 v_tp)), (b_op, (arI G 400 (upd v_op u_co.toNatClampNeg z18))), (b_ar, (arI G 400 (upd v_ar u_co.toNatClampNeg 0)))] hP hD (fun hP hD => ?_)
                  refine lv_iconst (v := 3) hx hb dX12_readPart_88 (by decide) ?_
                  exact W.iret (v := 3) hx hb hr (fun t ht hW => ⟨⟨3, [(b_o, (oc12 u_th u_sa b_rf b_ro b_im b_ke u_fd b_tp u_td z49 z50 z51 z52 u_fa u_bd u_nc b_nl z53 b_op b_ar z54 b_pi b_pa u_pd u_od b_ws b_hw u_la b_se b_re u_bk u_va u_su u_ce u_ho u_wy u_bt u_ps b_pt u_tg u_sn b_ip u_ic b_ah b_be b_me u_wd b_tr b_ld u_st b_wn u_id)), (b_tp, (arI G 400 v_tp)), (b_op, (arI G 400 (upd v_op u_co.toNatClampNeg z18))), (b_ar, (arI G 400 (upd v_ar u_co.toNatClampNeg 0))), (b_pi, (arI G 400 v_pi)), (b_pa, (arI G 400 v_pa)), (b_ws, (arJ G 8 v_ws))], rfl, Or.inr (⟨3, z49, z50, z51, z52, z53, z54, u_pd, u_od, (upd v_op u_co.toNatClampNeg z18), (upd v_ar u_co.toNatClampNeg 0), v_pi, v_pa, i_43, i_44, i_45, h_u_pd, ⟨by have zc_o_r : (3 : Int32).toInt = 3 := (by decide); omega, by have zc_o_r : (3 : Int32).toInt = 3 := (by decide); omega⟩, by omega, i_47, xj_emit e_x (by omega) (by omega), tj_3 (hj_leaf e_x (tj_d0 e_j (Or.inr rfl)) (by omega) ⟨by omega, by omega⟩) (by decide), by have w9 := (twt_3 (by decide) : twt (3 : Int32).toInt = 2); omega, rfl, rfl⟩), by rw [ht]; exact hP.sub [3, 4, 5, 6, 0, 1, 2] rfl, hD.sub [3, 4, 5, 6, 0, 1, 2] (by decide) rfl⟩, hS.F ht⟩) hS.2.2 dX12_readPart_89
              ·
                exact absurd c_42 (by decide)
            ·
              have i_41 : z18.toInt = (-1) := by have z := g5_neN (a := z18.toInt) (b := (-1)) (by rfl) (by decide) c_41; omega
              omega
          ·
            have i_40 : z18.toInt = (-1) := by have z := g5_neN (a := z18.toInt) (b := (-1)) (by rfl) (by decide) c_40; omega
            refine lv_iload_n hx hb dX12_readPart_53 rfl (lv_at hl 0 rfl) ?_
            refine lv_if_eq (tgt := 61) hx hb dX12_readPart_54 (by decide) (fun c_55 => ?_) (fun c_55 => ?_)
            ·
              refine lv_iconst (v := 0) hx hb dX12_readPart_61 (by decide) ?_
              refine lv_iload_n hx hb dX12_readPart_62 rfl (lv_at hl 1 rfl) ?_
              refine lv_iconst (v := (-1)) hx hb dX12_readPart_63 (by decide) ?_
              refine lv_icmp_ne (tgt := 71) hx hb dX12_readPart_64 (by decide) (fun c_56 => ?_) (fun c_56 => ?_)
              ·
                have i_56 : z18.toInt ≠ (-1) := by have z := g5_ne (a := z18.toInt) (b := (-1)) (by rfl) (by decide) c_56; omega
                omega
              ·
                have i_56 : z18.toInt = (-1) := by have z := g5_neN (a := z18.toInt) (b := (-1)) (by rfl) (by decide) c_56; omega
                refine lv_iconst (v := 0) hx hb dX12_readPart_67 (by decide) ?_
                refine lv_goto (tgt := 72) hx hb dX12_readPart_68 (by decide) ?_
                refine lv_iload_n hx hb dX12_readPart_72 rfl (lv_at hl 0 rfl) ?_
                refine lv_if_eq (tgt := 84) hx hb dX12_readPart_73 (by decide) (fun c_57 => ?_) (fun c_57 => ?_)
                ·
                  refine lv_iconst (v := 0) hx hb dX12_readPart_84 (by decide) ?_
                  obtain ⟨hPc, hDc, hFc⟩ := g5_sub3 (wc := [(b_o, (oc12 u_th u_sa b_rf b_ro b_im b_ke u_fd b_tp u_td u_fr u_to u_so u_wo u_fa u_bd u_nc b_nl u_co b_op b_ar u_le b_pi b_pa u_pd u_od b_ws b_hw u_la b_se b_re u_bk u_va u_su u_ce u_ho u_wy u_bt u_ps b_pt u_tg u_sn b_ip u_ic b_ah b_be b_me u_wd b_tr b_ld u_st b_wn u_id)), (b_tp, (arI G 400 v_tp)), (b_op, (arI G 400 v_op)), (b_ar, (arI G 400 v_ar))]) hP hD hS hA [5, 0, 1, 2] (by decide) rfl
                  refine va_callv (va_runV (As := [.int 0, .int 0, .int 0]) (rest := []) ⟨hx, hb, hml, hown, hts⟩ (n_leaf0 l G b_o b_tp b_op b_ar b_rf b_ro b_im b_ke b_nl b_pi b_pa b_ws b_hw b_se b_re b_pt b_ip b_ah b_be b_me b_tr b_ld b_wn H.size u_th u_sa u_fd u_td u_fr u_to u_so u_fa u_bd u_nc u_co u_le u_pd u_od u_la u_bk u_ce u_ho u_wy u_bt u_ps u_tg u_sn u_ic u_wd u_id 0 0 u_wo u_va u_su u_st v_tp v_op v_ar h_u_td h_u_fr h_u_to h_u_bd h_u_nc h_u_co h_u_pd h_u_la h_u_bk h_u_ce h_u_ho h_u_wy h_u_bt h_u_ps h_u_ic h_u_id ⟨by decide, by decide⟩) (cwV 3 hts gV_X12_279 rfl rfl rfl hv_X12_leaf ⟨Nat.le_of_ble_eq_true rfl, Nat.le_of_ble_eq_true rfl⟩) (g5_preV hPc hK hDc hN hT hS hFc (ci := 12) (q0 := 0) rfl rfl) rfl rfl hl.1 rfl (lv_room (Nat.le_of_ble_eq_true rfl)) dX12_readPart_85 ⟨Nat.le_of_ble_eq_true rfl, Nat.le_of_ble_eq_true rfl⟩) hS (fun q _ h => hFc q h) hFc (fun u t H1 locs ht hvm hw hB hz1 hk1 hS => ?_)
                  obtain ⟨hP1, hD1⟩ := hB
                  rw [ht] at hP1
                  obtain rfl := hw
                  obtain ⟨hP, hD⟩ := va_join (wr := [(b_pi, (arI G 400 v_pi)), (b_pa, (arI G 400 v_pa)), (b_ws, (arJ G 8 v_ws))]) hP hD [5, 0, 1, 2] [3, 4, 6] rfl rfl (by decide) (by decide) hk1 hFc hP1 hD1
                  generalize H1 = H at hP hS ⊢
                  refine g5_rs [(b_pi, (arI G 400 v_pi)), (b_pa, (arI G 400 v_pa)), (b_ws, (arJ G 8 v_ws)), (b_o, (oc12 u_th u_sa b_rf b_ro b_im b_ke u_fd b_tp u_td u_fr u_to u_so u_wo u_fr 1 u_nc b_nl u_co b_op b_ar u_le b_pi b_pa u_pd u_od b_ws b_hw u_la b_se b_re u_bk u_va u_su u_ce u_ho u_wy u_bt u_ps b_pt u_tg u_sn b_ip u_ic b_ah b_be b_me u_wd b_tr b_ld u_st b_wn u_id)), (b_tp, (arI G 400 v_tp)), (b_op, (arI G 400 v_op)), (b_ar, (arI G 400 v_ar))] hP hD (fun hP hD => ?_)
                  refine lv_iconst (v := 3) hx hb dX12_readPart_88 (by decide) ?_
                  exact W.iret (v := 3) hx hb hr (fun t ht hW => ⟨⟨3, [(b_o, (oc12 u_th u_sa b_rf b_ro b_im b_ke u_fd b_tp u_td u_fr u_to u_so u_wo u_fr 1 u_nc b_nl u_co b_op b_ar u_le b_pi b_pa u_pd u_od b_ws b_hw u_la b_se b_re u_bk u_va u_su u_ce u_ho u_wy u_bt u_ps b_pt u_tg u_sn b_ip u_ic b_ah b_be b_me u_wd b_tr b_ld u_st b_wn u_id)), (b_tp, (arI G 400 v_tp)), (b_op, (arI G 400 v_op)), (b_ar, (arI G 400 v_ar)), (b_pi, (arI G 400 v_pi)), (b_pa, (arI G 400 v_pa)), (b_ws, (arJ G 8 v_ws))], rfl, Or.inl (⟨3, ⟨by have zc_o_r : (3 : Int32).toInt = 3 := (by decide); omega, by have zc_o_r : (3 : Int32).toInt = 3 := (by decide); omega⟩, rfl, rfl⟩), by rw [ht]; exact hP.sub [3, 4, 5, 6, 0, 1, 2] rfl, hD.sub [3, 4, 5, 6, 0, 1, 2] (by decide) rfl⟩, hS.F ht⟩) hS.2.2 dX12_readPart_89
                ·
                  exact absurd c_57 (by decide)
            ·
              exact absurd c_55 (by decide)
        ·
          have i_39 : (lg_cmp u_wo 1000).toInt ≤ 0 := by have z := g5_gtN (a := (lg_cmp u_wo 1000).toInt) (b := 0) (by rfl) (by decide) c_39; omega
          refine lv_iconst (v := 1) hx hb dX12_readPart_41 (by decide) ?_
          refine lv_goto (tgt := 46) hx hb dX12_readPart_42 (by decide) ?_
          refine lv_istore_n (lv' := [(2, .int 1), (1, .int z18), (0, .ref b_o)]) hx hb dX12_readPart_46 rfl hl (by decide) rfl (fun ls hl => ?_)
          refine lv_aload_n hx hb dX12_readPart_47 rfl (lv_at hl 2 rfl) ?_
          refine lv_iload_n hx hb dX12_readPart_48 rfl (lv_at hl 1 rfl) ?_
          refine lv_iconst (v := (-1)) hx hb dX12_readPart_49 (by decide) ?_
          refine lv_icmp_ne (tgt := 57) hx hb dX12_readPart_50 (by decide) (fun c_58 => ?_) (fun c_58 => ?_)
          ·
            have n_58 : gNe (z18.toInt) ((-1)) := by have z := g5_ne (a := z18.toInt) (b := (-1)) (by rfl) (by decide) c_58; unfold gNe; omega
            have i_58 : z18.toInt ≥ 0 := by have z := g5_ne (a := z18.toInt) (b := (-1)) (by rfl) (by decide) c_58; omega
            refine lv_iconst (v := 1) hx hb dX12_readPart_57 (by decide) ?_
            refine lv_goto (tgt := 62) hx hb dX12_readPart_58 (by decide) ?_
            refine lv_iload_n hx hb dX12_readPart_62 rfl (lv_at hl 1 rfl) ?_
            refine lv_iconst (v := (-1)) hx hb dX12_readPart_63 (by decide) ?_
            refine lv_icmp_ne (tgt := 71) hx hb dX12_readPart_64 (by decide) (fun c_59 => ?_) (fun c_59 => ?_)
            ·
              have n_59 : gNe (z18.toInt) ((-1)) := by have z := g5_ne (a := z18.toInt) (b := (-1)) (by rfl) (by decide) c_59; unfold gNe; omega
              refine lv_iload_n hx hb dX12_readPart_71 rfl (lv_at hl 1 rfl) ?_
              refine lv_iload_n hx hb dX12_readPart_72 rfl (lv_at hl 0 rfl) ?_
              refine lv_if_eq (tgt := 84) hx hb dX12_readPart_73 (by decide) (fun c_60 => ?_) (fun c_60 => ?_)
              ·
                exact absurd c_60 (by decide)
              ·
                refine lv_aload_n hx hb dX12_readPart_76 rfl (lv_at hl 2 rfl) ?_
                refine va_get (D := G.1) (ci := 12) (v := .long u_wo) (C := RX12) (T := TX12) (N := 52) hx hb hts inG_X12 hown hK hP 5 rfl rfl 12 (by decide) (hts _ fl_X12_214) (fun _ h9 => h9) rfl dX12_readPart_77 ?_
                refine lv_l2i (v := u_wo.toInt32) hx hb dX12_readPart_80 rfl ?_
                refine lv_goto (tgt := 85) hx hb dX12_readPart_81 (by decide) ?_
                have hlt9 : u_fr.toInt < u_to.toInt := tks_lt e_s (by omega)
                obtain ⟨hPc, hDc, hFc⟩ := g5_sub3 (wc := [(b_o, (oc12 u_th u_sa b_rf b_ro b_im b_ke u_fd b_tp u_td u_fr u_to u_so u_wo u_fa u_bd u_nc b_nl u_co b_op b_ar u_le b_pi b_pa u_pd u_od b_ws b_hw u_la b_se b_re u_bk u_va u_su u_ce u_ho u_wy u_bt u_ps b_pt u_tg u_sn b_ip u_ic b_ah b_be b_me u_wd b_tr b_ld u_st b_wn u_id)), (b_tp, (arI G 400 v_tp)), (b_op, (arI G 400 v_op)), (b_ar, (arI G 400 v_ar))]) hP hD hS hA [5, 0, 1, 2] (by decide) rfl
                refine va_callv (va_runV (As := [.int 1, .int z18, .int u_wo.toInt32]) (rest := []) ⟨hx, hb, hml, hown, hts⟩ (n_leaf1 l G b_o b_tp b_op b_ar b_rf b_ro b_im b_ke b_nl b_pi b_pa b_ws b_hw b_se b_re b_pt b_ip b_ah b_be b_me b_tr b_ld b_wn H.size u_th u_sa u_fd u_td u_fr u_to u_so u_fa u_bd u_nc u_co u_le u_pd u_od u_la u_bk u_ce u_ho u_wy u_bt u_ps u_tg u_sn u_ic u_wd u_id z18 u_wo.toInt32 u_wo u_va u_su u_st v_tp v_op v_ar h_u_td h_u_fr h_u_to h_u_bd h_u_nc h_u_co h_u_pd h_u_la h_u_bk h_u_ce h_u_ho h_u_wy h_u_bt h_u_ps h_u_ic h_u_id ⟨by omega, by omega⟩ (by omega) (by omega)) (cwV 3 hts gV_X12_279 rfl rfl rfl hv_X12_leaf ⟨Nat.le_of_ble_eq_true rfl, Nat.le_of_ble_eq_true rfl⟩) (g5_preV hPc hK hDc hN hT hS hFc (ci := 12) (q0 := 0) rfl rfl) rfl rfl hl.1 rfl (lv_room (Nat.le_of_ble_eq_true rfl)) dX12_readPart_85 ⟨Nat.le_of_ble_eq_true rfl, Nat.le_of_ble_eq_true rfl⟩) hS (fun q _ h => hFc q h) hFc (fun u t H1 locs ht hvm hw hB hz1 hk1 hS => ?_)
                obtain ⟨hP1, hD1⟩ := hB
                rw [ht] at hP1
                rcases hw with rfl | ⟨z67, z68, z69, z70, z71, z72, i_61, i_62, i_63, i_64, i_65, i_66, rfl⟩
                ·
                  obtain ⟨hP, hD⟩ := va_join (wr := [(b_pi, (arI G 400 v_pi)), (b_pa, (arI G 400 v_pa)), (b_ws, (arJ G 8 v_ws))]) hP hD [5, 0, 1, 2] [3, 4, 6] rfl rfl (by decide) (by decide) hk1 hFc hP1 hD1
                  generalize H1 = H at hP hS ⊢
                  refine g5_rs [(b_pi, (arI G 400 v_pi)), (b_pa, (arI G 400 v_pa)), (b_ws, (arJ G 8 v_ws)), (b_o, (oc12 u_th u_sa b_rf b_ro b_im b_ke u_fd b_tp u_td u_fr u_to u_so u_wo u_fr 1 u_nc b_nl u_co b_op b_ar u_le b_pi b_pa u_pd u_od b_ws b_hw u_la b_se b_re u_bk u_va u_su u_ce u_ho u_wy u_bt u_ps b_pt u_tg u_sn b_ip u_ic b_ah b_be b_me u_wd b_tr b_ld u_st b_wn u_id)), (b_tp, (arI G 400 v_tp)), (b_op, (arI G 400 v_op)), (b_ar, (arI G 400 v_ar))] hP hD (fun hP hD => ?_)
                  refine lv_iconst (v := 3) hx hb dX12_readPart_88 (by decide) ?_
                  exact W.iret (v := 3) hx hb hr (fun t ht hW => ⟨⟨3, [(b_o, (oc12 u_th u_sa b_rf b_ro b_im b_ke u_fd b_tp u_td u_fr u_to u_so u_wo u_fr 1 u_nc b_nl u_co b_op b_ar u_le b_pi b_pa u_pd u_od b_ws b_hw u_la b_se b_re u_bk u_va u_su u_ce u_ho u_wy u_bt u_ps b_pt u_tg u_sn b_ip u_ic b_ah b_be b_me u_wd b_tr b_ld u_st b_wn u_id)), (b_tp, (arI G 400 v_tp)), (b_op, (arI G 400 v_op)), (b_ar, (arI G 400 v_ar)), (b_pi, (arI G 400 v_pi)), (b_pa, (arI G 400 v_pa)), (b_ws, (arJ G 8 v_ws))], rfl, Or.inl (⟨3, ⟨by have zc_o_r : (3 : Int32).toInt = 3 := (by decide); omega, by have zc_o_r : (3 : Int32).toInt = 3 := (by decide); omega⟩, rfl, rfl⟩), by rw [ht]; exact hP.sub [3, 4, 5, 6, 0, 1, 2] rfl, hD.sub [3, 4, 5, 6, 0, 1, 2] (by decide) rfl⟩, hS.F ht⟩) hS.2.2 dX12_readPart_89
                ·
                  have i_61 : 0 ≤ z67.toInt ∧ z67.toInt ≤ 400 := i_61
                  have i_62 : 0 ≤ z68.toInt ∧ z68.toInt ≤ 400 := i_62
                  have i_63 : 0 ≤ z71.toInt ∧ z71.toInt ≤ 400 := i_63
                  have i_64 : u_to.toInt ≤ z67.toInt ∧ z67.toInt ≤ z68.toInt ∧ z68.toInt ≤ u_td.toInt := i_64
                  have i_65 : TKs z69.toInt z67.toInt z68.toInt := i_65
                  have i_66 : z71.toInt = u_co.toInt + 1 := i_66
                  obtain ⟨hP, hD⟩ := va_join (wr := [(b_pi, (arI G 400 v_pi)), (b_pa, (arI G 400 v_pa)), (b_ws, (arJ G 8 v_ws))]) hP hD [5, 0, 1, 2] [3, 4, 6] rfl rfl (by decide) (by decide) hk1 hFc hP1 hD1
                  generalize H1 = H at hP hS ⊢
                  refine g5_rs [(b_pi, (arI G 400 v_pi)), (b_pa, (arI G 400 v_pa)), (b_ws, (arJ G 8 v_ws)), (b_o, (oc12 u_th u_sa b_rf b_ro b_im b_ke u_fd b_tp u_td z67 z68 z69 z70 u_fa u_bd u_nc b_nl z71 b_op b_ar z72 b_pi b_pa u_pd u_od b_ws b_hw u_la b_se b_re u_bk u_va u_su u_ce u_ho u_wy u_bt u_ps b_pt u_tg u_sn b_ip u_ic b_ah b_be b_me u_wd b_tr b_ld u_st b_wn u_id)), (b_tp, (arI G 400 v_tp)), (b_op, (arI G 400 (upd v_op u_co.toNatClampNeg z18))), (b_ar, (arI G 400 (upd v_ar u_co.toNatClampNeg u_wo.toInt32)))] hP hD (fun hP hD => ?_)
                  refine lv_iconst (v := 3) hx hb dX12_readPart_88 (by decide) ?_
                  exact W.iret (v := 3) hx hb hr (fun t ht hW => ⟨⟨3, [(b_o, (oc12 u_th u_sa b_rf b_ro b_im b_ke u_fd b_tp u_td z67 z68 z69 z70 u_fa u_bd u_nc b_nl z71 b_op b_ar z72 b_pi b_pa u_pd u_od b_ws b_hw u_la b_se b_re u_bk u_va u_su u_ce u_ho u_wy u_bt u_ps b_pt u_tg u_sn b_ip u_ic b_ah b_be b_me u_wd b_tr b_ld u_st b_wn u_id)), (b_tp, (arI G 400 v_tp)), (b_op, (arI G 400 (upd v_op u_co.toNatClampNeg z18))), (b_ar, (arI G 400 (upd v_ar u_co.toNatClampNeg u_wo.toInt32))), (b_pi, (arI G 400 v_pi)), (b_pa, (arI G 400 v_pa)), (b_ws, (arJ G 8 v_ws))], rfl, Or.inr (⟨3, z67, z68, z69, z70, z71, z72, u_pd, u_od, (upd v_op u_co.toNatClampNeg z18), (upd v_ar u_co.toNatClampNeg u_wo.toInt32), v_pi, v_pa, i_61, i_62, i_63, h_u_pd, ⟨by have zc_o_r : (3 : Int32).toInt = 3 := (by decide); omega, by have zc_o_r : (3 : Int32).toInt = 3 := (by decide); omega⟩, by omega, i_65, xj_emit e_x (by omega) (by omega), tj_3 (hj_leaf e_x (tj_d0 e_j (Or.inr rfl)) (by omega) ⟨by omega, by omega⟩) (by decide), by have w9 := (twt_3 (by decide) : twt (3 : Int32).toInt = 2); omega, rfl, rfl⟩), by rw [ht]; exact hP.sub [3, 4, 5, 6, 0, 1, 2] rfl, hD.sub [3, 4, 5, 6, 0, 1, 2] (by decide) rfl⟩, hS.F ht⟩) hS.2.2 dX12_readPart_89
            ·
              have i_59 : z18.toInt = (-1) := by have z := g5_neN (a := z18.toInt) (b := (-1)) (by rfl) (by decide) c_59; omega
              omega
          ·
            have i_58 : z18.toInt = (-1) := by have z := g5_neN (a := z18.toInt) (b := (-1)) (by rfl) (by decide) c_58; omega
            refine lv_iload_n hx hb dX12_readPart_53 rfl (lv_at hl 0 rfl) ?_
            refine lv_if_eq (tgt := 61) hx hb dX12_readPart_54 (by decide) (fun c_73 => ?_) (fun c_73 => ?_)
            ·
              exact absurd c_73 (by decide)
            ·
              refine lv_iconst (v := 1) hx hb dX12_readPart_57 (by decide) ?_
              refine lv_goto (tgt := 62) hx hb dX12_readPart_58 (by decide) ?_
              refine lv_iload_n hx hb dX12_readPart_62 rfl (lv_at hl 1 rfl) ?_
              refine lv_iconst (v := (-1)) hx hb dX12_readPart_63 (by decide) ?_
              refine lv_icmp_ne (tgt := 71) hx hb dX12_readPart_64 (by decide) (fun c_74 => ?_) (fun c_74 => ?_)
              ·
                have i_74 : z18.toInt ≠ (-1) := by have z := g5_ne (a := z18.toInt) (b := (-1)) (by rfl) (by decide) c_74; omega
                omega
              ·
                have i_74 : z18.toInt = (-1) := by have z := g5_neN (a := z18.toInt) (b := (-1)) (by rfl) (by decide) c_74; omega
                refine lv_iconst (v := 0) hx hb dX12_readPart_67 (by decide) ?_
                refine lv_goto (tgt := 72) hx hb dX12_readPart_68 (by decide) ?_
                refine lv_iload_n hx hb dX12_readPart_72 rfl (lv_at hl 0 rfl) ?_
                refine lv_if_eq (tgt := 84) hx hb dX12_readPart_73 (by decide) (fun c_75 => ?_) (fun c_75 => ?_)
                ·
                  exact absurd c_75 (by decide)
                ·
                  refine lv_aload_n hx hb dX12_readPart_76 rfl (lv_at hl 2 rfl) ?_
                  refine va_get (D := G.1) (ci := 12) (v := .long u_wo) (C := RX12) (T := TX12) (N := 52) hx hb hts inG_X12 hown hK hP 5 rfl rfl 12 (by decide) (hts _ fl_X12_214) (fun _ h9 => h9) rfl dX12_readPart_77 ?_
                  refine lv_l2i (v := u_wo.toInt32) hx hb dX12_readPart_80 rfl ?_
                  refine lv_goto (tgt := 85) hx hb dX12_readPart_81 (by decide) ?_
                  have hlt9 : u_fr.toInt < u_to.toInt := tks_lt e_s (by omega)
                  obtain ⟨hPc, hDc, hFc⟩ := g5_sub3 (wc := [(b_o, (oc12 u_th u_sa b_rf b_ro b_im b_ke u_fd b_tp u_td u_fr u_to u_so u_wo u_fa u_bd u_nc b_nl u_co b_op b_ar u_le b_pi b_pa u_pd u_od b_ws b_hw u_la b_se b_re u_bk u_va u_su u_ce u_ho u_wy u_bt u_ps b_pt u_tg u_sn b_ip u_ic b_ah b_be b_me u_wd b_tr b_ld u_st b_wn u_id)), (b_tp, (arI G 400 v_tp)), (b_op, (arI G 400 v_op)), (b_ar, (arI G 400 v_ar))]) hP hD hS hA [5, 0, 1, 2] (by decide) rfl
                  refine va_callv (va_runV (As := [.int 1, .int 0, .int u_wo.toInt32]) (rest := []) ⟨hx, hb, hml, hown, hts⟩ (n_leaf1 l G b_o b_tp b_op b_ar b_rf b_ro b_im b_ke b_nl b_pi b_pa b_ws b_hw b_se b_re b_pt b_ip b_ah b_be b_me b_tr b_ld b_wn H.size u_th u_sa u_fd u_td u_fr u_to u_so u_fa u_bd u_nc u_co u_le u_pd u_od u_la u_bk u_ce u_ho u_wy u_bt u_ps u_tg u_sn u_ic u_wd u_id 0 u_wo.toInt32 u_wo u_va u_su u_st v_tp v_op v_ar h_u_td h_u_fr h_u_to h_u_bd h_u_nc h_u_co h_u_pd h_u_la h_u_bk h_u_ce h_u_ho h_u_wy h_u_bt h_u_ps h_u_ic h_u_id ⟨by decide, by decide⟩ (by omega) (by omega)) (cwV 3 hts gV_X12_279 rfl rfl rfl hv_X12_leaf ⟨Nat.le_of_ble_eq_true rfl, Nat.le_of_ble_eq_true rfl⟩) (g5_preV hPc hK hDc hN hT hS hFc (ci := 12) (q0 := 0) rfl rfl) rfl rfl hl.1 rfl (lv_room (Nat.le_of_ble_eq_true rfl)) dX12_readPart_85 ⟨Nat.le_of_ble_eq_true rfl, Nat.le_of_ble_eq_true rfl⟩) hS (fun q _ h => hFc q h) hFc (fun u t H1 locs ht hvm hw hB hz1 hk1 hS => ?_)
                  obtain ⟨hP1, hD1⟩ := hB
                  rw [ht] at hP1
                  rcases hw with rfl | ⟨z82, z83, z84, z85, z86, z87, i_76, i_77, i_78, i_79, i_80, i_81, rfl⟩
                  ·
                    obtain ⟨hP, hD⟩ := va_join (wr := [(b_pi, (arI G 400 v_pi)), (b_pa, (arI G 400 v_pa)), (b_ws, (arJ G 8 v_ws))]) hP hD [5, 0, 1, 2] [3, 4, 6] rfl rfl (by decide) (by decide) hk1 hFc hP1 hD1
                    generalize H1 = H at hP hS ⊢
                    refine g5_rs [(b_pi, (arI G 400 v_pi)), (b_pa, (arI G 400 v_pa)), (b_ws, (arJ G 8 v_ws)), (b_o, (oc12 u_th u_sa b_rf b_ro b_im b_ke u_fd b_tp u_td u_fr u_to u_so u_wo u_fr 1 u_nc b_nl u_co b_op b_ar u_le b_pi b_pa u_pd u_od b_ws b_hw u_la b_se b_re u_bk u_va u_su u_ce u_ho u_wy u_bt u_ps b_pt u_tg u_sn b_ip u_ic b_ah b_be b_me u_wd b_tr b_ld u_st b_wn u_id)), (b_tp, (arI G 400 v_tp)), (b_op, (arI G 400 v_op)), (b_ar, (arI G 400 v_ar))] hP hD (fun hP hD => ?_)
                    refine lv_iconst (v := 3) hx hb dX12_readPart_88 (by decide) ?_
                    exact W.iret (v := 3) hx hb hr (fun t ht hW => ⟨⟨3, [(b_o, (oc12 u_th u_sa b_rf b_ro b_im b_ke u_fd b_tp u_td u_fr u_to u_so u_wo u_fr 1 u_nc b_nl u_co b_op b_ar u_le b_pi b_pa u_pd u_od b_ws b_hw u_la b_se b_re u_bk u_va u_su u_ce u_ho u_wy u_bt u_ps b_pt u_tg u_sn b_ip u_ic b_ah b_be b_me u_wd b_tr b_ld u_st b_wn u_id)), (b_tp, (arI G 400 v_tp)), (b_op, (arI G 400 v_op)), (b_ar, (arI G 400 v_ar)), (b_pi, (arI G 400 v_pi)), (b_pa, (arI G 400 v_pa)), (b_ws, (arJ G 8 v_ws))], rfl, Or.inl (⟨3, ⟨by have zc_o_r : (3 : Int32).toInt = 3 := (by decide); omega, by have zc_o_r : (3 : Int32).toInt = 3 := (by decide); omega⟩, rfl, rfl⟩), by rw [ht]; exact hP.sub [3, 4, 5, 6, 0, 1, 2] rfl, hD.sub [3, 4, 5, 6, 0, 1, 2] (by decide) rfl⟩, hS.F ht⟩) hS.2.2 dX12_readPart_89
                  ·
                    have i_76 : 0 ≤ z82.toInt ∧ z82.toInt ≤ 400 := i_76
                    have i_77 : 0 ≤ z83.toInt ∧ z83.toInt ≤ 400 := i_77
                    have i_78 : 0 ≤ z86.toInt ∧ z86.toInt ≤ 400 := i_78
                    have i_79 : u_to.toInt ≤ z82.toInt ∧ z82.toInt ≤ z83.toInt ∧ z83.toInt ≤ u_td.toInt := i_79
                    have i_80 : TKs z84.toInt z82.toInt z83.toInt := i_80
                    have i_81 : z86.toInt = u_co.toInt + 1 := i_81
                    obtain ⟨hP, hD⟩ := va_join (wr := [(b_pi, (arI G 400 v_pi)), (b_pa, (arI G 400 v_pa)), (b_ws, (arJ G 8 v_ws))]) hP hD [5, 0, 1, 2] [3, 4, 6] rfl rfl (by decide) (by decide) hk1 hFc hP1 hD1
                    generalize H1 = H at hP hS ⊢
                    refine g5_rs [(b_pi, (arI G 400 v_pi)), (b_pa, (arI G 400 v_pa)), (b_ws, (arJ G 8 v_ws)), (b_o, (oc12 u_th u_sa b_rf b_ro b_im b_ke u_fd b_tp u_td z82 z83 z84 z85 u_fa u_bd u_nc b_nl z86 b_op b_ar z87 b_pi b_pa u_pd u_od b_ws b_hw u_la b_se b_re u_bk u_va u_su u_ce u_ho u_wy u_bt u_ps b_pt u_tg u_sn b_ip u_ic b_ah b_be b_me u_wd b_tr b_ld u_st b_wn u_id)), (b_tp, (arI G 400 v_tp)), (b_op, (arI G 400 (upd v_op u_co.toNatClampNeg 0))), (b_ar, (arI G 400 (upd v_ar u_co.toNatClampNeg u_wo.toInt32)))] hP hD (fun hP hD => ?_)
                    refine lv_iconst (v := 3) hx hb dX12_readPart_88 (by decide) ?_
                    exact W.iret (v := 3) hx hb hr (fun t ht hW => ⟨⟨3, [(b_o, (oc12 u_th u_sa b_rf b_ro b_im b_ke u_fd b_tp u_td z82 z83 z84 z85 u_fa u_bd u_nc b_nl z86 b_op b_ar z87 b_pi b_pa u_pd u_od b_ws b_hw u_la b_se b_re u_bk u_va u_su u_ce u_ho u_wy u_bt u_ps b_pt u_tg u_sn b_ip u_ic b_ah b_be b_me u_wd b_tr b_ld u_st b_wn u_id)), (b_tp, (arI G 400 v_tp)), (b_op, (arI G 400 (upd v_op u_co.toNatClampNeg 0))), (b_ar, (arI G 400 (upd v_ar u_co.toNatClampNeg u_wo.toInt32))), (b_pi, (arI G 400 v_pi)), (b_pa, (arI G 400 v_pa)), (b_ws, (arJ G 8 v_ws))], rfl, Or.inr (⟨3, z82, z83, z84, z85, z86, z87, u_pd, u_od, (upd v_op u_co.toNatClampNeg 0), (upd v_ar u_co.toNatClampNeg u_wo.toInt32), v_pi, v_pa, i_76, i_77, i_78, h_u_pd, ⟨by have zc_o_r : (3 : Int32).toInt = 3 := (by decide); omega, by have zc_o_r : (3 : Int32).toInt = 3 := (by decide); omega⟩, by omega, i_80, xj_emit e_x (by omega) (by omega), tj_3 (hj_leaf e_x (tj_d0 e_j (Or.inr rfl)) (by omega) ⟨by decide, by decide⟩) (by decide), by have w9 := (twt_3 (by decide) : twt (3 : Int32).toInt = 2); omega, rfl, rfl⟩), by rw [ht]; exact hP.sub [3, 4, 5, 6, 0, 1, 2] rfl, hD.sub [3, 4, 5, 6, 0, 1, 2] (by decide) rfl⟩, hS.F ht⟩) hS.2.2 dX12_readPart_89
    ·
      exact absurd c_15 (by decide)
theorem dgX12_readPlain_0 : ∀ r ∈ ([(0, (.aload_n 0, 1)), (1, (.ldc2_w 283, 3)), (4, (.invokevirtual 254, 3)), (7, (.ifCond .eq 16, 3)), (10, (.aload_n 0, 1)), (11, (.bipush 27, 2)), (13, (.iconst 0, 1)), (14, (.invokevirtual 261, 3)), (17, (.aload_n 0, 1)), (18, (.invokevirtual 208, 3)), (21, (.iconst 0, 1)), (22, (.ireturn, 1)), (23, (.aload_n 0, 1)), (24, (.bipush 40, 2)), (26, (.invokevirtual 267, 3)), (29, (.ifCond .eq 11, 3)), (32, (.aload_n 0, 1)), (33, (.bipush 30, 2)), (35, (.invokevirtual 270, 3)), (38, (.iconst 0, 1)), (39, (.ireturn, 1)), (40, (.aload_n 0, 1)), (41, (.invokevirtual 285, 3)), (44, (.ireturn, 1))] : List (Nat × (Instr × Nat))), decode cX12_readPlain r.1 = .ok r.2 := by decide +kernel
theorem dX12_readPlain_0 : decode cX12_readPlain 0 = .ok (.aload_n 0, 1) := dgX12_readPlain_0 (0, (.aload_n 0, 1)) (List.mem_of_getElem? (i := 0) rfl)
theorem dX12_readPlain_1 : decode cX12_readPlain 1 = .ok (.ldc2_w 283, 3) := dgX12_readPlain_0 (1, (.ldc2_w 283, 3)) (List.mem_of_getElem? (i := 1) rfl)
theorem dX12_readPlain_4 : decode cX12_readPlain 4 = .ok (.invokevirtual 254, 3) := dgX12_readPlain_0 (4, (.invokevirtual 254, 3)) (List.mem_of_getElem? (i := 2) rfl)
theorem dX12_readPlain_7 : decode cX12_readPlain 7 = .ok (.ifCond .eq 16, 3) := dgX12_readPlain_0 (7, (.ifCond .eq 16, 3)) (List.mem_of_getElem? (i := 3) rfl)
theorem dX12_readPlain_10 : decode cX12_readPlain 10 = .ok (.aload_n 0, 1) := dgX12_readPlain_0 (10, (.aload_n 0, 1)) (List.mem_of_getElem? (i := 4) rfl)
theorem dX12_readPlain_11 : decode cX12_readPlain 11 = .ok (.bipush 27, 2) := dgX12_readPlain_0 (11, (.bipush 27, 2)) (List.mem_of_getElem? (i := 5) rfl)
theorem dX12_readPlain_13 : decode cX12_readPlain 13 = .ok (.iconst 0, 1) := dgX12_readPlain_0 (13, (.iconst 0, 1)) (List.mem_of_getElem? (i := 6) rfl)
theorem dX12_readPlain_14 : decode cX12_readPlain 14 = .ok (.invokevirtual 261, 3) := dgX12_readPlain_0 (14, (.invokevirtual 261, 3)) (List.mem_of_getElem? (i := 7) rfl)
theorem dX12_readPlain_17 : decode cX12_readPlain 17 = .ok (.aload_n 0, 1) := dgX12_readPlain_0 (17, (.aload_n 0, 1)) (List.mem_of_getElem? (i := 8) rfl)
theorem dX12_readPlain_18 : decode cX12_readPlain 18 = .ok (.invokevirtual 208, 3) := dgX12_readPlain_0 (18, (.invokevirtual 208, 3)) (List.mem_of_getElem? (i := 9) rfl)
theorem dX12_readPlain_21 : decode cX12_readPlain 21 = .ok (.iconst 0, 1) := dgX12_readPlain_0 (21, (.iconst 0, 1)) (List.mem_of_getElem? (i := 10) rfl)
theorem dX12_readPlain_22 : decode cX12_readPlain 22 = .ok (.ireturn, 1) := dgX12_readPlain_0 (22, (.ireturn, 1)) (List.mem_of_getElem? (i := 11) rfl)
theorem dX12_readPlain_23 : decode cX12_readPlain 23 = .ok (.aload_n 0, 1) := dgX12_readPlain_0 (23, (.aload_n 0, 1)) (List.mem_of_getElem? (i := 12) rfl)
theorem dX12_readPlain_24 : decode cX12_readPlain 24 = .ok (.bipush 40, 2) := dgX12_readPlain_0 (24, (.bipush 40, 2)) (List.mem_of_getElem? (i := 13) rfl)
theorem dX12_readPlain_26 : decode cX12_readPlain 26 = .ok (.invokevirtual 267, 3) := dgX12_readPlain_0 (26, (.invokevirtual 267, 3)) (List.mem_of_getElem? (i := 14) rfl)
theorem dX12_readPlain_29 : decode cX12_readPlain 29 = .ok (.ifCond .eq 11, 3) := dgX12_readPlain_0 (29, (.ifCond .eq 11, 3)) (List.mem_of_getElem? (i := 15) rfl)
theorem dX12_readPlain_32 : decode cX12_readPlain 32 = .ok (.aload_n 0, 1) := dgX12_readPlain_0 (32, (.aload_n 0, 1)) (List.mem_of_getElem? (i := 16) rfl)
theorem dX12_readPlain_33 : decode cX12_readPlain 33 = .ok (.bipush 30, 2) := dgX12_readPlain_0 (33, (.bipush 30, 2)) (List.mem_of_getElem? (i := 17) rfl)
theorem dX12_readPlain_35 : decode cX12_readPlain 35 = .ok (.invokevirtual 270, 3) := dgX12_readPlain_0 (35, (.invokevirtual 270, 3)) (List.mem_of_getElem? (i := 18) rfl)
theorem dX12_readPlain_38 : decode cX12_readPlain 38 = .ok (.iconst 0, 1) := dgX12_readPlain_0 (38, (.iconst 0, 1)) (List.mem_of_getElem? (i := 19) rfl)
theorem dX12_readPlain_39 : decode cX12_readPlain 39 = .ok (.ireturn, 1) := dgX12_readPlain_0 (39, (.ireturn, 1)) (List.mem_of_getElem? (i := 20) rfl)
theorem dX12_readPlain_40 : decode cX12_readPlain 40 = .ok (.aload_n 0, 1) := dgX12_readPlain_0 (40, (.aload_n 0, 1)) (List.mem_of_getElem? (i := 21) rfl)
theorem dX12_readPlain_41 : decode cX12_readPlain 41 = .ok (.invokevirtual 285, 3) := dgX12_readPlain_0 (41, (.invokevirtual 285, 3)) (List.mem_of_getElem? (i := 22) rfl)
theorem dX12_readPlain_44 : decode cX12_readPlain 44 = .ok (.ireturn, 1) := dgX12_readPlain_0 (44, (.ireturn, 1)) (List.mem_of_getElem? (i := 23) rfl)
theorem kl_X12_283 : Cond.constantLong RX12 283 14836 ∈ tblG := tg 1537 (by decide +kernel) (by decide +kernel)
theorem ml_X12_285 : Cond.methodLink RX12 285 yX12_readPart ∈ tblG := tg 1550 (by decide +kernel) (by decide +kernel)
theorem im_X12_readPart : Cond.instanceMethod yX12_readPart ∈ tblG := tg 1552 (by decide +kernel) (by decide +kernel)
theorem se_X12_readPart : Cond.selects RX12 yX12_readPart yX12_readPart ∈ tblG := tg 53 (by decide +kernel) (by decide +kernel)
theorem cd_X12_readPart : Cond.code yX12_readPart cX12_readPart 3 (some .int) ∈ tblG := tg 1553 (by decide +kernel) (by decide +kernel)
theorem gW_X12_readPart : GoodIn tblG (wsG yX12_readPart cX12_readPart 3 (some .int)) := tgi cd_X12_readPart
theorem gV_X12_285 : GoodIn tblG (wsV RX12 285 RX12 yX12_readPart (wsG yX12_readPart cX12_readPart 3 (some .int))) := tgV ml_X12_285 im_X12_readPart se_X12_readPart ini_X12 gW_X12_readPart
theorem hv_X12_readPart : yX12_readPart.cls = RX12 ∧ yX12_readPart.cls ≠ "java/lang/invoke/MethodHandle" ∧ yX12_readPart.cls ≠ "java/lang/invoke/VarHandle" ∧ (parseMethodDescriptor yX12_readPart.desc).map (fun d => d.parameters.length) = some 0 := by decide +kernel
set_option maxHeartbeats 4000000 in
set_option maxRecDepth 100000 in
theorem n_readPlain (l : Launch) (G : g5_G) (b_o b_tp b_op b_ar b_pi b_pa b_ws b_rf b_ro b_im b_ke b_nl b_hw b_se b_re b_pt b_ip b_ah b_be b_me b_tr b_ld b_wn : Nat) (sz : Nat) (u_th : Int32) (u_sa : Int32) (u_fd : Int32) (u_td : Int32) (u_fr : Int32) (u_to : Int32) (u_so : Int32) (u_fa : Int32) (u_bd : Int32) (u_nc : Int32) (u_co : Int32) (u_le : Int32) (u_pd : Int32) (u_od : Int32) (u_la : Int32) (u_bk : Int32) (u_ce : Int32) (u_ho : Int32) (u_wy : Int32) (u_bt : Int32) (u_ps : Int32) (u_tg : Int32) (u_sn : Int32) (u_ic : Int32) (u_wd : Int32) (u_id : Int32) (g_a : Int32) (u_wo : Int64) (u_va : Int64) (u_su : Int64) (u_st : Int64) (v_tp : Nat → Int32) (v_op : Nat → Int32) (v_ar : Nat → Int32) (v_pi : Nat → Int32) (v_pa : Nat → Int32) (v_ws : Nat → Int64) (g_op : Nat → Int32) (g_ar : Nat → Int32) (h_u_td : 0 ≤ u_td.toInt ∧ u_td.toInt ≤ 400) (h_u_fr : 0 ≤ u_fr.toInt ∧ u_fr.toInt ≤ 400) (h_u_to : 0 ≤ u_to.toInt ∧ u_to.toInt ≤ 400) (h_u_bd : 0 ≤ u_bd.toInt ∧ u_bd.toInt ≤ 0) (h_u_nc : 0 ≤ u_nc.toInt ∧ u_nc.toInt ≤ 12) (h_u_co : 0 ≤ u_co.toInt ∧ u_co.toInt ≤ 400) (h_u_pd : 0 ≤ u_pd.toInt ∧ u_pd.toInt ≤ 400) (h_u_la : 0 ≤ u_la.toInt ∧ u_la.toInt ≤ 4840) (h_u_bk : 0 ≤ u_bk.toInt ∧ u_bk.toInt ≤ 1) (h_u_ce : 0 ≤ u_ce.toInt ∧ u_ce.toInt ≤ 63) (h_u_ho : 0 ≤ u_ho.toInt ∧ u_ho.toInt ≤ 23) (h_u_wy : 0 ≤ u_wy.toInt ∧ u_wy.toInt ≤ 3) (h_u_bt : 0 ≤ u_bt.toInt ∧ u_bt.toInt ≤ 1000000) (h_u_ps : 0 ≤ u_ps.toInt ∧ u_ps.toInt ≤ 200) (h_u_ic : 0 ≤ u_ic.toInt ∧ u_ic.toInt ≤ 1) (h_u_id : 0 ≤ u_id.toInt ∧ u_id.toInt ≤ 1) (e_t : u_fr.toInt ≤ u_to.toInt ∧ u_to.toInt ≤ u_td.toInt) (e_s : TKs u_so.toInt u_fr.toInt u_to.toInt) (e_x : XJ g_op g_ar v_op v_ar v_pi v_pa g_a.toInt u_co.toInt u_pd.toInt u_fr.toInt) (e_j : TJ v_op v_ar v_pi v_pa g_a.toInt u_co.toInt u_pd.toInt 0) : Met l yX12_readPlain (wsG yX12_readPlain cX12_readPlain 1 (some .int)) ({ frames := 5, cells := 0, slots := 0, locals := 106 }) (va_Pc [.ref b_o] (g5_P G [(b_o, (oc12 u_th u_sa b_rf b_ro b_im b_ke u_fd b_tp u_td u_fr u_to u_so u_wo u_fa u_bd u_nc b_nl u_co b_op b_ar u_le b_pi b_pa u_pd u_od b_ws b_hw u_la b_se b_re u_bk u_va u_su u_ce u_ho u_wy u_bt u_ps b_pt u_tg u_sn b_ip u_ic b_ah b_be b_me u_wd b_tr b_ld u_st b_wn u_id)), (b_tp, (arI G 400 v_tp)), (b_op, (arI G 400 v_op)), (b_ar, (arI G 400 v_ar)), (b_pi, (arI G 400 v_pi)), (b_pa, (arI G 400 v_pa)), (b_ws, (arJ G 8 v_ws))] sz)) (va_Qi (fun (r : Int32) (u : va_W) => (∃ (o_r : Int32), (0 ≤ o_r.toInt ∧ o_r.toInt ≤ 4) ∧ (r = o_r) ∧ (u = [(b_o, (oc12 u_th u_sa b_rf b_ro b_im b_ke u_fd b_tp u_td u_fr u_to u_so u_wo u_fr 1 u_nc b_nl u_co b_op b_ar u_le b_pi b_pa u_pd u_od b_ws b_hw u_la b_se b_re u_bk u_va u_su u_ce u_ho u_wy u_bt u_ps b_pt u_tg u_sn b_ip u_ic b_ah b_be b_me u_wd b_tr b_ld u_st b_wn u_id)), (b_tp, (arI G 400 v_tp)), (b_op, (arI G 400 v_op)), (b_ar, (arI G 400 v_ar)), (b_pi, (arI G 400 v_pi)), (b_pa, (arI G 400 v_pa)), (b_ws, (arJ G 8 v_ws))])) ∨ (∃ (o_r : Int32) (o_fr : Int32) (o_to : Int32) (o_so : Int32) (o_wo : Int64) (o_co : Int32) (o_le : Int32) (o_pd : Int32) (o_od : Int32) (o_op : Nat → Int32) (o_ar : Nat → Int32) (o_pi : Nat → Int32) (o_pa : Nat → Int32), (0 ≤ o_fr.toInt ∧ o_fr.toInt ≤ 400) ∧ (0 ≤ o_to.toInt ∧ o_to.toInt ≤ 400) ∧ (0 ≤ o_co.toInt ∧ o_co.toInt ≤ 400) ∧ (0 ≤ o_pd.toInt ∧ o_pd.toInt ≤ 400) ∧ (0 ≤ o_r.toInt ∧ o_r.toInt ≤ 4) ∧ (u_fr.toInt ≤ o_fr.toInt ∧ o_fr.toInt ≤ o_to.toInt ∧ o_to.toInt ≤ u_td.toInt) ∧ (TKs o_so.toInt o_fr.toInt o_to.toInt) ∧ (XJ g_op g_ar o_op o_ar o_pi o_pa g_a.toInt o_co.toInt o_pd.toInt o_fr.toInt) ∧ (TJ o_op o_ar o_pi o_pa g_a.toInt o_co.toInt o_pd.toInt o_r.toInt) ∧ (twt o_r.toInt + 1 ≤ 0 + 3 * (o_fr.toInt - u_fr.toInt)) ∧ (r = o_r) ∧ (u = [(b_o, (oc12 u_th u_sa b_rf b_ro b_im b_ke u_fd b_tp u_td o_fr o_to o_so o_wo u_fa u_bd u_nc b_nl o_co b_op b_ar o_le b_pi b_pa o_pd o_od b_ws b_hw u_la b_se b_re u_bk u_va u_su u_ce u_ho u_wy u_bt u_ps b_pt u_tg u_sn b_ip u_ic b_ah b_be b_me u_wd b_tr b_ld u_st b_wn u_id)), (b_tp, (arI G 400 v_tp)), (b_op, (arI G 400 o_op)), (b_ar, (arI G 400 o_ar)), (b_pi, (arI G 400 o_pi)), (b_pa, (arI G 400 o_pa)), (b_ws, (arJ G 8 v_ws))]))) (g5_B G (va_A [(b_o, (oc12 u_th u_sa b_rf b_ro b_im b_ke u_fd b_tp u_td u_fr u_to u_so u_wo u_fa u_bd u_nc b_nl u_co b_op b_ar u_le b_pi b_pa u_pd u_od b_ws b_hw u_la b_se b_re u_bk u_va u_su u_ce u_ho u_wy u_bt u_ps b_pt u_tg u_sn b_ip u_ic b_ah b_be b_me u_wd b_tr b_ld u_st b_wn u_id)), (b_tp, (arI G 400 v_tp)), (b_op, (arI G 400 v_op)), (b_ar, (arI G 400 v_ar)), (b_pi, (arI G 400 v_pi)), (b_pa, (arI G 400 v_pa)), (b_ws, (arJ G 8 v_ws))] sz)) (va_A [(b_o, (oc12 u_th u_sa b_rf b_ro b_im b_ke u_fd b_tp u_td u_fr u_to u_so u_wo u_fa u_bd u_nc b_nl u_co b_op b_ar u_le b_pi b_pa u_pd u_od b_ws b_hw u_la b_se b_re u_bk u_va u_su u_ce u_ho u_wy u_bt u_ps b_pt u_tg u_sn b_ip u_ic b_ah b_be b_me u_wd b_tr b_ld u_st b_wn u_id)), (b_tp, (arI G 400 v_tp)), (b_op, (arI G 400 v_op)), (b_ar, (arI G 400 v_ar)), (b_pi, (arI G 400 v_pi)), (b_pa, (arI G 400 v_pa)), (b_ws, (arJ G 8 v_ws))] sz)) 0 0 (va_A [(b_o, (oc12 u_th u_sa b_rf b_ro b_im b_ke u_fd b_tp u_td u_fr u_to u_so u_wo u_fa u_bd u_nc b_nl u_co b_op b_ar u_le b_pi b_pa u_pd u_od b_ws b_hw u_la b_se b_re u_bk u_va u_su u_ce u_ho u_wy u_bt u_ps b_pt u_tg u_sn b_ip u_ic b_ah b_be b_me u_wd b_tr b_ld u_st b_wn u_id)), (b_tp, (arI G 400 v_tp)), (b_op, (arI G 400 v_op)), (b_ar, (arI G 400 v_ar)), (b_pi, (arI G 400 v_pi)), (b_pa, (arI G 400 v_pa)), (b_ws, (arJ G 8 v_ws))] sz) := by
  refine Met.ofW (cc := cX12_readPlain) (maxL := 1) (ret := (some .int)) (by decide) rfl ?_
  intro p e s m args below meth c s₁ B hml hv
  obtain ⟨rfl, hsz, hP, hK, hD0, hN, hT⟩ := hv
  have hx := B.exec
  have hb := B.bytes
  have hr := B.returns
  have hts : ∀ w ∈ tblG, w.before _ s = true := fun w h => atoms_spec (ws := (wsG yX12_readPlain cX12_readPlain 1 (some .int))) B.pre w (List.mem_cons_of_mem _ h)
  have hown : s.vm.findClass RX12 = some m.cls := findClass_of_methodNamed B.named
  have hlocks := B.notSynchronized
  subst hsz
  have hD := hD0.self (sz := s.heap.size)
  generalize hAe : va_A [(b_o, (oc12 u_th u_sa b_rf b_ro b_im b_ke u_fd b_tp u_td u_fr u_to u_so u_wo u_fa u_bd u_nc b_nl u_co b_op b_ar u_le b_pi b_pa u_pd u_od b_ws b_hw u_la b_se b_re u_bk u_va u_su u_ce u_ho u_wy u_bt u_ps b_pt u_tg u_sn b_ip u_ic b_ah b_be b_me u_wd b_tr b_ld u_st b_wn u_id)), (b_tp, (arI G 400 v_tp)), (b_op, (arI G 400 v_op)), (b_ar, (arI G 400 v_ar)), (b_pi, (arI G 400 v_pi)), (b_pa, (arI G 400 v_pa)), (b_ws, (arJ G 8 v_ws))] s.heap.size = A at hD hT ⊢
  have hA : ∀ q : Nat, s.heap.size ≤ q → A q := fun q h => by rw [← hAe]; exact Or.inr h
  have hS : va_S A s.heap s.heap [] := va_S.rf
  have hP : va_P G.1 vwCl [(b_o, (oc12 u_th u_sa b_rf b_ro b_im b_ke u_fd b_tp u_td u_fr u_to u_so u_wo u_fa u_bd u_nc b_nl u_co b_op b_ar u_le b_pi b_pa u_pd u_od b_ws b_hw u_la b_se b_re u_bk u_va u_su u_ce u_ho u_wy u_bt u_ps b_pt u_tg u_sn b_ip u_ic b_ah b_be b_me u_wd b_tr b_ld u_st b_wn u_id)), (b_tp, (arI G 400 v_tp)), (b_op, (arI G 400 v_op)), (b_ar, (arI G 400 v_ar)), (b_pi, (arI G 400 v_pi)), (b_pa, (arI G 400 v_pa)), (b_ws, (arJ G 8 v_ws))] s.heap := hP
  have hl := lv_entry ([.ref b_o]) (n := 1) (Nat.le_of_ble_eq_true rfl)
  rw [lg_entry_eq]
  generalize (lg_sl ([.ref b_o]) ++ List.replicate (1 - (lg_sl ([.ref b_o])).length) Slot.unset).toArray = ls at hl ⊢
  have hl : lv_has ls 1 [(0, .ref b_o)] := hl
  have hmf9 := xj_mf e_x
  refine lv_aload_n hx hb dX12_readPlain_0 rfl (lv_at hl 0 rfl) ?_
  refine lv_ldc2 (v := 14836) hx hb hown (hts _ kl_X12_283) dX12_readPlain_1 ?_
  obtain ⟨hPc, hDc, hFc⟩ := g5_sub3 (wc := [(b_o, (oc12 u_th u_sa b_rf b_ro b_im b_ke u_fd b_tp u_td u_fr u_to u_so u_wo u_fa u_bd u_nc b_nl u_co b_op b_ar u_le b_pi b_pa u_pd u_od b_ws b_hw u_la b_se b_re u_bk u_va u_su u_ce u_ho u_wy u_bt u_ps b_pt u_tg u_sn b_ip u_ic b_ah b_be b_me u_wd b_tr b_ld u_st b_wn u_id))]) hP hD hS hA [0] (by decide) rfl
  refine va_calli (va_runV (As := [.long 14836]) (rest := []) ⟨hx, hb, hml, hown, hts⟩ (n_isWord l G b_o b_rf b_ro b_im b_ke b_tp b_nl b_op b_ar b_pi b_pa b_ws b_hw b_se b_re b_pt b_ip b_ah b_be b_me b_tr b_ld b_wn s.heap.size u_th u_sa u_fd u_td u_fr u_to u_so u_fa u_bd u_nc u_co u_le u_pd u_od u_la u_bk u_ce u_ho u_wy u_bt u_ps u_tg u_sn u_ic u_wd u_id u_wo u_va u_su u_st 14836 h_u_td h_u_fr h_u_to ⟨by omega, by omega⟩ h_u_nc h_u_co h_u_pd h_u_la h_u_bk h_u_ce h_u_ho h_u_wy h_u_bt h_u_ps h_u_ic h_u_id) (cwV 1 hts gV_X12_254 rfl rfl rfl hv_X12_isWord ⟨Nat.le_of_ble_eq_true rfl, Nat.le_of_ble_eq_true rfl⟩) (g5_preV hPc hK hDc hN hT hS hFc (ci := 12) (q0 := 0) rfl rfl) rfl rfl hl.1 rfl (lv_room (Nat.le_of_ble_eq_true rfl)) dX12_readPlain_4 ⟨Nat.le_of_ble_eq_true rfl, Nat.le_of_ble_eq_true rfl⟩) hS (fun q _ h => hFc q h) hFc (fun r u t H1 locs ht hvm hw hB hz1 hk1 hS => ?_)
  obtain ⟨hP1, hD1⟩ := hB
  rw [ht] at hP1
  rcases hw with ⟨i_1, rfl, rfl⟩ | ⟨rfl, rfl⟩
  ·
    have i_1 : u_so.toInt = 1 := i_1
    obtain ⟨hP, hD⟩ := va_join (wr := [(b_tp, (arI G 400 v_tp)), (b_op, (arI G 400 v_op)), (b_ar, (arI G 400 v_ar)), (b_pi, (arI G 400 v_pi)), (b_pa, (arI G 400 v_pa)), (b_ws, (arJ G 8 v_ws))]) hP hD [0] [1, 2, 3, 4, 5, 6] rfl rfl (by decide) (by decide) hk1 hFc hP1 hD1
    generalize H1 = H at hP hS ⊢
    refine g5_rs [(b_tp, (arI G 400 v_tp)), (b_op, (arI G 400 v_op)), (b_ar, (arI G 400 v_ar)), (b_pi, (arI G 400 v_pi)), (b_pa, (arI G 400 v_pa)), (b_ws, (arJ G 8 v_ws)), (b_o, (oc12 u_th u_sa b_rf b_ro b_im b_ke u_fd b_tp u_td u_fr u_to u_so u_wo u_fa u_bd u_nc b_nl u_co b_op b_ar u_le b_pi b_pa u_pd u_od b_ws b_hw u_la b_se b_re u_bk u_va u_su u_ce u_ho u_wy u_bt u_ps b_pt u_tg u_sn b_ip u_ic b_ah b_be b_me u_wd b_tr b_ld u_st b_wn u_id))] hP hD (fun hP hD => ?_)
    refine lv_if_eq (tgt := 23) hx hb dX12_readPlain_7 (by decide) (fun c_2 => ?_) (fun c_2 => ?_)
    ·
      exact absurd c_2 (by decide)
    ·
      have hlt9 : u_fr.toInt < u_to.toInt := tks_lt e_s (by omega)
      refine lv_aload_n hx hb dX12_readPlain_10 rfl (lv_at hl 0 rfl) ?_
      refine lv_bipush (v := 27) hx hb dX12_readPlain_11 (by decide) ?_
      refine lv_iconst (v := 0) hx hb dX12_readPlain_13 (by decide) ?_
      obtain ⟨hPc, hDc, hFc⟩ := g5_sub3 (wc := [(b_o, (oc12 u_th u_sa b_rf b_ro b_im b_ke u_fd b_tp u_td u_fr u_to u_so u_wo u_fa u_bd u_nc b_nl u_co b_op b_ar u_le b_pi b_pa u_pd u_od b_ws b_hw u_la b_se b_re u_bk u_va u_su u_ce u_ho u_wy u_bt u_ps b_pt u_tg u_sn b_ip u_ic b_ah b_be b_me u_wd b_tr b_ld u_st b_wn u_id)), (b_pi, (arI G 400 v_pi)), (b_pa, (arI G 400 v_pa))]) hP hD hS hA [6, 3, 4] (by decide) rfl
      refine va_callv (va_runV (As := [.int 27, .int 0]) (rest := []) ⟨hx, hb, hml, hown, hts⟩ (n_push l G b_o b_pi b_pa b_rf b_ro b_im b_ke b_tp b_nl b_op b_ar b_ws b_hw b_se b_re b_pt b_ip b_ah b_be b_me b_tr b_ld b_wn H.size u_th u_sa u_fd u_td u_fr u_to u_so u_fa u_bd u_nc u_co u_le u_pd u_od u_la u_bk u_ce u_ho u_wy u_bt u_ps u_tg u_sn u_ic u_wd u_id 27 0 u_wo u_va u_su u_st v_pi v_pa h_u_td h_u_fr h_u_to ⟨by omega, by omega⟩ h_u_nc h_u_co h_u_pd h_u_la h_u_bk h_u_ce h_u_ho h_u_wy h_u_bt h_u_ps h_u_ic h_u_id (by omega)) (cwV 2 hts gV_X12_261 rfl rfl rfl hv_X12_push ⟨Nat.le_of_ble_eq_true rfl, Nat.le_of_ble_eq_true rfl⟩) (g5_preV hPc hK hDc hN hT hS hFc (ci := 12) (q0 := 0) rfl rfl) rfl rfl hl.1 rfl (lv_room (Nat.le_of_ble_eq_true rfl)) dX12_readPlain_14 ⟨Nat.le_of_ble_eq_true rfl, Nat.le_of_ble_eq_true rfl⟩) hS (fun q _ h => hFc q h) hFc (fun u t H1 locs ht hvm hw hB hz1 hk1 hS => ?_)
      obtain ⟨hP1, hD1⟩ := hB
      rw [ht] at hP1
      obtain ⟨z5, i_3, i_4, rfl⟩ := hw
      have i_3 : 0 ≤ z5.toInt ∧ z5.toInt ≤ 400 := i_3
      have i_4 : z5.toInt = u_pd.toInt + 1 := i_4
      obtain ⟨hP, hD⟩ := va_join (wr := [(b_tp, (arI G 400 v_tp)), (b_op, (arI G 400 v_op)), (b_ar, (arI G 400 v_ar)), (b_ws, (arJ G 8 v_ws))]) hP hD [6, 3, 4] [0, 1, 2, 5] rfl rfl (by decide) (by decide) hk1 hFc hP1 hD1
      generalize H1 = H at hP hS ⊢
      refine g5_rs [(b_tp, (arI G 400 v_tp)), (b_op, (arI G 400 v_op)), (b_ar, (arI G 400 v_ar)), (b_ws, (arJ G 8 v_ws)), (b_o, (oc12 u_th u_sa b_rf b_ro b_im b_ke u_fd b_tp u_td u_fr u_to u_so u_wo u_fa u_bd u_nc b_nl u_co b_op b_ar u_le b_pi b_pa z5 u_od b_ws b_hw u_la b_se b_re u_bk u_va u_su u_ce u_ho u_wy u_bt u_ps b_pt u_tg u_sn b_ip u_ic b_ah b_be b_me u_wd b_tr b_ld u_st b_wn u_id)), (b_pi, (arI G 400 (upd v_pi u_pd.toNatClampNeg 27))), (b_pa, (arI G 400 (upd v_pa u_pd.toNatClampNeg 0)))] hP hD (fun hP hD => ?_)
      refine lv_aload_n hx hb dX12_readPlain_17 rfl (lv_at hl 0 rfl) ?_
      obtain ⟨hPc, hDc, hFc⟩ := g5_sub3 (wc := [(b_o, (oc12 u_th u_sa b_rf b_ro b_im b_ke u_fd b_tp u_td u_fr u_to u_so u_wo u_fa u_bd u_nc b_nl u_co b_op b_ar u_le b_pi b_pa z5 u_od b_ws b_hw u_la b_se b_re u_bk u_va u_su u_ce u_ho u_wy u_bt u_ps b_pt u_tg u_sn b_ip u_ic b_ah b_be b_me u_wd b_tr b_ld u_st b_wn u_id)), (b_tp, (arI G 400 v_tp))]) hP hD hS hA [4, 0] (by decide) rfl
      refine va_callv (va_runV (As := []) (rest := []) ⟨hx, hb, hml, hown, hts⟩ (n_next l G b_o b_tp b_rf b_ro b_im b_ke b_nl b_op b_ar b_pi b_pa b_ws b_hw b_se b_re b_pt b_ip b_ah b_be b_me b_tr b_ld b_wn H.size u_th u_sa u_fd u_td u_fr u_to u_so u_fa u_bd u_nc u_co u_le z5 u_od u_la u_bk u_ce u_ho u_wy u_bt u_ps u_tg u_sn u_ic u_wd u_id u_wo u_va u_su u_st v_tp h_u_td h_u_fr h_u_to ⟨by omega, by omega⟩ h_u_nc h_u_co i_3 h_u_la h_u_bk h_u_ce h_u_ho h_u_wy h_u_bt h_u_ps h_u_ic h_u_id (by omega)) (cwV 0 hts gV_X12_208 rfl rfl rfl hv_X12_next ⟨Nat.le_of_ble_eq_true rfl, Nat.le_of_ble_eq_true rfl⟩) (g5_preV hPc hK hDc hN hT hS hFc (ci := 12) (q0 := 0) rfl rfl) rfl rfl hl.1 rfl (lv_room (Nat.le_of_ble_eq_true rfl)) dX12_readPlain_18 ⟨Nat.le_of_ble_eq_true rfl, Nat.le_of_ble_eq_true rfl⟩) hS (fun q _ h => hFc q h) hFc (fun u t H1 locs ht hvm hw hB hz1 hk1 hS => ?_)
      obtain ⟨hP1, hD1⟩ := hB
      rw [ht] at hP1
      obtain ⟨z10, z11, z12, z13, i_6, i_7, i_8, i_9, rfl⟩ := hw
      have i_6 : 0 ≤ z10.toInt ∧ z10.toInt ≤ 400 := i_6
      have i_7 : 0 ≤ z11.toInt ∧ z11.toInt ≤ 400 := i_7
      have i_8 : u_to.toInt ≤ z10.toInt ∧ z10.toInt ≤ z11.toInt ∧ z11.toInt ≤ u_td.toInt := i_8
      have i_9 : TKs z12.toInt z10.toInt z11.toInt := i_9
      obtain ⟨hP, hD⟩ := va_join (wr := [(b_op, (arI G 400 v_op)), (b_ar, (arI G 400 v_ar)), (b_ws, (arJ G 8 v_ws)), (b_pi, (arI G 400 (upd v_pi u_pd.toNatClampNeg 27))), (b_pa, (arI G 400 (upd v_pa u_pd.toNatClampNeg 0)))]) hP hD [4, 0] [1, 2, 3, 5, 6] rfl rfl (by decide) (by decide) hk1 hFc hP1 hD1
      generalize H1 = H at hP hS ⊢
      refine g5_rs [(b_op, (arI G 400 v_op)), (b_ar, (arI G 400 v_ar)), (b_ws, (arJ G 8 v_ws)), (b_pi, (arI G 400 (upd v_pi u_pd.toNatClampNeg 27))), (b_pa, (arI G 400 (upd v_pa u_pd.toNatClampNeg 0))), (b_o, (oc12 u_th u_sa b_rf b_ro b_im b_ke u_fd b_tp u_td z10 z11 z12 z13 u_fa u_bd u_nc b_nl u_co b_op b_ar u_le b_pi b_pa z5 u_od b_ws b_hw u_la b_se b_re u_bk u_va u_su u_ce u_ho u_wy u_bt u_ps b_pt u_tg u_sn b_ip u_ic b_ah b_be b_me u_wd b_tr b_ld u_st b_wn u_id)), (b_tp, (arI G 400 v_tp))] hP hD (fun hP hD => ?_)
      refine lv_iconst (v := 0) hx hb dX12_readPlain_21 (by decide) ?_
      exact W.iret (v := 0) hx hb hr (fun t ht hW => ⟨⟨0, [(b_o, (oc12 u_th u_sa b_rf b_ro b_im b_ke u_fd b_tp u_td z10 z11 z12 z13 u_fa u_bd u_nc b_nl u_co b_op b_ar u_le b_pi b_pa z5 u_od b_ws b_hw u_la b_se b_re u_bk u_va u_su u_ce u_ho u_wy u_bt u_ps b_pt u_tg u_sn b_ip u_ic b_ah b_be b_me u_wd b_tr b_ld u_st b_wn u_id)), (b_tp, (arI G 400 v_tp)), (b_op, (arI G 400 v_op)), (b_ar, (arI G 400 v_ar)), (b_pi, (arI G 400 (upd v_pi u_pd.toNatClampNeg 27))), (b_pa, (arI G 400 (upd v_pa u_pd.toNatClampNeg 0))), (b_ws, (arJ G 8 v_ws))], rfl, Or.inr (⟨0, z10, z11, z12, z13, u_co, u_le, z5, u_od, v_op, v_ar, (upd v_pi u_pd.toNatClampNeg 27), (upd v_pa u_pd.toNatClampNeg 0), i_6, i_7, h_u_co, i_3, ⟨by have zc_o_r : (0 : Int32).toInt = 0 := (by decide); omega, by have zc_o_r : (0 : Int32).toInt = 0 := (by decide); omega⟩, by omega, i_9, xj_push e_x (by omega) (by omega) ⟨by decide, by decide⟩ (Or.inl (by decide)), tj_0 (hj_push0 (tj_d0 e_j (Or.inl rfl)) (by omega) (by omega) (Or.inl (by decide)) (Or.inr (e_j.2.1 (Or.inl rfl)))) (by decide) (no31_push (e_j.2.1 (Or.inl rfl)) (by omega) (by omega) (by decide)), by have w9 := (twt_0 (by decide) : twt (0 : Int32).toInt = 0); omega, rfl, rfl⟩), by rw [ht]; exact hP.sub [5, 6, 0, 1, 3, 4, 2] rfl, hD.sub [5, 6, 0, 1, 3, 4, 2] (by decide) rfl⟩, hS.F ht⟩) hS.2.2 dX12_readPlain_22
  ·
    obtain ⟨hP, hD⟩ := va_join (wr := [(b_tp, (arI G 400 v_tp)), (b_op, (arI G 400 v_op)), (b_ar, (arI G 400 v_ar)), (b_pi, (arI G 400 v_pi)), (b_pa, (arI G 400 v_pa)), (b_ws, (arJ G 8 v_ws))]) hP hD [0] [1, 2, 3, 4, 5, 6] rfl rfl (by decide) (by decide) hk1 hFc hP1 hD1
    generalize H1 = H at hP hS ⊢
    refine g5_rs [(b_tp, (arI G 400 v_tp)), (b_op, (arI G 400 v_op)), (b_ar, (arI G 400 v_ar)), (b_pi, (arI G 400 v_pi)), (b_pa, (arI G 400 v_pa)), (b_ws, (arJ G 8 v_ws)), (b_o, (oc12 u_th u_sa b_rf b_ro b_im b_ke u_fd b_tp u_td u_fr u_to u_so u_wo u_fa u_bd u_nc b_nl u_co b_op b_ar u_le b_pi b_pa u_pd u_od b_ws b_hw u_la b_se b_re u_bk u_va u_su u_ce u_ho u_wy u_bt u_ps b_pt u_tg u_sn b_ip u_ic b_ah b_be b_me u_wd b_tr b_ld u_st b_wn u_id))] hP hD (fun hP hD => ?_)
    refine lv_if_eq (tgt := 23) hx hb dX12_readPlain_7 (by decide) (fun c_14 => ?_) (fun c_14 => ?_)
    ·
      refine lv_aload_n hx hb dX12_readPlain_23 rfl (lv_at hl 0 rfl) ?_
      refine lv_bipush (v := 40) hx hb dX12_readPlain_24 (by decide) ?_
      obtain ⟨hPc, hDc, hFc⟩ := g5_sub3 (wc := [(b_o, (oc12 u_th u_sa b_rf b_ro b_im b_ke u_fd b_tp u_td u_fr u_to u_so u_wo u_fa u_bd u_nc b_nl u_co b_op b_ar u_le b_pi b_pa u_pd u_od b_ws b_hw u_la b_se b_re u_bk u_va u_su u_ce u_ho u_wy u_bt u_ps b_pt u_tg u_sn b_ip u_ic b_ah b_be b_me u_wd b_tr b_ld u_st b_wn u_id))]) hP hD hS hA [6] (by decide) rfl
      refine va_calli (va_runV (As := [.int 40]) (rest := []) ⟨hx, hb, hml, hown, hts⟩ (n_isSign l G b_o b_rf b_ro b_im b_ke b_tp b_nl b_op b_ar b_pi b_pa b_ws b_hw b_se b_re b_pt b_ip b_ah b_be b_me b_tr b_ld b_wn H.size u_th u_sa u_fd u_td u_fr u_to u_so u_fa u_bd u_nc u_co u_le u_pd u_od u_la u_bk u_ce u_ho u_wy u_bt u_ps u_tg u_sn u_ic u_wd u_id 40 u_wo u_va u_su u_st h_u_td h_u_fr h_u_to ⟨by omega, by omega⟩ h_u_nc h_u_co h_u_pd h_u_la h_u_bk h_u_ce h_u_ho h_u_wy h_u_bt h_u_ps h_u_ic h_u_id) (cwV 1 hts gV_X12_267 rfl rfl rfl hv_X12_isSign ⟨Nat.le_of_ble_eq_true rfl, Nat.le_of_ble_eq_true rfl⟩) (g5_preV hPc hK hDc hN hT hS hFc (ci := 12) (q0 := 0) rfl rfl) rfl rfl hl.1 rfl (lv_room (Nat.le_of_ble_eq_true rfl)) dX12_readPlain_26 ⟨Nat.le_of_ble_eq_true rfl, Nat.le_of_ble_eq_true rfl⟩) hS (fun q _ h => hFc q h) hFc (fun r u t H1 locs ht hvm hw hB hz1 hk1 hS => ?_)
      obtain ⟨hP1, hD1⟩ := hB
      rw [ht] at hP1
      rcases hw with ⟨i_15, rfl, rfl⟩ | ⟨rfl, rfl⟩
      ·
        have i_15 : u_so.toInt = 3 := i_15
        obtain ⟨hP, hD⟩ := va_join (wr := [(b_tp, (arI G 400 v_tp)), (b_op, (arI G 400 v_op)), (b_ar, (arI G 400 v_ar)), (b_pi, (arI G 400 v_pi)), (b_pa, (arI G 400 v_pa)), (b_ws, (arJ G 8 v_ws))]) hP hD [6] [0, 1, 2, 3, 4, 5] rfl rfl (by decide) (by decide) hk1 hFc hP1 hD1
        generalize H1 = H at hP hS ⊢
        refine g5_rs [(b_tp, (arI G 400 v_tp)), (b_op, (arI G 400 v_op)), (b_ar, (arI G 400 v_ar)), (b_pi, (arI G 400 v_pi)), (b_pa, (arI G 400 v_pa)), (b_ws, (arJ G 8 v_ws)), (b_o, (oc12 u_th u_sa b_rf b_ro b_im b_ke u_fd b_tp u_td u_fr u_to u_so u_wo u_fa u_bd u_nc b_nl u_co b_op b_ar u_le b_pi b_pa u_pd u_od b_ws b_hw u_la b_se b_re u_bk u_va u_su u_ce u_ho u_wy u_bt u_ps b_pt u_tg u_sn b_ip u_ic b_ah b_be b_me u_wd b_tr b_ld u_st b_wn u_id))] hP hD (fun hP hD => ?_)
        refine lv_if_eq (tgt := 40) hx hb dX12_readPlain_29 (by decide) (fun c_16 => ?_) (fun c_16 => ?_)
        ·
          exact absurd c_16 (by decide)
        ·
          have hlt9 : u_fr.toInt < u_to.toInt := tks_lt e_s (by omega)
          refine lv_aload_n hx hb dX12_readPlain_32 rfl (lv_at hl 0 rfl) ?_
          refine lv_bipush (v := 30) hx hb dX12_readPlain_33 (by decide) ?_
          obtain ⟨hPc, hDc, hFc⟩ := g5_sub3 (wc := [(b_o, (oc12 u_th u_sa b_rf b_ro b_im b_ke u_fd b_tp u_td u_fr u_to u_so u_wo u_fa u_bd u_nc b_nl u_co b_op b_ar u_le b_pi b_pa u_pd u_od b_ws b_hw u_la b_se b_re u_bk u_va u_su u_ce u_ho u_wy u_bt u_ps b_pt u_tg u_sn b_ip u_ic b_ah b_be b_me u_wd b_tr b_ld u_st b_wn u_id)), (b_tp, (arI G 400 v_tp)), (b_pi, (arI G 400 v_pi)), (b_pa, (arI G 400 v_pa))]) hP hD hS hA [6, 0, 3, 4] (by decide) rfl
          refine va_callv (va_runV (As := [.int 30]) (rest := []) ⟨hx, hb, hml, hown, hts⟩ (n_openBracket l G b_o b_tp b_pi b_pa b_rf b_ro b_im b_ke b_nl b_op b_ar b_ws b_hw b_se b_re b_pt b_ip b_ah b_be b_me b_tr b_ld b_wn H.size u_th u_sa u_fd u_td u_fr u_to u_so u_fa u_bd u_nc u_co u_le u_pd u_od u_la u_bk u_ce u_ho u_wy u_bt u_ps u_tg u_sn u_ic u_wd u_id 30 u_wo u_va u_su u_st v_tp v_pi v_pa h_u_td h_u_fr h_u_to h_u_bd h_u_nc h_u_co h_u_pd h_u_la h_u_bk h_u_ce h_u_ho h_u_wy h_u_bt h_u_ps h_u_ic h_u_id ⟨by decide, by decide⟩ (by omega) (by omega)) (cwV 1 hts gV_X12_270 rfl rfl rfl hv_X12_openBracket ⟨Nat.le_of_ble_eq_true rfl, Nat.le_of_ble_eq_true rfl⟩) (g5_preV hPc hK hDc hN hT hS hFc (ci := 12) (q0 := 0) rfl rfl) rfl rfl hl.1 rfl (lv_room (Nat.le_of_ble_eq_true rfl)) dX12_readPlain_35 ⟨Nat.le_of_ble_eq_true rfl, Nat.le_of_ble_eq_true rfl⟩) hS (fun q _ h => hFc q h) hFc (fun u t H1 locs ht hvm hw hB hz1 hk1 hS => ?_)
          obtain ⟨hP1, hD1⟩ := hB
          rw [ht] at hP1
          rcases hw with rfl | ⟨z23, z24, z25, z26, z27, z28, i_17, i_18, i_19, i_20, i_21, i_22, rfl⟩
          ·
            obtain ⟨hP, hD⟩ := va_join (wr := [(b_op, (arI G 400 v_op)), (b_ar, (arI G 400 v_ar)), (b_ws, (arJ G 8 v_ws))]) hP hD [6, 0, 3, 4] [1, 2, 5] rfl rfl (by decide) (by decide) hk1 hFc hP1 hD1
            generalize H1 = H at hP hS ⊢
            refine g5_rs [(b_op, (arI G 400 v_op)), (b_ar, (arI G 400 v_ar)), (b_ws, (arJ G 8 v_ws)), (b_o, (oc12 u_th u_sa b_rf b_ro b_im b_ke u_fd b_tp u_td u_fr u_to u_so u_wo u_fr 1 u_nc b_nl u_co b_op b_ar u_le b_pi b_pa u_pd u_od b_ws b_hw u_la b_se b_re u_bk u_va u_su u_ce u_ho u_wy u_bt u_ps b_pt u_tg u_sn b_ip u_ic b_ah b_be b_me u_wd b_tr b_ld u_st b_wn u_id)), (b_tp, (arI G 400 v_tp)), (b_pi, (arI G 400 v_pi)), (b_pa, (arI G 400 v_pa))] hP hD (fun hP hD => ?_)
            refine lv_iconst (v := 0) hx hb dX12_readPlain_38 (by decide) ?_
            exact W.iret (v := 0) hx hb hr (fun t ht hW => ⟨⟨0, [(b_o, (oc12 u_th u_sa b_rf b_ro b_im b_ke u_fd b_tp u_td u_fr u_to u_so u_wo u_fr 1 u_nc b_nl u_co b_op b_ar u_le b_pi b_pa u_pd u_od b_ws b_hw u_la b_se b_re u_bk u_va u_su u_ce u_ho u_wy u_bt u_ps b_pt u_tg u_sn b_ip u_ic b_ah b_be b_me u_wd b_tr b_ld u_st b_wn u_id)), (b_tp, (arI G 400 v_tp)), (b_op, (arI G 400 v_op)), (b_ar, (arI G 400 v_ar)), (b_pi, (arI G 400 v_pi)), (b_pa, (arI G 400 v_pa)), (b_ws, (arJ G 8 v_ws))], rfl, Or.inl (⟨0, ⟨by have zc_o_r : (0 : Int32).toInt = 0 := (by decide); omega, by have zc_o_r : (0 : Int32).toInt = 0 := (by decide); omega⟩, rfl, rfl⟩), by rw [ht]; exact hP.sub [3, 4, 0, 1, 5, 6, 2] rfl, hD.sub [3, 4, 0, 1, 5, 6, 2] (by decide) rfl⟩, hS.F ht⟩) hS.2.2 dX12_readPlain_39
          ·
            have i_17 : 0 ≤ z23.toInt ∧ z23.toInt ≤ 400 := i_17
            have i_18 : 0 ≤ z24.toInt ∧ z24.toInt ≤ 400 := i_18
            have i_19 : 0 ≤ z27.toInt ∧ z27.toInt ≤ 400 := i_19
            have i_20 : u_to.toInt ≤ z23.toInt ∧ z23.toInt ≤ z24.toInt ∧ z24.toInt ≤ u_td.toInt := i_20
            have i_21 : TKs z25.toInt z23.toInt z24.toInt := i_21
            have i_22 : z27.toInt = u_pd.toInt + 1 := i_22
            obtain ⟨hP, hD⟩ := va_join (wr := [(b_op, (arI G 400 v_op)), (b_ar, (arI G 400 v_ar)), (b_ws, (arJ G 8 v_ws))]) hP hD [6, 0, 3, 4] [1, 2, 5] rfl rfl (by decide) (by decide) hk1 hFc hP1 hD1
            generalize H1 = H at hP hS ⊢
            refine g5_rs [(b_op, (arI G 400 v_op)), (b_ar, (arI G 400 v_ar)), (b_ws, (arJ G 8 v_ws)), (b_o, (oc12 u_th u_sa b_rf b_ro b_im b_ke u_fd b_tp u_td z23 z24 z25 z26 u_fa u_bd u_nc b_nl u_co b_op b_ar u_le b_pi b_pa z27 z28 b_ws b_hw u_la b_se b_re u_bk u_va u_su u_ce u_ho u_wy u_bt u_ps b_pt u_tg u_sn b_ip u_ic b_ah b_be b_me u_wd b_tr b_ld u_st b_wn u_id)), (b_tp, (arI G 400 v_tp)), (b_pi, (arI G 400 (upd v_pi u_pd.toNatClampNeg 30))), (b_pa, (arI G 400 (upd v_pa u_pd.toNatClampNeg 0)))] hP hD (fun hP hD => ?_)
            refine lv_iconst (v := 0) hx hb dX12_readPlain_38 (by decide) ?_
            exact W.iret (v := 0) hx hb hr (fun t ht hW => ⟨⟨0, [(b_o, (oc12 u_th u_sa b_rf b_ro b_im b_ke u_fd b_tp u_td z23 z24 z25 z26 u_fa u_bd u_nc b_nl u_co b_op b_ar u_le b_pi b_pa z27 z28 b_ws b_hw u_la b_se b_re u_bk u_va u_su u_ce u_ho u_wy u_bt u_ps b_pt u_tg u_sn b_ip u_ic b_ah b_be b_me u_wd b_tr b_ld u_st b_wn u_id)), (b_tp, (arI G 400 v_tp)), (b_op, (arI G 400 v_op)), (b_ar, (arI G 400 v_ar)), (b_pi, (arI G 400 (upd v_pi u_pd.toNatClampNeg 30))), (b_pa, (arI G 400 (upd v_pa u_pd.toNatClampNeg 0))), (b_ws, (arJ G 8 v_ws))], rfl, Or.inr (⟨0, z23, z24, z25, z26, u_co, u_le, z27, z28, v_op, v_ar, (upd v_pi u_pd.toNatClampNeg 30), (upd v_pa u_pd.toNatClampNeg 0), i_17, i_18, h_u_co, i_19, ⟨by have zc_o_r : (0 : Int32).toInt = 0 := (by decide); omega, by have zc_o_r : (0 : Int32).toInt = 0 := (by decide); omega⟩, by omega, i_21, xj_push e_x (by omega) (by omega) ⟨by decide, by decide⟩ (Or.inr (by decide)), tj_0 (hj_push0 (tj_d0 e_j (Or.inl rfl)) (by omega) (by omega) (Or.inr (by decide)) (Or.inr (e_j.2.1 (Or.inl rfl)))) (by decide) (no31_push (e_j.2.1 (Or.inl rfl)) (by omega) (by omega) (by decide)), by have w9 := (twt_0 (by decide) : twt (0 : Int32).toInt = 0); omega, rfl, rfl⟩), by rw [ht]; exact hP.sub [3, 4, 0, 1, 5, 6, 2] rfl, hD.sub [3, 4, 0, 1, 5, 6, 2] (by decide) rfl⟩, hS.F ht⟩) hS.2.2 dX12_readPlain_39
      ·
        obtain ⟨hP, hD⟩ := va_join (wr := [(b_tp, (arI G 400 v_tp)), (b_op, (arI G 400 v_op)), (b_ar, (arI G 400 v_ar)), (b_pi, (arI G 400 v_pi)), (b_pa, (arI G 400 v_pa)), (b_ws, (arJ G 8 v_ws))]) hP hD [6] [0, 1, 2, 3, 4, 5] rfl rfl (by decide) (by decide) hk1 hFc hP1 hD1
        generalize H1 = H at hP hS ⊢
        refine g5_rs [(b_tp, (arI G 400 v_tp)), (b_op, (arI G 400 v_op)), (b_ar, (arI G 400 v_ar)), (b_pi, (arI G 400 v_pi)), (b_pa, (arI G 400 v_pa)), (b_ws, (arJ G 8 v_ws)), (b_o, (oc12 u_th u_sa b_rf b_ro b_im b_ke u_fd b_tp u_td u_fr u_to u_so u_wo u_fa u_bd u_nc b_nl u_co b_op b_ar u_le b_pi b_pa u_pd u_od b_ws b_hw u_la b_se b_re u_bk u_va u_su u_ce u_ho u_wy u_bt u_ps b_pt u_tg u_sn b_ip u_ic b_ah b_be b_me u_wd b_tr b_ld u_st b_wn u_id))] hP hD (fun hP hD => ?_)
        refine lv_if_eq (tgt := 40) hx hb dX12_readPlain_29 (by decide) (fun c_29 => ?_) (fun c_29 => ?_)
        ·
          refine lv_aload_n hx hb dX12_readPlain_40 rfl (lv_at hl 0 rfl) ?_
          have hE_30 : TJ v_op v_ar v_pi v_pa g_a.toInt u_co.toInt u_pd.toInt 1 := tj_1 (tj_d0 e_j (Or.inl rfl)) rfl
          obtain ⟨hPc, hDc, hFc⟩ := g5_sub3 (wc := [(b_o, (oc12 u_th u_sa b_rf b_ro b_im b_ke u_fd b_tp u_td u_fr u_to u_so u_wo u_fa u_bd u_nc b_nl u_co b_op b_ar u_le b_pi b_pa u_pd u_od b_ws b_hw u_la b_se b_re u_bk u_va u_su u_ce u_ho u_wy u_bt u_ps b_pt u_tg u_sn b_ip u_ic b_ah b_be b_me u_wd b_tr b_ld u_st b_wn u_id)), (b_tp, (arI G 400 v_tp)), (b_op, (arI G 400 v_op)), (b_ar, (arI G 400 v_ar)), (b_pi, (arI G 400 v_pi)), (b_pa, (arI G 400 v_pa)), (b_ws, (arJ G 8 v_ws))]) hP hD hS hA [6, 0, 1, 2, 3, 4, 5] (by decide) rfl
          refine va_calli (va_runV (As := []) (rest := []) ⟨hx, hb, hml, hown, hts⟩ (n_readPart l G b_o b_tp b_op b_ar b_pi b_pa b_ws b_rf b_ro b_im b_ke b_nl b_hw b_se b_re b_pt b_ip b_ah b_be b_me b_tr b_ld b_wn H.size u_th u_sa u_fd u_td u_fr u_to u_so u_fa u_bd u_nc u_co u_le u_pd u_od u_la u_bk u_ce u_ho u_wy u_bt u_ps u_tg u_sn u_ic u_wd u_id g_a u_wo u_va u_su u_st v_tp v_op v_ar v_pi v_pa v_ws g_op g_ar h_u_td h_u_fr h_u_to h_u_bd h_u_nc h_u_co h_u_pd h_u_la h_u_bk h_u_ce h_u_ho h_u_wy h_u_bt h_u_ps h_u_ic h_u_id (e_t) (e_s) (e_x) (hE_30)) (cwV 0 hts gV_X12_285 rfl rfl rfl hv_X12_readPart ⟨Nat.le_of_ble_eq_true rfl, Nat.le_of_ble_eq_true rfl⟩) (g5_preV hPc hK hDc hN hT hS hFc (ci := 12) (q0 := 0) rfl rfl) rfl rfl hl.1 rfl (lv_room (Nat.le_of_ble_eq_true rfl)) dX12_readPlain_41 ⟨Nat.le_of_ble_eq_true rfl, Nat.le_of_ble_eq_true rfl⟩) hS (fun q _ h => hFc q h) hFc (fun r u t H1 locs ht hvm hw hB hz1 hk1 hS => ?_)
          obtain ⟨hP1, hD1⟩ := hB
          rw [ht] at hP1
          rcases hw with ⟨z32, i_31, y33, rfl⟩ | ⟨z44, z45, z46, z47, z48, z49, z50, z51, z52, z53, z54, z55, z56, i_34, i_35, i_36, i_37, i_38, i_39, i_40, i_41, i_42, i_43, y57, rfl⟩
          ·
            have i_31 : 0 ≤ z32.toInt ∧ z32.toInt ≤ 4 := i_31
            obtain ⟨hP, hD⟩ := va_join (wr := []) hP hD [6, 0, 1, 2, 3, 4, 5] [] rfl rfl (by decide) (by decide) hk1 hFc hP1 hD1
            generalize H1 = H at hP hS ⊢
            refine g5_rs [(b_o, (oc12 u_th u_sa b_rf b_ro b_im b_ke u_fd b_tp u_td u_fr u_to u_so u_wo u_fr 1 u_nc b_nl u_co b_op b_ar u_le b_pi b_pa u_pd u_od b_ws b_hw u_la b_se b_re u_bk u_va u_su u_ce u_ho u_wy u_bt u_ps b_pt u_tg u_sn b_ip u_ic b_ah b_be b_me u_wd b_tr b_ld u_st b_wn u_id)), (b_tp, (arI G 400 v_tp)), (b_op, (arI G 400 v_op)), (b_ar, (arI G 400 v_ar)), (b_pi, (arI G 400 v_pi)), (b_pa, (arI G 400 v_pa)), (b_ws, (arJ G 8 v_ws))] hP hD (fun hP hD => ?_)
            refine g5_ti (v := z32) y33 ?_
            exact W.iret (v := z32) hx hb hr (fun t ht hW => ⟨⟨z32, [(b_o, (oc12 u_th u_sa b_rf b_ro b_im b_ke u_fd b_tp u_td u_fr u_to u_so u_wo u_fr 1 u_nc b_nl u_co b_op b_ar u_le b_pi b_pa u_pd u_od b_ws b_hw u_la b_se b_re u_bk u_va u_su u_ce u_ho u_wy u_bt u_ps b_pt u_tg u_sn b_ip u_ic b_ah b_be b_me u_wd b_tr b_ld u_st b_wn u_id)), (b_tp, (arI G 400 v_tp)), (b_op, (arI G 400 v_op)), (b_ar, (arI G 400 v_ar)), (b_pi, (arI G 400 v_pi)), (b_pa, (arI G 400 v_pa)), (b_ws, (arJ G 8 v_ws))], rfl, Or.inl (⟨z32, i_31, rfl, rfl⟩), by rw [ht]; exact hP.sub [0, 1, 2, 3, 4, 5, 6] rfl, hD.sub [0, 1, 2, 3, 4, 5, 6] (by decide) rfl⟩, hS.F ht⟩) hS.2.2 dX12_readPlain_44
          ·
            have i_34 : 0 ≤ z45.toInt ∧ z45.toInt ≤ 400 := i_34
            have i_35 : 0 ≤ z46.toInt ∧ z46.toInt ≤ 400 := i_35
            have i_36 : 0 ≤ z49.toInt ∧ z49.toInt ≤ 400 := i_36
            have i_37 : 0 ≤ z51.toInt ∧ z51.toInt ≤ 400 := i_37
            have i_38 : 0 ≤ z44.toInt ∧ z44.toInt ≤ 4 := i_38
            have i_39 : u_fr.toInt ≤ z45.toInt ∧ z45.toInt ≤ z46.toInt ∧ z46.toInt ≤ u_td.toInt := i_39
            have i_40 : TKs z47.toInt z45.toInt z46.toInt := i_40
            have i_41 : XJ g_op g_ar z53 z54 z55 z56 g_a.toInt z49.toInt z51.toInt z45.toInt := i_41
            have i_42 : TJ z53 z54 z55 z56 g_a.toInt z49.toInt z51.toInt z44.toInt := i_42
            have i_43 : twt z44.toInt + 1 ≤ 0 + 3 * (z45.toInt - u_fr.toInt) := i_43
            obtain ⟨hP, hD⟩ := va_join (wr := []) hP hD [6, 0, 1, 2, 3, 4, 5] [] rfl rfl (by decide) (by decide) hk1 hFc hP1 hD1
            generalize H1 = H at hP hS ⊢
            refine g5_rs [(b_o, (oc12 u_th u_sa b_rf b_ro b_im b_ke u_fd b_tp u_td z45 z46 z47 z48 u_fa u_bd u_nc b_nl z49 b_op b_ar z50 b_pi b_pa z51 z52 b_ws b_hw u_la b_se b_re u_bk u_va u_su u_ce u_ho u_wy u_bt u_ps b_pt u_tg u_sn b_ip u_ic b_ah b_be b_me u_wd b_tr b_ld u_st b_wn u_id)), (b_tp, (arI G 400 v_tp)), (b_op, (arI G 400 z53)), (b_ar, (arI G 400 z54)), (b_pi, (arI G 400 z55)), (b_pa, (arI G 400 z56)), (b_ws, (arJ G 8 v_ws))] hP hD (fun hP hD => ?_)
            refine g5_ti (v := z44) y57 ?_
            exact W.iret (v := z44) hx hb hr (fun t ht hW => ⟨⟨z44, [(b_o, (oc12 u_th u_sa b_rf b_ro b_im b_ke u_fd b_tp u_td z45 z46 z47 z48 u_fa u_bd u_nc b_nl z49 b_op b_ar z50 b_pi b_pa z51 z52 b_ws b_hw u_la b_se b_re u_bk u_va u_su u_ce u_ho u_wy u_bt u_ps b_pt u_tg u_sn b_ip u_ic b_ah b_be b_me u_wd b_tr b_ld u_st b_wn u_id)), (b_tp, (arI G 400 v_tp)), (b_op, (arI G 400 z53)), (b_ar, (arI G 400 z54)), (b_pi, (arI G 400 z55)), (b_pa, (arI G 400 z56)), (b_ws, (arJ G 8 v_ws))], rfl, Or.inr (⟨z44, z45, z46, z47, z48, z49, z50, z51, z52, z53, z54, z55, z56, i_34, i_35, i_36, i_37, i_38, by omega, i_40, i_41, i_42, by omega, rfl, rfl⟩), by rw [ht]; exact hP.sub [0, 1, 2, 3, 4, 5, 6] rfl, hD.sub [0, 1, 2, 3, 4, 5, 6] (by decide) rfl⟩, hS.F ht⟩) hS.2.2 dX12_readPlain_44
        ·
          exact absurd c_29 (by decide)
    ·
      exact absurd c_14 (by decide)
theorem dgX12_behindSum_0 : ∀ r ∈ ([(0, (.aload_n 0, 1)), (1, (.bipush 43, 2)), (3, (.invokevirtual 267, 3)), (6, (.ifCond .eq 8, 3)), (9, (.bipush 20, 2)), (11, (.goto 46, 3)), (14, (.aload_n 0, 1)), (15, (.bipush 45, 2)), (17, (.invokevirtual 267, 3)), (20, (.ifCond .eq 8, 3)), (23, (.bipush 21, 2)), (25, (.goto 32, 3)), (28, (.aload_n 0, 1)), (29, (.bipush 42, 2)), (31, (.invokevirtual 267, 3)), (34, (.ifCond .eq 8, 3)), (37, (.bipush 22, 2)), (39, (.goto 18, 3)), (42, (.aload_n 0, 1)), (43, (.bipush 47, 2)), (45, (.invokevirtual 267, 3)), (48, (.ifCond .eq 8, 3)), (51, (.bipush 23, 2)), (53, (.goto 4, 3)), (56, (.iconst (-1), 1)), (57, (.istore_n 2, 1)), (58, (.iload_n 2, 1)), (59, (.iconst (-1), 1)), (60, (.if_icmp .eq 23, 3)), (63, (.aload_n 0, 1)), (64, (.iload_n 2, 1)), (65, (.invokestatic 243, 3)), (68, (.invokevirtual 288, 3)), (71, (.aload_n 0, 1)), (72, (.iload_n 2, 1)), (73, (.iconst 0, 1)), (74, (.invokevirtual 261, 3)), (77, (.aload_n 0, 1)), (78, (.invokevirtual 208, 3)), (81, (.iconst 1, 1))] : List (Nat × (Instr × Nat))), decode cX12_behindSum r.1 = .ok r.2 := by decide +kernel
theorem dX12_behindSum_0 : decode cX12_behindSum 0 = .ok (.aload_n 0, 1) := dgX12_behindSum_0 (0, (.aload_n 0, 1)) (List.mem_of_getElem? (i := 0) rfl)
theorem dX12_behindSum_1 : decode cX12_behindSum 1 = .ok (.bipush 43, 2) := dgX12_behindSum_0 (1, (.bipush 43, 2)) (List.mem_of_getElem? (i := 1) rfl)
theorem dX12_behindSum_3 : decode cX12_behindSum 3 = .ok (.invokevirtual 267, 3) := dgX12_behindSum_0 (3, (.invokevirtual 267, 3)) (List.mem_of_getElem? (i := 2) rfl)
theorem dX12_behindSum_6 : decode cX12_behindSum 6 = .ok (.ifCond .eq 8, 3) := dgX12_behindSum_0 (6, (.ifCond .eq 8, 3)) (List.mem_of_getElem? (i := 3) rfl)
theorem dX12_behindSum_9 : decode cX12_behindSum 9 = .ok (.bipush 20, 2) := dgX12_behindSum_0 (9, (.bipush 20, 2)) (List.mem_of_getElem? (i := 4) rfl)
theorem dX12_behindSum_11 : decode cX12_behindSum 11 = .ok (.goto 46, 3) := dgX12_behindSum_0 (11, (.goto 46, 3)) (List.mem_of_getElem? (i := 5) rfl)
theorem dX12_behindSum_14 : decode cX12_behindSum 14 = .ok (.aload_n 0, 1) := dgX12_behindSum_0 (14, (.aload_n 0, 1)) (List.mem_of_getElem? (i := 6) rfl)
theorem dX12_behindSum_15 : decode cX12_behindSum 15 = .ok (.bipush 45, 2) := dgX12_behindSum_0 (15, (.bipush 45, 2)) (List.mem_of_getElem? (i := 7) rfl)
theorem dX12_behindSum_17 : decode cX12_behindSum 17 = .ok (.invokevirtual 267, 3) := dgX12_behindSum_0 (17, (.invokevirtual 267, 3)) (List.mem_of_getElem? (i := 8) rfl)
theorem dX12_behindSum_20 : decode cX12_behindSum 20 = .ok (.ifCond .eq 8, 3) := dgX12_behindSum_0 (20, (.ifCond .eq 8, 3)) (List.mem_of_getElem? (i := 9) rfl)
theorem dX12_behindSum_23 : decode cX12_behindSum 23 = .ok (.bipush 21, 2) := dgX12_behindSum_0 (23, (.bipush 21, 2)) (List.mem_of_getElem? (i := 10) rfl)
theorem dX12_behindSum_25 : decode cX12_behindSum 25 = .ok (.goto 32, 3) := dgX12_behindSum_0 (25, (.goto 32, 3)) (List.mem_of_getElem? (i := 11) rfl)
theorem dX12_behindSum_28 : decode cX12_behindSum 28 = .ok (.aload_n 0, 1) := dgX12_behindSum_0 (28, (.aload_n 0, 1)) (List.mem_of_getElem? (i := 12) rfl)
theorem dX12_behindSum_29 : decode cX12_behindSum 29 = .ok (.bipush 42, 2) := dgX12_behindSum_0 (29, (.bipush 42, 2)) (List.mem_of_getElem? (i := 13) rfl)
theorem dX12_behindSum_31 : decode cX12_behindSum 31 = .ok (.invokevirtual 267, 3) := dgX12_behindSum_0 (31, (.invokevirtual 267, 3)) (List.mem_of_getElem? (i := 14) rfl)
theorem dX12_behindSum_34 : decode cX12_behindSum 34 = .ok (.ifCond .eq 8, 3) := dgX12_behindSum_0 (34, (.ifCond .eq 8, 3)) (List.mem_of_getElem? (i := 15) rfl)
theorem dX12_behindSum_37 : decode cX12_behindSum 37 = .ok (.bipush 22, 2) := dgX12_behindSum_0 (37, (.bipush 22, 2)) (List.mem_of_getElem? (i := 16) rfl)
theorem dX12_behindSum_39 : decode cX12_behindSum 39 = .ok (.goto 18, 3) := dgX12_behindSum_0 (39, (.goto 18, 3)) (List.mem_of_getElem? (i := 17) rfl)
theorem dX12_behindSum_42 : decode cX12_behindSum 42 = .ok (.aload_n 0, 1) := dgX12_behindSum_0 (42, (.aload_n 0, 1)) (List.mem_of_getElem? (i := 18) rfl)
theorem dX12_behindSum_43 : decode cX12_behindSum 43 = .ok (.bipush 47, 2) := dgX12_behindSum_0 (43, (.bipush 47, 2)) (List.mem_of_getElem? (i := 19) rfl)
theorem dX12_behindSum_45 : decode cX12_behindSum 45 = .ok (.invokevirtual 267, 3) := dgX12_behindSum_0 (45, (.invokevirtual 267, 3)) (List.mem_of_getElem? (i := 20) rfl)
theorem dX12_behindSum_48 : decode cX12_behindSum 48 = .ok (.ifCond .eq 8, 3) := dgX12_behindSum_0 (48, (.ifCond .eq 8, 3)) (List.mem_of_getElem? (i := 21) rfl)
theorem dX12_behindSum_51 : decode cX12_behindSum 51 = .ok (.bipush 23, 2) := dgX12_behindSum_0 (51, (.bipush 23, 2)) (List.mem_of_getElem? (i := 22) rfl)
theorem dX12_behindSum_53 : decode cX12_behindSum 53 = .ok (.goto 4, 3) := dgX12_behindSum_0 (53, (.goto 4, 3)) (List.mem_of_getElem? (i := 23) rfl)
theorem dX12_behindSum_56 : decode cX12_behindSum 56 = .ok (.iconst (-1), 1) := dgX12_behindSum_0 (56, (.iconst (-1), 1)) (List.mem_of_getElem? (i := 24) rfl)
theorem dX12_behindSum_57 : decode cX12_behindSum 57 = .ok (.istore_n 2, 1) := dgX12_behindSum_0 (57, (.istore_n 2, 1)) (List.mem_of_getElem? (i := 25) rfl)
theorem dX12_behindSum_58 : decode cX12_behindSum 58 = .ok (.iload_n 2, 1) := dgX12_behindSum_0 (58, (.iload_n 2, 1)) (List.mem_of_getElem? (i := 26) rfl)
theorem dX12_behindSum_59 : decode cX12_behindSum 59 = .ok (.iconst (-1), 1) := dgX12_behindSum_0 (59, (.iconst (-1), 1)) (List.mem_of_getElem? (i := 27) rfl)
theorem dX12_behindSum_60 : decode cX12_behindSum 60 = .ok (.if_icmp .eq 23, 3) := dgX12_behindSum_0 (60, (.if_icmp .eq 23, 3)) (List.mem_of_getElem? (i := 28) rfl)
theorem dX12_behindSum_63 : decode cX12_behindSum 63 = .ok (.aload_n 0, 1) := dgX12_behindSum_0 (63, (.aload_n 0, 1)) (List.mem_of_getElem? (i := 29) rfl)
theorem dX12_behindSum_64 : decode cX12_behindSum 64 = .ok (.iload_n 2, 1) := dgX12_behindSum_0 (64, (.iload_n 2, 1)) (List.mem_of_getElem? (i := 30) rfl)
theorem dX12_behindSum_65 : decode cX12_behindSum 65 = .ok (.invokestatic 243, 3) := dgX12_behindSum_0 (65, (.invokestatic 243, 3)) (List.mem_of_getElem? (i := 31) rfl)
theorem dX12_behindSum_68 : decode cX12_behindSum 68 = .ok (.invokevirtual 288, 3) := dgX12_behindSum_0 (68, (.invokevirtual 288, 3)) (List.mem_of_getElem? (i := 32) rfl)
theorem dX12_behindSum_71 : decode cX12_behindSum 71 = .ok (.aload_n 0, 1) := dgX12_behindSum_0 (71, (.aload_n 0, 1)) (List.mem_of_getElem? (i := 33) rfl)
theorem dX12_behindSum_72 : decode cX12_behindSum 72 = .ok (.iload_n 2, 1) := dgX12_behindSum_0 (72, (.iload_n 2, 1)) (List.mem_of_getElem? (i := 34) rfl)
theorem dX12_behindSum_73 : decode cX12_behindSum 73 = .ok (.iconst 0, 1) := dgX12_behindSum_0 (73, (.iconst 0, 1)) (List.mem_of_getElem? (i := 35) rfl)
theorem dX12_behindSum_74 : decode cX12_behindSum 74 = .ok (.invokevirtual 261, 3) := dgX12_behindSum_0 (74, (.invokevirtual 261, 3)) (List.mem_of_getElem? (i := 36) rfl)
theorem dX12_behindSum_77 : decode cX12_behindSum 77 = .ok (.aload_n 0, 1) := dgX12_behindSum_0 (77, (.aload_n 0, 1)) (List.mem_of_getElem? (i := 37) rfl)
theorem dX12_behindSum_78 : decode cX12_behindSum 78 = .ok (.invokevirtual 208, 3) := dgX12_behindSum_0 (78, (.invokevirtual 208, 3)) (List.mem_of_getElem? (i := 38) rfl)
theorem dX12_behindSum_81 : decode cX12_behindSum 81 = .ok (.iconst 1, 1) := dgX12_behindSum_0 (81, (.iconst 1, 1)) (List.mem_of_getElem? (i := 39) rfl)
theorem dgX12_behindSum_1 : ∀ r ∈ ([(82, (.ireturn, 1)), (83, (.aload_n 0, 1)), (84, (.invokevirtual 291, 3)), (87, (.istore_n 3, 1)), (88, (.iload_n 3, 1)), (89, (.bipush 31, 2)), (91, (.if_icmp .ne 47, 3)), (94, (.aload_n 0, 1)), (95, (.aload_n 0, 1)), (96, (.bipush 93, 2)), (98, (.invokevirtual 267, 3)), (101, (.invokevirtual 233, 3)), (104, (.aload_n 0, 1)), (105, (.getfield 205, 3)), (108, (.ifCond .ne 28, 3)), (111, (.aload_n 0, 1)), (112, (.iconst 5, 1)), (113, (.invokevirtual 288, 3)), (116, (.aload_n 0, 1)), (117, (.dup, 1)), (118, (.getfield 240, 3)), (121, (.iconst 1, 1)), (122, (.isub, 1)), (123, (.putfield 240, 3)), (126, (.aload_n 0, 1)), (127, (.dup, 1)), (128, (.getfield 258, 3)), (131, (.iconst 1, 1)), (132, (.isub, 1)), (133, (.putfield 258, 3)), (136, (.iconst 3, 1)), (137, (.ireturn, 1)), (138, (.iload_n 3, 1)), (139, (.iconst (-1), 1)), (140, (.if_icmp .ne 9, 3)), (143, (.iload_n 1, 1)), (144, (.ifCond .ne 5, 3)), (147, (.iconst 4, 1)), (148, (.ireturn, 1)), (149, (.aload_n 0, 1))] : List (Nat × (Instr × Nat))), decode cX12_behindSum r.1 = .ok r.2 := by decide +kernel
theorem dX12_behindSum_82 : decode cX12_behindSum 82 = .ok (.ireturn, 1) := dgX12_behindSum_1 (82, (.ireturn, 1)) (List.mem_of_getElem? (i := 0) rfl)
theorem dX12_behindSum_83 : decode cX12_behindSum 83 = .ok (.aload_n 0, 1) := dgX12_behindSum_1 (83, (.aload_n 0, 1)) (List.mem_of_getElem? (i := 1) rfl)
theorem dX12_behindSum_84 : decode cX12_behindSum 84 = .ok (.invokevirtual 291, 3) := dgX12_behindSum_1 (84, (.invokevirtual 291, 3)) (List.mem_of_getElem? (i := 2) rfl)
theorem dX12_behindSum_87 : decode cX12_behindSum 87 = .ok (.istore_n 3, 1) := dgX12_behindSum_1 (87, (.istore_n 3, 1)) (List.mem_of_getElem? (i := 3) rfl)
theorem dX12_behindSum_88 : decode cX12_behindSum 88 = .ok (.iload_n 3, 1) := dgX12_behindSum_1 (88, (.iload_n 3, 1)) (List.mem_of_getElem? (i := 4) rfl)
theorem dX12_behindSum_89 : decode cX12_behindSum 89 = .ok (.bipush 31, 2) := dgX12_behindSum_1 (89, (.bipush 31, 2)) (List.mem_of_getElem? (i := 5) rfl)
theorem dX12_behindSum_91 : decode cX12_behindSum 91 = .ok (.if_icmp .ne 47, 3) := dgX12_behindSum_1 (91, (.if_icmp .ne 47, 3)) (List.mem_of_getElem? (i := 6) rfl)
theorem dX12_behindSum_94 : decode cX12_behindSum 94 = .ok (.aload_n 0, 1) := dgX12_behindSum_1 (94, (.aload_n 0, 1)) (List.mem_of_getElem? (i := 7) rfl)
theorem dX12_behindSum_95 : decode cX12_behindSum 95 = .ok (.aload_n 0, 1) := dgX12_behindSum_1 (95, (.aload_n 0, 1)) (List.mem_of_getElem? (i := 8) rfl)
theorem dX12_behindSum_96 : decode cX12_behindSum 96 = .ok (.bipush 93, 2) := dgX12_behindSum_1 (96, (.bipush 93, 2)) (List.mem_of_getElem? (i := 9) rfl)
theorem dX12_behindSum_98 : decode cX12_behindSum 98 = .ok (.invokevirtual 267, 3) := dgX12_behindSum_1 (98, (.invokevirtual 267, 3)) (List.mem_of_getElem? (i := 10) rfl)
theorem dX12_behindSum_101 : decode cX12_behindSum 101 = .ok (.invokevirtual 233, 3) := dgX12_behindSum_1 (101, (.invokevirtual 233, 3)) (List.mem_of_getElem? (i := 11) rfl)
theorem dX12_behindSum_104 : decode cX12_behindSum 104 = .ok (.aload_n 0, 1) := dgX12_behindSum_1 (104, (.aload_n 0, 1)) (List.mem_of_getElem? (i := 12) rfl)
theorem dX12_behindSum_105 : decode cX12_behindSum 105 = .ok (.getfield 205, 3) := dgX12_behindSum_1 (105, (.getfield 205, 3)) (List.mem_of_getElem? (i := 13) rfl)
theorem dX12_behindSum_108 : decode cX12_behindSum 108 = .ok (.ifCond .ne 28, 3) := dgX12_behindSum_1 (108, (.ifCond .ne 28, 3)) (List.mem_of_getElem? (i := 14) rfl)
theorem dX12_behindSum_111 : decode cX12_behindSum 111 = .ok (.aload_n 0, 1) := dgX12_behindSum_1 (111, (.aload_n 0, 1)) (List.mem_of_getElem? (i := 15) rfl)
theorem dX12_behindSum_112 : decode cX12_behindSum 112 = .ok (.iconst 5, 1) := dgX12_behindSum_1 (112, (.iconst 5, 1)) (List.mem_of_getElem? (i := 16) rfl)
theorem dX12_behindSum_113 : decode cX12_behindSum 113 = .ok (.invokevirtual 288, 3) := dgX12_behindSum_1 (113, (.invokevirtual 288, 3)) (List.mem_of_getElem? (i := 17) rfl)
theorem dX12_behindSum_116 : decode cX12_behindSum 116 = .ok (.aload_n 0, 1) := dgX12_behindSum_1 (116, (.aload_n 0, 1)) (List.mem_of_getElem? (i := 18) rfl)
theorem dX12_behindSum_117 : decode cX12_behindSum 117 = .ok (.dup, 1) := dgX12_behindSum_1 (117, (.dup, 1)) (List.mem_of_getElem? (i := 19) rfl)
theorem dX12_behindSum_118 : decode cX12_behindSum 118 = .ok (.getfield 240, 3) := dgX12_behindSum_1 (118, (.getfield 240, 3)) (List.mem_of_getElem? (i := 20) rfl)
theorem dX12_behindSum_121 : decode cX12_behindSum 121 = .ok (.iconst 1, 1) := dgX12_behindSum_1 (121, (.iconst 1, 1)) (List.mem_of_getElem? (i := 21) rfl)
theorem dX12_behindSum_122 : decode cX12_behindSum 122 = .ok (.isub, 1) := dgX12_behindSum_1 (122, (.isub, 1)) (List.mem_of_getElem? (i := 22) rfl)
theorem dX12_behindSum_123 : decode cX12_behindSum 123 = .ok (.putfield 240, 3) := dgX12_behindSum_1 (123, (.putfield 240, 3)) (List.mem_of_getElem? (i := 23) rfl)
theorem dX12_behindSum_126 : decode cX12_behindSum 126 = .ok (.aload_n 0, 1) := dgX12_behindSum_1 (126, (.aload_n 0, 1)) (List.mem_of_getElem? (i := 24) rfl)
theorem dX12_behindSum_127 : decode cX12_behindSum 127 = .ok (.dup, 1) := dgX12_behindSum_1 (127, (.dup, 1)) (List.mem_of_getElem? (i := 25) rfl)
theorem dX12_behindSum_128 : decode cX12_behindSum 128 = .ok (.getfield 258, 3) := dgX12_behindSum_1 (128, (.getfield 258, 3)) (List.mem_of_getElem? (i := 26) rfl)
theorem dX12_behindSum_131 : decode cX12_behindSum 131 = .ok (.iconst 1, 1) := dgX12_behindSum_1 (131, (.iconst 1, 1)) (List.mem_of_getElem? (i := 27) rfl)
theorem dX12_behindSum_132 : decode cX12_behindSum 132 = .ok (.isub, 1) := dgX12_behindSum_1 (132, (.isub, 1)) (List.mem_of_getElem? (i := 28) rfl)
theorem dX12_behindSum_133 : decode cX12_behindSum 133 = .ok (.putfield 258, 3) := dgX12_behindSum_1 (133, (.putfield 258, 3)) (List.mem_of_getElem? (i := 29) rfl)
theorem dX12_behindSum_136 : decode cX12_behindSum 136 = .ok (.iconst 3, 1) := dgX12_behindSum_1 (136, (.iconst 3, 1)) (List.mem_of_getElem? (i := 30) rfl)
theorem dX12_behindSum_137 : decode cX12_behindSum 137 = .ok (.ireturn, 1) := dgX12_behindSum_1 (137, (.ireturn, 1)) (List.mem_of_getElem? (i := 31) rfl)
theorem dX12_behindSum_138 : decode cX12_behindSum 138 = .ok (.iload_n 3, 1) := dgX12_behindSum_1 (138, (.iload_n 3, 1)) (List.mem_of_getElem? (i := 32) rfl)
theorem dX12_behindSum_139 : decode cX12_behindSum 139 = .ok (.iconst (-1), 1) := dgX12_behindSum_1 (139, (.iconst (-1), 1)) (List.mem_of_getElem? (i := 33) rfl)
theorem dX12_behindSum_140 : decode cX12_behindSum 140 = .ok (.if_icmp .ne 9, 3) := dgX12_behindSum_1 (140, (.if_icmp .ne 9, 3)) (List.mem_of_getElem? (i := 34) rfl)
theorem dX12_behindSum_143 : decode cX12_behindSum 143 = .ok (.iload_n 1, 1) := dgX12_behindSum_1 (143, (.iload_n 1, 1)) (List.mem_of_getElem? (i := 35) rfl)
theorem dX12_behindSum_144 : decode cX12_behindSum 144 = .ok (.ifCond .ne 5, 3) := dgX12_behindSum_1 (144, (.ifCond .ne 5, 3)) (List.mem_of_getElem? (i := 36) rfl)
theorem dX12_behindSum_147 : decode cX12_behindSum 147 = .ok (.iconst 4, 1) := dgX12_behindSum_1 (147, (.iconst 4, 1)) (List.mem_of_getElem? (i := 37) rfl)
theorem dX12_behindSum_148 : decode cX12_behindSum 148 = .ok (.ireturn, 1) := dgX12_behindSum_1 (148, (.ireturn, 1)) (List.mem_of_getElem? (i := 38) rfl)
theorem dX12_behindSum_149 : decode cX12_behindSum 149 = .ok (.aload_n 0, 1) := dgX12_behindSum_1 (149, (.aload_n 0, 1)) (List.mem_of_getElem? (i := 39) rfl)
theorem dgX12_behindSum_2 : ∀ r ∈ ([(150, (.invokevirtual 294, 3)), (153, (.ifCond .eq 5, 3)), (156, (.iconst 2, 1)), (157, (.ireturn, 1)), (158, (.aload_n 0, 1)), (159, (.bipush 60, 2)), (161, (.invokevirtual 267, 3)), (164, (.ifCond .eq 8, 3)), (167, (.bipush 24, 2)), (169, (.goto 19, 3)), (172, (.aload_n 0, 1)), (173, (.bipush 62, 2)), (175, (.invokevirtual 267, 3)), (178, (.ifCond .eq 8, 3)), (181, (.bipush 25, 2)), (183, (.goto 5, 3)), (186, (.bipush 26, 2)), (188, (.istore_n 2, 1)), (189, (.aload_n 0, 1)), (190, (.iload_n 2, 1)), (191, (.bipush 26, 2)), (193, (.if_icmp .ne 12, 3)), (196, (.aload_n 0, 1)), (197, (.bipush 61, 2)), (199, (.invokevirtual 267, 3)), (202, (.ifCond .eq 7, 3)), (205, (.iconst 1, 1)), (206, (.goto 4, 3)), (209, (.iconst 0, 1)), (210, (.invokevirtual 233, 3)), (213, (.aload_n 0, 1)), (214, (.getfield 205, 3)), (217, (.ifCond .ne 14, 3)), (220, (.aload_n 0, 1)), (221, (.iconst 5, 1)), (222, (.invokevirtual 288, 3)), (225, (.aload_n 0, 1)), (226, (.iload_n 2, 1)), (227, (.iconst 0, 1)), (228, (.invokevirtual 261, 3))] : List (Nat × (Instr × Nat))), decode cX12_behindSum r.1 = .ok r.2 := by decide +kernel
theorem dX12_behindSum_150 : decode cX12_behindSum 150 = .ok (.invokevirtual 294, 3) := dgX12_behindSum_2 (150, (.invokevirtual 294, 3)) (List.mem_of_getElem? (i := 0) rfl)
theorem dX12_behindSum_153 : decode cX12_behindSum 153 = .ok (.ifCond .eq 5, 3) := dgX12_behindSum_2 (153, (.ifCond .eq 5, 3)) (List.mem_of_getElem? (i := 1) rfl)
theorem dX12_behindSum_156 : decode cX12_behindSum 156 = .ok (.iconst 2, 1) := dgX12_behindSum_2 (156, (.iconst 2, 1)) (List.mem_of_getElem? (i := 2) rfl)
theorem dX12_behindSum_157 : decode cX12_behindSum 157 = .ok (.ireturn, 1) := dgX12_behindSum_2 (157, (.ireturn, 1)) (List.mem_of_getElem? (i := 3) rfl)
theorem dX12_behindSum_158 : decode cX12_behindSum 158 = .ok (.aload_n 0, 1) := dgX12_behindSum_2 (158, (.aload_n 0, 1)) (List.mem_of_getElem? (i := 4) rfl)
theorem dX12_behindSum_159 : decode cX12_behindSum 159 = .ok (.bipush 60, 2) := dgX12_behindSum_2 (159, (.bipush 60, 2)) (List.mem_of_getElem? (i := 5) rfl)
theorem dX12_behindSum_161 : decode cX12_behindSum 161 = .ok (.invokevirtual 267, 3) := dgX12_behindSum_2 (161, (.invokevirtual 267, 3)) (List.mem_of_getElem? (i := 6) rfl)
theorem dX12_behindSum_164 : decode cX12_behindSum 164 = .ok (.ifCond .eq 8, 3) := dgX12_behindSum_2 (164, (.ifCond .eq 8, 3)) (List.mem_of_getElem? (i := 7) rfl)
theorem dX12_behindSum_167 : decode cX12_behindSum 167 = .ok (.bipush 24, 2) := dgX12_behindSum_2 (167, (.bipush 24, 2)) (List.mem_of_getElem? (i := 8) rfl)
theorem dX12_behindSum_169 : decode cX12_behindSum 169 = .ok (.goto 19, 3) := dgX12_behindSum_2 (169, (.goto 19, 3)) (List.mem_of_getElem? (i := 9) rfl)
theorem dX12_behindSum_172 : decode cX12_behindSum 172 = .ok (.aload_n 0, 1) := dgX12_behindSum_2 (172, (.aload_n 0, 1)) (List.mem_of_getElem? (i := 10) rfl)
theorem dX12_behindSum_173 : decode cX12_behindSum 173 = .ok (.bipush 62, 2) := dgX12_behindSum_2 (173, (.bipush 62, 2)) (List.mem_of_getElem? (i := 11) rfl)
theorem dX12_behindSum_175 : decode cX12_behindSum 175 = .ok (.invokevirtual 267, 3) := dgX12_behindSum_2 (175, (.invokevirtual 267, 3)) (List.mem_of_getElem? (i := 12) rfl)
theorem dX12_behindSum_178 : decode cX12_behindSum 178 = .ok (.ifCond .eq 8, 3) := dgX12_behindSum_2 (178, (.ifCond .eq 8, 3)) (List.mem_of_getElem? (i := 13) rfl)
theorem dX12_behindSum_181 : decode cX12_behindSum 181 = .ok (.bipush 25, 2) := dgX12_behindSum_2 (181, (.bipush 25, 2)) (List.mem_of_getElem? (i := 14) rfl)
theorem dX12_behindSum_183 : decode cX12_behindSum 183 = .ok (.goto 5, 3) := dgX12_behindSum_2 (183, (.goto 5, 3)) (List.mem_of_getElem? (i := 15) rfl)
theorem dX12_behindSum_186 : decode cX12_behindSum 186 = .ok (.bipush 26, 2) := dgX12_behindSum_2 (186, (.bipush 26, 2)) (List.mem_of_getElem? (i := 16) rfl)
theorem dX12_behindSum_188 : decode cX12_behindSum 188 = .ok (.istore_n 2, 1) := dgX12_behindSum_2 (188, (.istore_n 2, 1)) (List.mem_of_getElem? (i := 17) rfl)
theorem dX12_behindSum_189 : decode cX12_behindSum 189 = .ok (.aload_n 0, 1) := dgX12_behindSum_2 (189, (.aload_n 0, 1)) (List.mem_of_getElem? (i := 18) rfl)
theorem dX12_behindSum_190 : decode cX12_behindSum 190 = .ok (.iload_n 2, 1) := dgX12_behindSum_2 (190, (.iload_n 2, 1)) (List.mem_of_getElem? (i := 19) rfl)
theorem dX12_behindSum_191 : decode cX12_behindSum 191 = .ok (.bipush 26, 2) := dgX12_behindSum_2 (191, (.bipush 26, 2)) (List.mem_of_getElem? (i := 20) rfl)
theorem dX12_behindSum_193 : decode cX12_behindSum 193 = .ok (.if_icmp .ne 12, 3) := dgX12_behindSum_2 (193, (.if_icmp .ne 12, 3)) (List.mem_of_getElem? (i := 21) rfl)
theorem dX12_behindSum_196 : decode cX12_behindSum 196 = .ok (.aload_n 0, 1) := dgX12_behindSum_2 (196, (.aload_n 0, 1)) (List.mem_of_getElem? (i := 22) rfl)
theorem dX12_behindSum_197 : decode cX12_behindSum 197 = .ok (.bipush 61, 2) := dgX12_behindSum_2 (197, (.bipush 61, 2)) (List.mem_of_getElem? (i := 23) rfl)
theorem dX12_behindSum_199 : decode cX12_behindSum 199 = .ok (.invokevirtual 267, 3) := dgX12_behindSum_2 (199, (.invokevirtual 267, 3)) (List.mem_of_getElem? (i := 24) rfl)
theorem dX12_behindSum_202 : decode cX12_behindSum 202 = .ok (.ifCond .eq 7, 3) := dgX12_behindSum_2 (202, (.ifCond .eq 7, 3)) (List.mem_of_getElem? (i := 25) rfl)
theorem dX12_behindSum_205 : decode cX12_behindSum 205 = .ok (.iconst 1, 1) := dgX12_behindSum_2 (205, (.iconst 1, 1)) (List.mem_of_getElem? (i := 26) rfl)
theorem dX12_behindSum_206 : decode cX12_behindSum 206 = .ok (.goto 4, 3) := dgX12_behindSum_2 (206, (.goto 4, 3)) (List.mem_of_getElem? (i := 27) rfl)
theorem dX12_behindSum_209 : decode cX12_behindSum 209 = .ok (.iconst 0, 1) := dgX12_behindSum_2 (209, (.iconst 0, 1)) (List.mem_of_getElem? (i := 28) rfl)
theorem dX12_behindSum_210 : decode cX12_behindSum 210 = .ok (.invokevirtual 233, 3) := dgX12_behindSum_2 (210, (.invokevirtual 233, 3)) (List.mem_of_getElem? (i := 29) rfl)
theorem dX12_behindSum_213 : decode cX12_behindSum 213 = .ok (.aload_n 0, 1) := dgX12_behindSum_2 (213, (.aload_n 0, 1)) (List.mem_of_getElem? (i := 30) rfl)
theorem dX12_behindSum_214 : decode cX12_behindSum 214 = .ok (.getfield 205, 3) := dgX12_behindSum_2 (214, (.getfield 205, 3)) (List.mem_of_getElem? (i := 31) rfl)
theorem dX12_behindSum_217 : decode cX12_behindSum 217 = .ok (.ifCond .ne 14, 3) := dgX12_behindSum_2 (217, (.ifCond .ne 14, 3)) (List.mem_of_getElem? (i := 32) rfl)
theorem dX12_behindSum_220 : decode cX12_behindSum 220 = .ok (.aload_n 0, 1) := dgX12_behindSum_2 (220, (.aload_n 0, 1)) (List.mem_of_getElem? (i := 33) rfl)
theorem dX12_behindSum_221 : decode cX12_behindSum 221 = .ok (.iconst 5, 1) := dgX12_behindSum_2 (221, (.iconst 5, 1)) (List.mem_of_getElem? (i := 34) rfl)
theorem dX12_behindSum_222 : decode cX12_behindSum 222 = .ok (.invokevirtual 288, 3) := dgX12_behindSum_2 (222, (.invokevirtual 288, 3)) (List.mem_of_getElem? (i := 35) rfl)
theorem dX12_behindSum_225 : decode cX12_behindSum 225 = .ok (.aload_n 0, 1) := dgX12_behindSum_2 (225, (.aload_n 0, 1)) (List.mem_of_getElem? (i := 36) rfl)
theorem dX12_behindSum_226 : decode cX12_behindSum 226 = .ok (.iload_n 2, 1) := dgX12_behindSum_2 (226, (.iload_n 2, 1)) (List.mem_of_getElem? (i := 37) rfl)
theorem dX12_behindSum_227 : decode cX12_behindSum 227 = .ok (.iconst 0, 1) := dgX12_behindSum_2 (227, (.iconst 0, 1)) (List.mem_of_getElem? (i := 38) rfl)
theorem dX12_behindSum_228 : decode cX12_behindSum 228 = .ok (.invokevirtual 261, 3) := dgX12_behindSum_2 (228, (.invokevirtual 261, 3)) (List.mem_of_getElem? (i := 39) rfl)
theorem dgX12_behindSum_3 : ∀ r ∈ ([(231, (.iconst 1, 1)), (232, (.ireturn, 1))] : List (Nat × (Instr × Nat))), decode cX12_behindSum r.1 = .ok r.2 := by decide +kernel
theorem dX12_behindSum_231 : decode cX12_behindSum 231 = .ok (.iconst 1, 1) := dgX12_behindSum_3 (231, (.iconst 1, 1)) (List.mem_of_getElem? (i := 0) rfl)
theorem dX12_behindSum_232 : decode cX12_behindSum 232 = .ok (.ireturn, 1) := dgX12_behindSum_3 (232, (.ireturn, 1)) (List.mem_of_getElem? (i := 1) rfl)
theorem ml_X12_288 : Cond.methodLink RX12 288 yX12_settle ∈ tblG := tg 1574 (by decide +kernel) (by decide +kernel)
theorem im_X12_settle : Cond.instanceMethod yX12_settle ∈ tblG := tg 1576 (by decide +kernel) (by decide +kernel)
theorem se_X12_settle : Cond.selects RX12 yX12_settle yX12_settle ∈ tblG := tg 58 (by decide +kernel) (by decide +kernel)
theorem cd_X12_settle : Cond.code yX12_settle cX12_settle 2 none ∈ tblG := tg 1577 (by decide +kernel) (by decide +kernel)
theorem gW_X12_settle : GoodIn tblG (wsG yX12_settle cX12_settle 2 none) := tgi cd_X12_settle
theorem gV_X12_288 : GoodIn tblG (wsV RX12 288 RX12 yX12_settle (wsG yX12_settle cX12_settle 2 none)) := tgV ml_X12_288 im_X12_settle se_X12_settle ini_X12 gW_X12_settle
theorem hv_X12_settle : yX12_settle.cls = RX12 ∧ yX12_settle.cls ≠ "java/lang/invoke/MethodHandle" ∧ yX12_settle.cls ≠ "java/lang/invoke/VarHandle" ∧ (parseMethodDescriptor yX12_settle.desc).map (fun d => d.parameters.length) = some 1 := by decide +kernel
theorem ml_X12_291 : Cond.methodLink RX12 291 yX12_inner ∈ tblG := tg 1578 (by decide +kernel) (by decide +kernel)
theorem im_X12_inner : Cond.instanceMethod yX12_inner ∈ tblG := tg 1580 (by decide +kernel) (by decide +kernel)
theorem se_X12_inner : Cond.selects RX12 yX12_inner yX12_inner ∈ tblG := tg 59 (by decide +kernel) (by decide +kernel)
theorem cd_X12_inner : Cond.code yX12_inner cX12_inner 3 (some .int) ∈ tblG := tg 1581 (by decide +kernel) (by decide +kernel)
theorem gW_X12_inner : GoodIn tblG (wsG yX12_inner cX12_inner 3 (some .int)) := tgi cd_X12_inner
theorem gV_X12_291 : GoodIn tblG (wsV RX12 291 RX12 yX12_inner (wsG yX12_inner cX12_inner 3 (some .int))) := tgV ml_X12_291 im_X12_inner se_X12_inner ini_X12 gW_X12_inner
theorem hv_X12_inner : yX12_inner.cls = RX12 ∧ yX12_inner.cls ≠ "java/lang/invoke/MethodHandle" ∧ yX12_inner.cls ≠ "java/lang/invoke/VarHandle" ∧ (parseMethodDescriptor yX12_inner.desc).map (fun d => d.parameters.length) = some 0 := by decide +kernel
theorem ml_X12_294 : Cond.methodLink RX12 294 yX12_isCompared ∈ tblG := tg 1582 (by decide +kernel) (by decide +kernel)
theorem im_X12_isCompared : Cond.instanceMethod yX12_isCompared ∈ tblG := tg 1584 (by decide +kernel) (by decide +kernel)
theorem se_X12_isCompared : Cond.selects RX12 yX12_isCompared yX12_isCompared ∈ tblG := tg 60 (by decide +kernel) (by decide +kernel)
theorem cd_X12_isCompared : Cond.code yX12_isCompared cX12_isCompared 2 (some .boolean) ∈ tblG := tg 1585 (by decide +kernel) (by decide +kernel)
theorem gW_X12_isCompared : GoodIn tblG (wsG yX12_isCompared cX12_isCompared 2 (some .boolean)) := tgi cd_X12_isCompared
theorem gV_X12_294 : GoodIn tblG (wsV RX12 294 RX12 yX12_isCompared (wsG yX12_isCompared cX12_isCompared 2 (some .boolean))) := tgV ml_X12_294 im_X12_isCompared se_X12_isCompared ini_X12 gW_X12_isCompared
theorem hv_X12_isCompared : yX12_isCompared.cls = RX12 ∧ yX12_isCompared.cls ≠ "java/lang/invoke/MethodHandle" ∧ yX12_isCompared.cls ≠ "java/lang/invoke/VarHandle" ∧ (parseMethodDescriptor yX12_isCompared.desc).map (fun d => d.parameters.length) = some 0 := by decide +kernel
set_option maxHeartbeats 4000000 in
set_option maxRecDepth 100000 in
theorem n_behindSum (l : Launch) (G : g5_G) (b_o b_tp b_op b_ar b_pi b_pa b_rf b_ro b_im b_ke b_nl b_ws b_hw b_se b_re b_pt b_ip b_ah b_be b_me b_tr b_ld b_wn : Nat) (sz : Nat) (u_th : Int32) (u_sa : Int32) (u_fd : Int32) (u_td : Int32) (u_fr : Int32) (u_to : Int32) (u_so : Int32) (u_fa : Int32) (u_bd : Int32) (u_nc : Int32) (u_co : Int32) (u_le : Int32) (u_pd : Int32) (u_od : Int32) (u_la : Int32) (u_bk : Int32) (u_ce : Int32) (u_ho : Int32) (u_wy : Int32) (u_bt : Int32) (u_ps : Int32) (u_tg : Int32) (u_sn : Int32) (u_ic : Int32) (u_wd : Int32) (u_id : Int32) (p_1 : Int32) (g_a : Int32) (u_wo : Int64) (u_va : Int64) (u_su : Int64) (u_st : Int64) (v_tp : Nat → Int32) (v_op : Nat → Int32) (v_ar : Nat → Int32) (v_pi : Nat → Int32) (v_pa : Nat → Int32) (g_op : Nat → Int32) (g_ar : Nat → Int32) (h_u_td : 0 ≤ u_td.toInt ∧ u_td.toInt ≤ 400) (h_u_fr : 0 ≤ u_fr.toInt ∧ u_fr.toInt ≤ 400) (h_u_to : 0 ≤ u_to.toInt ∧ u_to.toInt ≤ 400) (h_u_bd : 0 ≤ u_bd.toInt ∧ u_bd.toInt ≤ 0) (h_u_nc : 0 ≤ u_nc.toInt ∧ u_nc.toInt ≤ 12) (h_u_co : 0 ≤ u_co.toInt ∧ u_co.toInt ≤ 400) (h_u_pd : 0 ≤ u_pd.toInt ∧ u_pd.toInt ≤ 400) (h_u_la : 0 ≤ u_la.toInt ∧ u_la.toInt ≤ 4840) (h_u_bk : 0 ≤ u_bk.toInt ∧ u_bk.toInt ≤ 1) (h_u_ce : 0 ≤ u_ce.toInt ∧ u_ce.toInt ≤ 63) (h_u_ho : 0 ≤ u_ho.toInt ∧ u_ho.toInt ≤ 23) (h_u_wy : 0 ≤ u_wy.toInt ∧ u_wy.toInt ≤ 3) (h_u_bt : 0 ≤ u_bt.toInt ∧ u_bt.toInt ≤ 1000000) (h_u_ps : 0 ≤ u_ps.toInt ∧ u_ps.toInt ≤ 200) (h_u_ic : 0 ≤ u_ic.toInt ∧ u_ic.toInt ≤ 1) (h_u_id : 0 ≤ u_id.toInt ∧ u_id.toInt ≤ 1) (h_p_1 : 0 ≤ p_1.toInt ∧ p_1.toInt ≤ 1) (e_t : u_fr.toInt ≤ u_to.toInt ∧ u_to.toInt ≤ u_td.toInt) (e_s : TKs u_so.toInt u_fr.toInt u_to.toInt) (e_x : XJ g_op g_ar v_op v_ar v_pi v_pa g_a.toInt u_co.toInt u_pd.toInt u_fr.toInt) (e_j : TJ v_op v_ar v_pi v_pa g_a.toInt u_co.toInt u_pd.toInt 3) : Met l yX12_behindSum (wsG yX12_behindSum cX12_behindSum 4 (some .int)) ({ frames := 3, cells := 0, slots := 0, locals := 61 }) (va_Pc [.ref b_o, .int p_1] (g5_P G [(b_o, (oc12 u_th u_sa b_rf b_ro b_im b_ke u_fd b_tp u_td u_fr u_to u_so u_wo u_fa u_bd u_nc b_nl u_co b_op b_ar u_le b_pi b_pa u_pd u_od b_ws b_hw u_la b_se b_re u_bk u_va u_su u_ce u_ho u_wy u_bt u_ps b_pt u_tg u_sn b_ip u_ic b_ah b_be b_me u_wd b_tr b_ld u_st b_wn u_id)), (b_tp, (arI G 400 v_tp)), (b_op, (arI G 400 v_op)), (b_ar, (arI G 400 v_ar)), (b_pi, (arI G 400 v_pi)), (b_pa, (arI G 400 v_pa))] sz)) (va_Qi (fun (r : Int32) (u : va_W) => (∃ (o_r : Int32), (0 ≤ o_r.toInt ∧ o_r.toInt ≤ 4) ∧ (r = o_r) ∧ (u = [(b_o, (oc12 u_th u_sa b_rf b_ro b_im b_ke u_fd b_tp u_td u_fr u_to u_so u_wo u_fr 1 u_nc b_nl u_co b_op b_ar u_le b_pi b_pa u_pd u_od b_ws b_hw u_la b_se b_re u_bk u_va u_su u_ce u_ho u_wy u_bt u_ps b_pt u_tg u_sn b_ip u_ic b_ah b_be b_me u_wd b_tr b_ld u_st b_wn u_id)), (b_tp, (arI G 400 v_tp)), (b_op, (arI G 400 v_op)), (b_ar, (arI G 400 v_ar)), (b_pi, (arI G 400 v_pi)), (b_pa, (arI G 400 v_pa))])) ∨ (∃ (o_r : Int32) (o_fr : Int32) (o_to : Int32) (o_so : Int32) (o_wo : Int64) (o_co : Int32) (o_pd : Int32) (o_od : Int32) (o_op : Nat → Int32) (o_ar : Nat → Int32) (o_pi : Nat → Int32) (o_pa : Nat → Int32), (0 ≤ o_fr.toInt ∧ o_fr.toInt ≤ 400) ∧ (0 ≤ o_to.toInt ∧ o_to.toInt ≤ 400) ∧ (0 ≤ o_co.toInt ∧ o_co.toInt ≤ 400) ∧ (0 ≤ o_pd.toInt ∧ o_pd.toInt ≤ 400) ∧ (0 ≤ o_r.toInt ∧ o_r.toInt ≤ 4) ∧ (u_fr.toInt ≤ o_fr.toInt ∧ o_fr.toInt ≤ o_to.toInt ∧ o_to.toInt ≤ u_td.toInt) ∧ (TKs o_so.toInt o_fr.toInt o_to.toInt) ∧ (XJ g_op g_ar o_op o_ar o_pi o_pa g_a.toInt o_co.toInt o_pd.toInt o_fr.toInt) ∧ (TJ o_op o_ar o_pi o_pa g_a.toInt o_co.toInt o_pd.toInt o_r.toInt) ∧ (twt o_r.toInt + 1 ≤ 2 + 3 * (o_fr.toInt - u_fr.toInt)) ∧ (r = o_r) ∧ (u = [(b_o, (oc12 u_th u_sa b_rf b_ro b_im b_ke u_fd b_tp u_td o_fr o_to o_so o_wo u_fa u_bd u_nc b_nl o_co b_op b_ar u_le b_pi b_pa o_pd o_od b_ws b_hw u_la b_se b_re u_bk u_va u_su u_ce u_ho u_wy u_bt u_ps b_pt u_tg u_sn b_ip u_ic b_ah b_be b_me u_wd b_tr b_ld u_st b_wn u_id)), (b_tp, (arI G 400 v_tp)), (b_op, (arI G 400 o_op)), (b_ar, (arI G 400 o_ar)), (b_pi, (arI G 400 o_pi)), (b_pa, (arI G 400 o_pa))]))) (g5_B G (va_A [(b_o, (oc12 u_th u_sa b_rf b_ro b_im b_ke u_fd b_tp u_td u_fr u_to u_so u_wo u_fa u_bd u_nc b_nl u_co b_op b_ar u_le b_pi b_pa u_pd u_od b_ws b_hw u_la b_se b_re u_bk u_va u_su u_ce u_ho u_wy u_bt u_ps b_pt u_tg u_sn b_ip u_ic b_ah b_be b_me u_wd b_tr b_ld u_st b_wn u_id)), (b_tp, (arI G 400 v_tp)), (b_op, (arI G 400 v_op)), (b_ar, (arI G 400 v_ar)), (b_pi, (arI G 400 v_pi)), (b_pa, (arI G 400 v_pa))] sz)) (va_A [(b_o, (oc12 u_th u_sa b_rf b_ro b_im b_ke u_fd b_tp u_td u_fr u_to u_so u_wo u_fa u_bd u_nc b_nl u_co b_op b_ar u_le b_pi b_pa u_pd u_od b_ws b_hw u_la b_se b_re u_bk u_va u_su u_ce u_ho u_wy u_bt u_ps b_pt u_tg u_sn b_ip u_ic b_ah b_be b_me u_wd b_tr b_ld u_st b_wn u_id)), (b_tp, (arI G 400 v_tp)), (b_op, (arI G 400 v_op)), (b_ar, (arI G 400 v_ar)), (b_pi, (arI G 400 v_pi)), (b_pa, (arI G 400 v_pa))] sz)) 0 0 (va_A [(b_o, (oc12 u_th u_sa b_rf b_ro b_im b_ke u_fd b_tp u_td u_fr u_to u_so u_wo u_fa u_bd u_nc b_nl u_co b_op b_ar u_le b_pi b_pa u_pd u_od b_ws b_hw u_la b_se b_re u_bk u_va u_su u_ce u_ho u_wy u_bt u_ps b_pt u_tg u_sn b_ip u_ic b_ah b_be b_me u_wd b_tr b_ld u_st b_wn u_id)), (b_tp, (arI G 400 v_tp)), (b_op, (arI G 400 v_op)), (b_ar, (arI G 400 v_ar)), (b_pi, (arI G 400 v_pi)), (b_pa, (arI G 400 v_pa))] sz) := by
  refine Met.ofW (cc := cX12_behindSum) (maxL := 4) (ret := (some .int)) (by decide) rfl ?_
  intro p e s m args below meth c s₁ B hml hv
  obtain ⟨rfl, hsz, hP, hK, hD0, hN, hT⟩ := hv
  have hx := B.exec
  have hb := B.bytes
  have hr := B.returns
  have hts : ∀ w ∈ tblG, w.before _ s = true := fun w h => atoms_spec (ws := (wsG yX12_behindSum cX12_behindSum 4 (some .int))) B.pre w (List.mem_cons_of_mem _ h)
  have hown : s.vm.findClass RX12 = some m.cls := findClass_of_methodNamed B.named
  have hlocks := B.notSynchronized
  subst hsz
  have hD := hD0.self (sz := s.heap.size)
  generalize hAe : va_A [(b_o, (oc12 u_th u_sa b_rf b_ro b_im b_ke u_fd b_tp u_td u_fr u_to u_so u_wo u_fa u_bd u_nc b_nl u_co b_op b_ar u_le b_pi b_pa u_pd u_od b_ws b_hw u_la b_se b_re u_bk u_va u_su u_ce u_ho u_wy u_bt u_ps b_pt u_tg u_sn b_ip u_ic b_ah b_be b_me u_wd b_tr b_ld u_st b_wn u_id)), (b_tp, (arI G 400 v_tp)), (b_op, (arI G 400 v_op)), (b_ar, (arI G 400 v_ar)), (b_pi, (arI G 400 v_pi)), (b_pa, (arI G 400 v_pa))] s.heap.size = A at hD hT ⊢
  have hA : ∀ q : Nat, s.heap.size ≤ q → A q := fun q h => by rw [← hAe]; exact Or.inr h
  have hS : va_S A s.heap s.heap [] := va_S.rf
  have hP : va_P G.1 vwCl [(b_o, (oc12 u_th u_sa b_rf b_ro b_im b_ke u_fd b_tp u_td u_fr u_to u_so u_wo u_fa u_bd u_nc b_nl u_co b_op b_ar u_le b_pi b_pa u_pd u_od b_ws b_hw u_la b_se b_re u_bk u_va u_su u_ce u_ho u_wy u_bt u_ps b_pt u_tg u_sn b_ip u_ic b_ah b_be b_me u_wd b_tr b_ld u_st b_wn u_id)), (b_tp, (arI G 400 v_tp)), (b_op, (arI G 400 v_op)), (b_ar, (arI G 400 v_ar)), (b_pi, (arI G 400 v_pi)), (b_pa, (arI G 400 v_pa))] s.heap := hP
  have hl := lv_entry ([.ref b_o, .int p_1]) (n := 4) (Nat.le_of_ble_eq_true rfl)
  rw [lg_entry_eq]
  generalize (lg_sl ([.ref b_o, .int p_1]) ++ List.replicate (4 - (lg_sl ([.ref b_o, .int p_1])).length) Slot.unset).toArray = ls at hl ⊢
  have hl : lv_has ls 4 [(0, .ref b_o), (1, .int p_1)] := hl
  have hmf9 := xj_mf e_x
  refine lv_aload_n hx hb dX12_behindSum_0 rfl (lv_at hl 0 rfl) ?_
  refine lv_bipush (v := 43) hx hb dX12_behindSum_1 (by decide) ?_
  obtain ⟨hPc, hDc, hFc⟩ := g5_sub3 (wc := [(b_o, (oc12 u_th u_sa b_rf b_ro b_im b_ke u_fd b_tp u_td u_fr u_to u_so u_wo u_fa u_bd u_nc b_nl u_co b_op b_ar u_le b_pi b_pa u_pd u_od b_ws b_hw u_la b_se b_re u_bk u_va u_su u_ce u_ho u_wy u_bt u_ps b_pt u_tg u_sn b_ip u_ic b_ah b_be b_me u_wd b_tr b_ld u_st b_wn u_id))]) hP hD hS hA [0] (by decide) rfl
  refine va_calli (va_runV (As := [.int 43]) (rest := []) ⟨hx, hb, hml, hown, hts⟩ (n_isSign l G b_o b_rf b_ro b_im b_ke b_tp b_nl b_op b_ar b_pi b_pa b_ws b_hw b_se b_re b_pt b_ip b_ah b_be b_me b_tr b_ld b_wn s.heap.size u_th u_sa u_fd u_td u_fr u_to u_so u_fa u_bd u_nc u_co u_le u_pd u_od u_la u_bk u_ce u_ho u_wy u_bt u_ps u_tg u_sn u_ic u_wd u_id 43 u_wo u_va u_su u_st h_u_td h_u_fr h_u_to ⟨by omega, by omega⟩ h_u_nc h_u_co h_u_pd h_u_la h_u_bk h_u_ce h_u_ho h_u_wy h_u_bt h_u_ps h_u_ic h_u_id) (cwV 1 hts gV_X12_267 rfl rfl rfl hv_X12_isSign ⟨Nat.le_of_ble_eq_true rfl, Nat.le_of_ble_eq_true rfl⟩) (g5_preV hPc hK hDc hN hT hS hFc (ci := 12) (q0 := 0) rfl rfl) rfl rfl hl.1 rfl (lv_room (Nat.le_of_ble_eq_true rfl)) dX12_behindSum_3 ⟨Nat.le_of_ble_eq_true rfl, Nat.le_of_ble_eq_true rfl⟩) hS (fun q _ h => hFc q h) hFc (fun r u t H1 locs ht hvm hw hB hz1 hk1 hS => ?_)
  obtain ⟨hP1, hD1⟩ := hB
  rw [ht] at hP1
  rcases hw with ⟨i_1, rfl, rfl⟩ | ⟨rfl, rfl⟩
  ·
    have i_1 : u_so.toInt = 3 := i_1
    obtain ⟨hP, hD⟩ := va_join (wr := [(b_tp, (arI G 400 v_tp)), (b_op, (arI G 400 v_op)), (b_ar, (arI G 400 v_ar)), (b_pi, (arI G 400 v_pi)), (b_pa, (arI G 400 v_pa))]) hP hD [0] [1, 2, 3, 4, 5] rfl rfl (by decide) (by decide) hk1 hFc hP1 hD1
    generalize H1 = H at hP hS ⊢
    refine g5_rs [(b_tp, (arI G 400 v_tp)), (b_op, (arI G 400 v_op)), (b_ar, (arI G 400 v_ar)), (b_pi, (arI G 400 v_pi)), (b_pa, (arI G 400 v_pa)), (b_o, (oc12 u_th u_sa b_rf b_ro b_im b_ke u_fd b_tp u_td u_fr u_to u_so u_wo u_fa u_bd u_nc b_nl u_co b_op b_ar u_le b_pi b_pa u_pd u_od b_ws b_hw u_la b_se b_re u_bk u_va u_su u_ce u_ho u_wy u_bt u_ps b_pt u_tg u_sn b_ip u_ic b_ah b_be b_me u_wd b_tr b_ld u_st b_wn u_id))] hP hD (fun hP hD => ?_)
    refine lv_if_eq (tgt := 14) hx hb dX12_behindSum_6 (by decide) (fun c_2 => ?_) (fun c_2 => ?_)
    ·
      exact absurd c_2 (by decide)
    ·
      refine lv_bipush (v := 20) hx hb dX12_behindSum_9 (by decide) ?_
      refine lv_goto (tgt := 57) hx hb dX12_behindSum_11 (by decide) ?_
      refine lv_istore_n (lv' := [(2, .int 20), (0, .ref b_o), (1, .int p_1)]) hx hb dX12_behindSum_57 rfl hl (by decide) rfl (fun ls hl => ?_)
      refine lv_iload_n hx hb dX12_behindSum_58 rfl (lv_at hl 0 rfl) ?_
      refine lv_iconst (v := (-1)) hx hb dX12_behindSum_59 (by decide) ?_
      refine lv_icmp_eq (tgt := 83) hx hb dX12_behindSum_60 (by decide) (fun c_3 => ?_) (fun c_3 => ?_)
      ·
        exact absurd c_3 (by decide)
      ·
        have hlt9 : u_fr.toInt < u_to.toInt := tks_lt e_s (by omega)
        have hE_4 : HJ v_op v_ar v_pi v_pa g_a.toInt u_co.toInt u_pd.toInt 1 := tj_d1 e_j (by decide)
        refine lv_aload_n hx hb dX12_behindSum_63 rfl (lv_at hl 1 rfl) ?_
        refine lv_iload_n hx hb dX12_behindSum_64 rfl (lv_at hl 0 rfl) ?_
        obtain ⟨hPc, hDc, hFc⟩ := g5_sub3 (wc := []) hP hD hS hA [] (by decide) rfl
        refine va_calli (va_runS (As := [.int 20]) (rest := [.ref b_o]) ⟨hx, hb, hml, hown, hts⟩ (n_binds20 l G H.size) (va_cwS 1 hts gS_X12_243 rfl rfl rfl hs_X12_binds ⟨Nat.le_of_ble_eq_true rfl, Nat.le_of_ble_eq_true rfl⟩) (g5_preS hPc hK hDc hN hT hS hFc) rfl rfl hl.1 rfl (lv_room (Nat.le_of_ble_eq_true rfl)) dX12_behindSum_65 ⟨Nat.le_of_ble_eq_true rfl, Nat.le_of_ble_eq_true rfl⟩) hS (fun q _ h => hFc q h) hFc (fun r u t H1 locs ht hvm hw hB hz1 hk1 hS => ?_)
        obtain ⟨hP1, hD1⟩ := hB
        rw [ht] at hP1
        obtain ⟨rfl, rfl⟩ := hw
        have hP := g5_same hP hk1
        generalize H1 = H at hP hS ⊢
        obtain ⟨hPc, hDc, hFc⟩ := g5_sub3 (wc := [(b_o, (oc12 u_th u_sa b_rf b_ro b_im b_ke u_fd b_tp u_td u_fr u_to u_so u_wo u_fa u_bd u_nc b_nl u_co b_op b_ar u_le b_pi b_pa u_pd u_od b_ws b_hw u_la b_se b_re u_bk u_va u_su u_ce u_ho u_wy u_bt u_ps b_pt u_tg u_sn b_ip u_ic b_ah b_be b_me u_wd b_tr b_ld u_st b_wn u_id)), (b_op, (arI G 400 v_op)), (b_ar, (arI G 400 v_ar)), (b_pi, (arI G 400 v_pi)), (b_pa, (arI G 400 v_pa))]) hP hD hS hA [5, 1, 2, 3, 4] (by decide) rfl
        refine va_callv (va_runV (As := [.int 5]) (rest := []) ⟨hx, hb, hml, hown, hts⟩ (n_settleH l G b_o b_op b_ar b_pi b_pa b_rf b_ro b_im b_ke b_tp b_nl b_ws b_hw b_se b_re b_pt b_ip b_ah b_be b_me b_tr b_ld b_wn H.size u_th u_sa u_fd u_td u_fr u_to u_so u_fa u_bd u_nc u_co u_le u_pd u_od u_la u_bk u_ce u_ho u_wy u_bt u_ps u_tg u_sn u_ic u_wd u_id 5 g_a u_fr u_wo u_va u_su u_st v_op v_ar v_pi v_pa g_op g_ar h_u_td h_u_fr h_u_to ⟨by omega, by omega⟩ h_u_nc h_u_co h_u_pd h_u_la h_u_bk h_u_ce h_u_ho h_u_wy h_u_bt h_u_ps h_u_ic h_u_id ⟨by decide, by decide⟩ (by omega) (e_x) (hE_4)) (cwV 1 hts gV_X12_288 rfl rfl rfl hv_X12_settle ⟨Nat.le_of_ble_eq_true rfl, Nat.le_of_ble_eq_true rfl⟩) (g5_preV hPc hK hDc hN hT hS hFc (ci := 12) (q0 := 0) rfl rfl) rfl rfl hl.1 rfl (lv_room (Nat.le_of_ble_eq_true rfl)) dX12_behindSum_68 ⟨Nat.le_of_ble_eq_true rfl, Nat.le_of_ble_eq_true rfl⟩) hS (fun q _ h => hFc q h) hFc (fun u t H1 locs ht hvm hw hB hz1 hk1 hS => ?_)
        obtain ⟨hP1, hD1⟩ := hB
        rw [ht] at hP1
        obtain ⟨z12, z13, z14, z15, i_5, i_6, i_7, i_8, i_9, i_10, i_11, rfl⟩ := hw
        have i_5 : 0 ≤ z12.toInt ∧ z12.toInt ≤ 400 := i_5
        have i_6 : 0 ≤ z13.toInt ∧ z13.toInt ≤ 400 := i_6
        have i_7 : XJ g_op g_ar z14 z15 v_pi v_pa g_a.toInt z12.toInt z13.toInt u_fr.toInt := i_7
        have i_8 : HJ z14 z15 v_pi v_pa g_a.toInt z12.toInt z13.toInt 1 := i_8
        have i_9 : S1 v_pi u_pd.toInt z13.toInt := i_9
        have i_10 : S2 v_pi z13.toInt (5 : Int32).toInt := i_10
        have i_11 : z13.toInt ≤ u_pd.toInt := i_11
        obtain ⟨hP, hD⟩ := va_join (wr := [(b_tp, (arI G 400 v_tp))]) hP hD [5, 1, 2, 3, 4] [0] rfl rfl (by decide) (by decide) hk1 hFc hP1 hD1
        generalize H1 = H at hP hS ⊢
        refine g5_rs [(b_tp, (arI G 400 v_tp)), (b_o, (oc12 u_th u_sa b_rf b_ro b_im b_ke u_fd b_tp u_td u_fr u_to u_so u_wo u_fa u_bd u_nc b_nl z12 b_op b_ar u_le b_pi b_pa z13 u_od b_ws b_hw u_la b_se b_re u_bk u_va u_su u_ce u_ho u_wy u_bt u_ps b_pt u_tg u_sn b_ip u_ic b_ah b_be b_me u_wd b_tr b_ld u_st b_wn u_id)), (b_op, (arI G 400 z14)), (b_ar, (arI G 400 z15)), (b_pi, (arI G 400 v_pi)), (b_pa, (arI G 400 v_pa))] hP hD (fun hP hD => ?_)
        have hmf8 := xj_mf i_7
        refine lv_aload_n hx hb dX12_behindSum_71 rfl (lv_at hl 1 rfl) ?_
        refine lv_iload_n hx hb dX12_behindSum_72 rfl (lv_at hl 0 rfl) ?_
        refine lv_iconst (v := 0) hx hb dX12_behindSum_73 (by decide) ?_
        obtain ⟨hPc, hDc, hFc⟩ := g5_sub3 (wc := [(b_o, (oc12 u_th u_sa b_rf b_ro b_im b_ke u_fd b_tp u_td u_fr u_to u_so u_wo u_fa u_bd u_nc b_nl z12 b_op b_ar u_le b_pi b_pa z13 u_od b_ws b_hw u_la b_se b_re u_bk u_va u_su u_ce u_ho u_wy u_bt u_ps b_pt u_tg u_sn b_ip u_ic b_ah b_be b_me u_wd b_tr b_ld u_st b_wn u_id)), (b_pi, (arI G 400 v_pi)), (b_pa, (arI G 400 v_pa))]) hP hD hS hA [1, 4, 5] (by decide) rfl
        refine va_callv (va_runV (As := [.int 20, .int 0]) (rest := []) ⟨hx, hb, hml, hown, hts⟩ (n_push l G b_o b_pi b_pa b_rf b_ro b_im b_ke b_tp b_nl b_op b_ar b_ws b_hw b_se b_re b_pt b_ip b_ah b_be b_me b_tr b_ld b_wn H.size u_th u_sa u_fd u_td u_fr u_to u_so u_fa u_bd u_nc z12 u_le z13 u_od u_la u_bk u_ce u_ho u_wy u_bt u_ps u_tg u_sn u_ic u_wd u_id 20 0 u_wo u_va u_su u_st v_pi v_pa h_u_td h_u_fr h_u_to ⟨by omega, by omega⟩ h_u_nc i_5 i_6 h_u_la h_u_bk h_u_ce h_u_ho h_u_wy h_u_bt h_u_ps h_u_ic h_u_id (by omega)) (cwV 2 hts gV_X12_261 rfl rfl rfl hv_X12_push ⟨Nat.le_of_ble_eq_true rfl, Nat.le_of_ble_eq_true rfl⟩) (g5_preV hPc hK hDc hN hT hS hFc (ci := 12) (q0 := 0) rfl rfl) rfl rfl hl.1 rfl (lv_room (Nat.le_of_ble_eq_true rfl)) dX12_behindSum_74 ⟨Nat.le_of_ble_eq_true rfl, Nat.le_of_ble_eq_true rfl⟩) hS (fun q _ h => hFc q h) hFc (fun u t H1 locs ht hvm hw hB hz1 hk1 hS => ?_)
        obtain ⟨hP1, hD1⟩ := hB
        rw [ht] at hP1
        obtain ⟨z18, i_16, i_17, rfl⟩ := hw
        have i_16 : 0 ≤ z18.toInt ∧ z18.toInt ≤ 400 := i_16
        have i_17 : z18.toInt = z13.toInt + 1 := i_17
        obtain ⟨hP, hD⟩ := va_join (wr := [(b_tp, (arI G 400 v_tp)), (b_op, (arI G 400 z14)), (b_ar, (arI G 400 z15))]) hP hD [1, 4, 5] [0, 2, 3] rfl rfl (by decide) (by decide) hk1 hFc hP1 hD1
        generalize H1 = H at hP hS ⊢
        refine g5_rs [(b_tp, (arI G 400 v_tp)), (b_op, (arI G 400 z14)), (b_ar, (arI G 400 z15)), (b_o, (oc12 u_th u_sa b_rf b_ro b_im b_ke u_fd b_tp u_td u_fr u_to u_so u_wo u_fa u_bd u_nc b_nl z12 b_op b_ar u_le b_pi b_pa z18 u_od b_ws b_hw u_la b_se b_re u_bk u_va u_su u_ce u_ho u_wy u_bt u_ps b_pt u_tg u_sn b_ip u_ic b_ah b_be b_me u_wd b_tr b_ld u_st b_wn u_id)), (b_pi, (arI G 400 (upd v_pi z13.toNatClampNeg 20))), (b_pa, (arI G 400 (upd v_pa z13.toNatClampNeg 0)))] hP hD (fun hP hD => ?_)
        refine lv_aload_n hx hb dX12_behindSum_77 rfl (lv_at hl 1 rfl) ?_
        obtain ⟨hPc, hDc, hFc⟩ := g5_sub3 (wc := [(b_o, (oc12 u_th u_sa b_rf b_ro b_im b_ke u_fd b_tp u_td u_fr u_to u_so u_wo u_fa u_bd u_nc b_nl z12 b_op b_ar u_le b_pi b_pa z18 u_od b_ws b_hw u_la b_se b_re u_bk u_va u_su u_ce u_ho u_wy u_bt u_ps b_pt u_tg u_sn b_ip u_ic b_ah b_be b_me u_wd b_tr b_ld u_st b_wn u_id)), (b_tp, (arI G 400 v_tp))]) hP hD hS hA [3, 0] (by decide) rfl
        refine va_callv (va_runV (As := []) (rest := []) ⟨hx, hb, hml, hown, hts⟩ (n_next l G b_o b_tp b_rf b_ro b_im b_ke b_nl b_op b_ar b_pi b_pa b_ws b_hw b_se b_re b_pt b_ip b_ah b_be b_me b_tr b_ld b_wn H.size u_th u_sa u_fd u_td u_fr u_to u_so u_fa u_bd u_nc z12 u_le z18 u_od u_la u_bk u_ce u_ho u_wy u_bt u_ps u_tg u_sn u_ic u_wd u_id u_wo u_va u_su u_st v_tp h_u_td h_u_fr h_u_to ⟨by omega, by omega⟩ h_u_nc i_5 i_16 h_u_la h_u_bk h_u_ce h_u_ho h_u_wy h_u_bt h_u_ps h_u_ic h_u_id (by omega)) (cwV 0 hts gV_X12_208 rfl rfl rfl hv_X12_next ⟨Nat.le_of_ble_eq_true rfl, Nat.le_of_ble_eq_true rfl⟩) (g5_preV hPc hK hDc hN hT hS hFc (ci := 12) (q0 := 0) rfl rfl) rfl rfl hl.1 rfl (lv_room (Nat.le_of_ble_eq_true rfl)) dX12_behindSum_78 ⟨Nat.le_of_ble_eq_true rfl, Nat.le_of_ble_eq_true rfl⟩) hS (fun q _ h => hFc q h) hFc (fun u t H1 locs ht hvm hw hB hz1 hk1 hS => ?_)
        obtain ⟨hP1, hD1⟩ := hB
        rw [ht] at hP1
        obtain ⟨z23, z24, z25, z26, i_19, i_20, i_21, i_22, rfl⟩ := hw
        have i_19 : 0 ≤ z23.toInt ∧ z23.toInt ≤ 400 := i_19
        have i_20 : 0 ≤ z24.toInt ∧ z24.toInt ≤ 400 := i_20
        have i_21 : u_to.toInt ≤ z23.toInt ∧ z23.toInt ≤ z24.toInt ∧ z24.toInt ≤ u_td.toInt := i_21
        have i_22 : TKs z25.toInt z23.toInt z24.toInt := i_22
        obtain ⟨hP, hD⟩ := va_join (wr := [(b_op, (arI G 400 z14)), (b_ar, (arI G 400 z15)), (b_pi, (arI G 400 (upd v_pi z13.toNatClampNeg 20))), (b_pa, (arI G 400 (upd v_pa z13.toNatClampNeg 0)))]) hP hD [3, 0] [1, 2, 4, 5] rfl rfl (by decide) (by decide) hk1 hFc hP1 hD1
        generalize H1 = H at hP hS ⊢
        refine g5_rs [(b_op, (arI G 400 z14)), (b_ar, (arI G 400 z15)), (b_pi, (arI G 400 (upd v_pi z13.toNatClampNeg 20))), (b_pa, (arI G 400 (upd v_pa z13.toNatClampNeg 0))), (b_o, (oc12 u_th u_sa b_rf b_ro b_im b_ke u_fd b_tp u_td z23 z24 z25 z26 u_fa u_bd u_nc b_nl z12 b_op b_ar u_le b_pi b_pa z18 u_od b_ws b_hw u_la b_se b_re u_bk u_va u_su u_ce u_ho u_wy u_bt u_ps b_pt u_tg u_sn b_ip u_ic b_ah b_be b_me u_wd b_tr b_ld u_st b_wn u_id)), (b_tp, (arI G 400 v_tp))] hP hD (fun hP hD => ?_)
        refine lv_iconst (v := 1) hx hb dX12_behindSum_81 (by decide) ?_
        exact W.iret (v := 1) hx hb hr (fun t ht hW => ⟨⟨1, [(b_o, (oc12 u_th u_sa b_rf b_ro b_im b_ke u_fd b_tp u_td z23 z24 z25 z26 u_fa u_bd u_nc b_nl z12 b_op b_ar u_le b_pi b_pa z18 u_od b_ws b_hw u_la b_se b_re u_bk u_va u_su u_ce u_ho u_wy u_bt u_ps b_pt u_tg u_sn b_ip u_ic b_ah b_be b_me u_wd b_tr b_ld u_st b_wn u_id)), (b_tp, (arI G 400 v_tp)), (b_op, (arI G 400 z14)), (b_ar, (arI G 400 z15)), (b_pi, (arI G 400 (upd v_pi z13.toNatClampNeg 20))), (b_pa, (arI G 400 (upd v_pa z13.toNatClampNeg 0)))], rfl, Or.inr (⟨1, z23, z24, z25, z26, z12, z18, u_od, z14, z15, (upd v_pi z13.toNatClampNeg 20), (upd v_pa z13.toNatClampNeg 0), i_19, i_20, i_5, i_16, ⟨by have zc_o_r : (1 : Int32).toInt = 1 := (by decide); omega, by have zc_o_r : (1 : Int32).toInt = 1 := (by decide); omega⟩, by omega, i_22, xj_push i_7 (by omega) (by omega) ⟨by decide, by decide⟩ (Or.inl (by decide)), tj_1 (hj_push2 i_8 (by omega) (by omega) ⟨by decide, by decide⟩ (Or.inl (by decide))) (by decide), by have w9 := (twt_0 (by decide) : twt (1 : Int32).toInt = 0); omega, rfl, rfl⟩), by rw [ht]; exact hP.sub [4, 5, 0, 1, 2, 3] rfl, hD.sub [4, 5, 0, 1, 2, 3] (by decide) rfl⟩, hS.F ht⟩) hS.2.2 dX12_behindSum_82
  ·
    obtain ⟨hP, hD⟩ := va_join (wr := [(b_tp, (arI G 400 v_tp)), (b_op, (arI G 400 v_op)), (b_ar, (arI G 400 v_ar)), (b_pi, (arI G 400 v_pi)), (b_pa, (arI G 400 v_pa))]) hP hD [0] [1, 2, 3, 4, 5] rfl rfl (by decide) (by decide) hk1 hFc hP1 hD1
    generalize H1 = H at hP hS ⊢
    refine g5_rs [(b_tp, (arI G 400 v_tp)), (b_op, (arI G 400 v_op)), (b_ar, (arI G 400 v_ar)), (b_pi, (arI G 400 v_pi)), (b_pa, (arI G 400 v_pa)), (b_o, (oc12 u_th u_sa b_rf b_ro b_im b_ke u_fd b_tp u_td u_fr u_to u_so u_wo u_fa u_bd u_nc b_nl u_co b_op b_ar u_le b_pi b_pa u_pd u_od b_ws b_hw u_la b_se b_re u_bk u_va u_su u_ce u_ho u_wy u_bt u_ps b_pt u_tg u_sn b_ip u_ic b_ah b_be b_me u_wd b_tr b_ld u_st b_wn u_id))] hP hD (fun hP hD => ?_)
    refine lv_if_eq (tgt := 14) hx hb dX12_behindSum_6 (by decide) (fun c_27 => ?_) (fun c_27 => ?_)
    ·
      refine lv_aload_n hx hb dX12_behindSum_14 rfl (lv_at hl 0 rfl) ?_
      refine lv_bipush (v := 45) hx hb dX12_behindSum_15 (by decide) ?_
      obtain ⟨hPc, hDc, hFc⟩ := g5_sub3 (wc := [(b_o, (oc12 u_th u_sa b_rf b_ro b_im b_ke u_fd b_tp u_td u_fr u_to u_so u_wo u_fa u_bd u_nc b_nl u_co b_op b_ar u_le b_pi b_pa u_pd u_od b_ws b_hw u_la b_se b_re u_bk u_va u_su u_ce u_ho u_wy u_bt u_ps b_pt u_tg u_sn b_ip u_ic b_ah b_be b_me u_wd b_tr b_ld u_st b_wn u_id))]) hP hD hS hA [5] (by decide) rfl
      refine va_calli (va_runV (As := [.int 45]) (rest := []) ⟨hx, hb, hml, hown, hts⟩ (n_isSign l G b_o b_rf b_ro b_im b_ke b_tp b_nl b_op b_ar b_pi b_pa b_ws b_hw b_se b_re b_pt b_ip b_ah b_be b_me b_tr b_ld b_wn H.size u_th u_sa u_fd u_td u_fr u_to u_so u_fa u_bd u_nc u_co u_le u_pd u_od u_la u_bk u_ce u_ho u_wy u_bt u_ps u_tg u_sn u_ic u_wd u_id 45 u_wo u_va u_su u_st h_u_td h_u_fr h_u_to ⟨by omega, by omega⟩ h_u_nc h_u_co h_u_pd h_u_la h_u_bk h_u_ce h_u_ho h_u_wy h_u_bt h_u_ps h_u_ic h_u_id) (cwV 1 hts gV_X12_267 rfl rfl rfl hv_X12_isSign ⟨Nat.le_of_ble_eq_true rfl, Nat.le_of_ble_eq_true rfl⟩) (g5_preV hPc hK hDc hN hT hS hFc (ci := 12) (q0 := 0) rfl rfl) rfl rfl hl.1 rfl (lv_room (Nat.le_of_ble_eq_true rfl)) dX12_behindSum_17 ⟨Nat.le_of_ble_eq_true rfl, Nat.le_of_ble_eq_true rfl⟩) hS (fun q _ h => hFc q h) hFc (fun r u t H1 locs ht hvm hw hB hz1 hk1 hS => ?_)
      obtain ⟨hP1, hD1⟩ := hB
      rw [ht] at hP1
      rcases hw with ⟨i_28, rfl, rfl⟩ | ⟨rfl, rfl⟩
      ·
        have i_28 : u_so.toInt = 3 := i_28
        obtain ⟨hP, hD⟩ := va_join (wr := [(b_tp, (arI G 400 v_tp)), (b_op, (arI G 400 v_op)), (b_ar, (arI G 400 v_ar)), (b_pi, (arI G 400 v_pi)), (b_pa, (arI G 400 v_pa))]) hP hD [5] [0, 1, 2, 3, 4] rfl rfl (by decide) (by decide) hk1 hFc hP1 hD1
        generalize H1 = H at hP hS ⊢
        refine g5_rs [(b_tp, (arI G 400 v_tp)), (b_op, (arI G 400 v_op)), (b_ar, (arI G 400 v_ar)), (b_pi, (arI G 400 v_pi)), (b_pa, (arI G 400 v_pa)), (b_o, (oc12 u_th u_sa b_rf b_ro b_im b_ke u_fd b_tp u_td u_fr u_to u_so u_wo u_fa u_bd u_nc b_nl u_co b_op b_ar u_le b_pi b_pa u_pd u_od b_ws b_hw u_la b_se b_re u_bk u_va u_su u_ce u_ho u_wy u_bt u_ps b_pt u_tg u_sn b_ip u_ic b_ah b_be b_me u_wd b_tr b_ld u_st b_wn u_id))] hP hD (fun hP hD => ?_)
        refine lv_if_eq (tgt := 28) hx hb dX12_behindSum_20 (by decide) (fun c_29 => ?_) (fun c_29 => ?_)
        ·
          exact absurd c_29 (by decide)
        ·
          refine lv_bipush (v := 21) hx hb dX12_behindSum_23 (by decide) ?_
          refine lv_goto (tgt := 57) hx hb dX12_behindSum_25 (by decide) ?_
          refine lv_istore_n (lv' := [(2, .int 21), (0, .ref b_o), (1, .int p_1)]) hx hb dX12_behindSum_57 rfl hl (by decide) rfl (fun ls hl => ?_)
          refine lv_iload_n hx hb dX12_behindSum_58 rfl (lv_at hl 0 rfl) ?_
          refine lv_iconst (v := (-1)) hx hb dX12_behindSum_59 (by decide) ?_
          refine lv_icmp_eq (tgt := 83) hx hb dX12_behindSum_60 (by decide) (fun c_30 => ?_) (fun c_30 => ?_)
          ·
            exact absurd c_30 (by decide)
          ·
            have hlt9 : u_fr.toInt < u_to.toInt := tks_lt e_s (by omega)
            have hE_31 : HJ v_op v_ar v_pi v_pa g_a.toInt u_co.toInt u_pd.toInt 1 := tj_d1 e_j (by decide)
            refine lv_aload_n hx hb dX12_behindSum_63 rfl (lv_at hl 1 rfl) ?_
            refine lv_iload_n hx hb dX12_behindSum_64 rfl (lv_at hl 0 rfl) ?_
            obtain ⟨hPc, hDc, hFc⟩ := g5_sub3 (wc := []) hP hD hS hA [] (by decide) rfl
            refine va_calli (va_runS (As := [.int 21]) (rest := [.ref b_o]) ⟨hx, hb, hml, hown, hts⟩ (n_binds21 l G H.size) (va_cwS 1 hts gS_X12_243 rfl rfl rfl hs_X12_binds ⟨Nat.le_of_ble_eq_true rfl, Nat.le_of_ble_eq_true rfl⟩) (g5_preS hPc hK hDc hN hT hS hFc) rfl rfl hl.1 rfl (lv_room (Nat.le_of_ble_eq_true rfl)) dX12_behindSum_65 ⟨Nat.le_of_ble_eq_true rfl, Nat.le_of_ble_eq_true rfl⟩) hS (fun q _ h => hFc q h) hFc (fun r u t H1 locs ht hvm hw hB hz1 hk1 hS => ?_)
            obtain ⟨hP1, hD1⟩ := hB
            rw [ht] at hP1
            obtain ⟨rfl, rfl⟩ := hw
            have hP := g5_same hP hk1
            generalize H1 = H at hP hS ⊢
            obtain ⟨hPc, hDc, hFc⟩ := g5_sub3 (wc := [(b_o, (oc12 u_th u_sa b_rf b_ro b_im b_ke u_fd b_tp u_td u_fr u_to u_so u_wo u_fa u_bd u_nc b_nl u_co b_op b_ar u_le b_pi b_pa u_pd u_od b_ws b_hw u_la b_se b_re u_bk u_va u_su u_ce u_ho u_wy u_bt u_ps b_pt u_tg u_sn b_ip u_ic b_ah b_be b_me u_wd b_tr b_ld u_st b_wn u_id)), (b_op, (arI G 400 v_op)), (b_ar, (arI G 400 v_ar)), (b_pi, (arI G 400 v_pi)), (b_pa, (arI G 400 v_pa))]) hP hD hS hA [5, 1, 2, 3, 4] (by decide) rfl
            refine va_callv (va_runV (As := [.int 5]) (rest := []) ⟨hx, hb, hml, hown, hts⟩ (n_settleH l G b_o b_op b_ar b_pi b_pa b_rf b_ro b_im b_ke b_tp b_nl b_ws b_hw b_se b_re b_pt b_ip b_ah b_be b_me b_tr b_ld b_wn H.size u_th u_sa u_fd u_td u_fr u_to u_so u_fa u_bd u_nc u_co u_le u_pd u_od u_la u_bk u_ce u_ho u_wy u_bt u_ps u_tg u_sn u_ic u_wd u_id 5 g_a u_fr u_wo u_va u_su u_st v_op v_ar v_pi v_pa g_op g_ar h_u_td h_u_fr h_u_to ⟨by omega, by omega⟩ h_u_nc h_u_co h_u_pd h_u_la h_u_bk h_u_ce h_u_ho h_u_wy h_u_bt h_u_ps h_u_ic h_u_id ⟨by decide, by decide⟩ (by omega) (e_x) (hE_31)) (cwV 1 hts gV_X12_288 rfl rfl rfl hv_X12_settle ⟨Nat.le_of_ble_eq_true rfl, Nat.le_of_ble_eq_true rfl⟩) (g5_preV hPc hK hDc hN hT hS hFc (ci := 12) (q0 := 0) rfl rfl) rfl rfl hl.1 rfl (lv_room (Nat.le_of_ble_eq_true rfl)) dX12_behindSum_68 ⟨Nat.le_of_ble_eq_true rfl, Nat.le_of_ble_eq_true rfl⟩) hS (fun q _ h => hFc q h) hFc (fun u t H1 locs ht hvm hw hB hz1 hk1 hS => ?_)
            obtain ⟨hP1, hD1⟩ := hB
            rw [ht] at hP1
            obtain ⟨z39, z40, z41, z42, i_32, i_33, i_34, i_35, i_36, i_37, i_38, rfl⟩ := hw
            have i_32 : 0 ≤ z39.toInt ∧ z39.toInt ≤ 400 := i_32
            have i_33 : 0 ≤ z40.toInt ∧ z40.toInt ≤ 400 := i_33
            have i_34 : XJ g_op g_ar z41 z42 v_pi v_pa g_a.toInt z39.toInt z40.toInt u_fr.toInt := i_34
            have i_35 : HJ z41 z42 v_pi v_pa g_a.toInt z39.toInt z40.toInt 1 := i_35
            have i_36 : S1 v_pi u_pd.toInt z40.toInt := i_36
            have i_37 : S2 v_pi z40.toInt (5 : Int32).toInt := i_37
            have i_38 : z40.toInt ≤ u_pd.toInt := i_38
            obtain ⟨hP, hD⟩ := va_join (wr := [(b_tp, (arI G 400 v_tp))]) hP hD [5, 1, 2, 3, 4] [0] rfl rfl (by decide) (by decide) hk1 hFc hP1 hD1
            generalize H1 = H at hP hS ⊢
            refine g5_rs [(b_tp, (arI G 400 v_tp)), (b_o, (oc12 u_th u_sa b_rf b_ro b_im b_ke u_fd b_tp u_td u_fr u_to u_so u_wo u_fa u_bd u_nc b_nl z39 b_op b_ar u_le b_pi b_pa z40 u_od b_ws b_hw u_la b_se b_re u_bk u_va u_su u_ce u_ho u_wy u_bt u_ps b_pt u_tg u_sn b_ip u_ic b_ah b_be b_me u_wd b_tr b_ld u_st b_wn u_id)), (b_op, (arI G 400 z41)), (b_ar, (arI G 400 z42)), (b_pi, (arI G 400 v_pi)), (b_pa, (arI G 400 v_pa))] hP hD (fun hP hD => ?_)
            have hmf8 := xj_mf i_34
            refine lv_aload_n hx hb dX12_behindSum_71 rfl (lv_at hl 1 rfl) ?_
            refine lv_iload_n hx hb dX12_behindSum_72 rfl (lv_at hl 0 rfl) ?_
            refine lv_iconst (v := 0) hx hb dX12_behindSum_73 (by decide) ?_
            obtain ⟨hPc, hDc, hFc⟩ := g5_sub3 (wc := [(b_o, (oc12 u_th u_sa b_rf b_ro b_im b_ke u_fd b_tp u_td u_fr u_to u_so u_wo u_fa u_bd u_nc b_nl z39 b_op b_ar u_le b_pi b_pa z40 u_od b_ws b_hw u_la b_se b_re u_bk u_va u_su u_ce u_ho u_wy u_bt u_ps b_pt u_tg u_sn b_ip u_ic b_ah b_be b_me u_wd b_tr b_ld u_st b_wn u_id)), (b_pi, (arI G 400 v_pi)), (b_pa, (arI G 400 v_pa))]) hP hD hS hA [1, 4, 5] (by decide) rfl
            refine va_callv (va_runV (As := [.int 21, .int 0]) (rest := []) ⟨hx, hb, hml, hown, hts⟩ (n_push l G b_o b_pi b_pa b_rf b_ro b_im b_ke b_tp b_nl b_op b_ar b_ws b_hw b_se b_re b_pt b_ip b_ah b_be b_me b_tr b_ld b_wn H.size u_th u_sa u_fd u_td u_fr u_to u_so u_fa u_bd u_nc z39 u_le z40 u_od u_la u_bk u_ce u_ho u_wy u_bt u_ps u_tg u_sn u_ic u_wd u_id 21 0 u_wo u_va u_su u_st v_pi v_pa h_u_td h_u_fr h_u_to ⟨by omega, by omega⟩ h_u_nc i_32 i_33 h_u_la h_u_bk h_u_ce h_u_ho h_u_wy h_u_bt h_u_ps h_u_ic h_u_id (by omega)) (cwV 2 hts gV_X12_261 rfl rfl rfl hv_X12_push ⟨Nat.le_of_ble_eq_true rfl, Nat.le_of_ble_eq_true rfl⟩) (g5_preV hPc hK hDc hN hT hS hFc (ci := 12) (q0 := 0) rfl rfl) rfl rfl hl.1 rfl (lv_room (Nat.le_of_ble_eq_true rfl)) dX12_behindSum_74 ⟨Nat.le_of_ble_eq_true rfl, Nat.le_of_ble_eq_true rfl⟩) hS (fun q _ h => hFc q h) hFc (fun u t H1 locs ht hvm hw hB hz1 hk1 hS => ?_)
            obtain ⟨hP1, hD1⟩ := hB
            rw [ht] at hP1
            obtain ⟨z45, i_43, i_44, rfl⟩ := hw
            have i_43 : 0 ≤ z45.toInt ∧ z45.toInt ≤ 400 := i_43
            have i_44 : z45.toInt = z40.toInt + 1 := i_44
            obtain ⟨hP, hD⟩ := va_join (wr := [(b_tp, (arI G 400 v_tp)), (b_op, (arI G 400 z41)), (b_ar, (arI G 400 z42))]) hP hD [1, 4, 5] [0, 2, 3] rfl rfl (by decide) (by decide) hk1 hFc hP1 hD1
            generalize H1 = H at hP hS ⊢
            refine g5_rs [(b_tp, (arI G 400 v_tp)), (b_op, (arI G 400 z41)), (b_ar, (arI G 400 z42)), (b_o, (oc12 u_th u_sa b_rf b_ro b_im b_ke u_fd b_tp u_td u_fr u_to u_so u_wo u_fa u_bd u_nc b_nl z39 b_op b_ar u_le b_pi b_pa z45 u_od b_ws b_hw u_la b_se b_re u_bk u_va u_su u_ce u_ho u_wy u_bt u_ps b_pt u_tg u_sn b_ip u_ic b_ah b_be b_me u_wd b_tr b_ld u_st b_wn u_id)), (b_pi, (arI G 400 (upd v_pi z40.toNatClampNeg 21))), (b_pa, (arI G 400 (upd v_pa z40.toNatClampNeg 0)))] hP hD (fun hP hD => ?_)
            refine lv_aload_n hx hb dX12_behindSum_77 rfl (lv_at hl 1 rfl) ?_
            obtain ⟨hPc, hDc, hFc⟩ := g5_sub3 (wc := [(b_o, (oc12 u_th u_sa b_rf b_ro b_im b_ke u_fd b_tp u_td u_fr u_to u_so u_wo u_fa u_bd u_nc b_nl z39 b_op b_ar u_le b_pi b_pa z45 u_od b_ws b_hw u_la b_se b_re u_bk u_va u_su u_ce u_ho u_wy u_bt u_ps b_pt u_tg u_sn b_ip u_ic b_ah b_be b_me u_wd b_tr b_ld u_st b_wn u_id)), (b_tp, (arI G 400 v_tp))]) hP hD hS hA [3, 0] (by decide) rfl
            refine va_callv (va_runV (As := []) (rest := []) ⟨hx, hb, hml, hown, hts⟩ (n_next l G b_o b_tp b_rf b_ro b_im b_ke b_nl b_op b_ar b_pi b_pa b_ws b_hw b_se b_re b_pt b_ip b_ah b_be b_me b_tr b_ld b_wn H.size u_th u_sa u_fd u_td u_fr u_to u_so u_fa u_bd u_nc z39 u_le z45 u_od u_la u_bk u_ce u_ho u_wy u_bt u_ps u_tg u_sn u_ic u_wd u_id u_wo u_va u_su u_st v_tp h_u_td h_u_fr h_u_to ⟨by omega, by omega⟩ h_u_nc i_32 i_43 h_u_la h_u_bk h_u_ce h_u_ho h_u_wy h_u_bt h_u_ps h_u_ic h_u_id (by omega)) (cwV 0 hts gV_X12_208 rfl rfl rfl hv_X12_next ⟨Nat.le_of_ble_eq_true rfl, Nat.le_of_ble_eq_true rfl⟩) (g5_preV hPc hK hDc hN hT hS hFc (ci := 12) (q0 := 0) rfl rfl) rfl rfl hl.1 rfl (lv_room (Nat.le_of_ble_eq_true rfl)) dX12_behindSum_78 ⟨Nat.le_of_ble_eq_true rfl, Nat.le_of_ble_eq_true rfl⟩) hS (fun q _ h => hFc q h) hFc (fun u t H1 locs ht hvm hw hB hz1 hk1 hS => ?_)
            obtain ⟨hP1, hD1⟩ := hB
            rw [ht] at hP1
            obtain ⟨z50, z51, z52, z53, i_46, i_47, i_48, i_49, rfl⟩ := hw
            have i_46 : 0 ≤ z50.toInt ∧ z50.toInt ≤ 400 := i_46
            have i_47 : 0 ≤ z51.toInt ∧ z51.toInt ≤ 400 := i_47
            have i_48 : u_to.toInt ≤ z50.toInt ∧ z50.toInt ≤ z51.toInt ∧ z51.toInt ≤ u_td.toInt := i_48
            have i_49 : TKs z52.toInt z50.toInt z51.toInt := i_49
            obtain ⟨hP, hD⟩ := va_join (wr := [(b_op, (arI G 400 z41)), (b_ar, (arI G 400 z42)), (b_pi, (arI G 400 (upd v_pi z40.toNatClampNeg 21))), (b_pa, (arI G 400 (upd v_pa z40.toNatClampNeg 0)))]) hP hD [3, 0] [1, 2, 4, 5] rfl rfl (by decide) (by decide) hk1 hFc hP1 hD1
            generalize H1 = H at hP hS ⊢
            refine g5_rs [(b_op, (arI G 400 z41)), (b_ar, (arI G 400 z42)), (b_pi, (arI G 400 (upd v_pi z40.toNatClampNeg 21))), (b_pa, (arI G 400 (upd v_pa z40.toNatClampNeg 0))), (b_o, (oc12 u_th u_sa b_rf b_ro b_im b_ke u_fd b_tp u_td z50 z51 z52 z53 u_fa u_bd u_nc b_nl z39 b_op b_ar u_le b_pi b_pa z45 u_od b_ws b_hw u_la b_se b_re u_bk u_va u_su u_ce u_ho u_wy u_bt u_ps b_pt u_tg u_sn b_ip u_ic b_ah b_be b_me u_wd b_tr b_ld u_st b_wn u_id)), (b_tp, (arI G 400 v_tp))] hP hD (fun hP hD => ?_)
            refine lv_iconst (v := 1) hx hb dX12_behindSum_81 (by decide) ?_
            exact W.iret (v := 1) hx hb hr (fun t ht hW => ⟨⟨1, [(b_o, (oc12 u_th u_sa b_rf b_ro b_im b_ke u_fd b_tp u_td z50 z51 z52 z53 u_fa u_bd u_nc b_nl z39 b_op b_ar u_le b_pi b_pa z45 u_od b_ws b_hw u_la b_se b_re u_bk u_va u_su u_ce u_ho u_wy u_bt u_ps b_pt u_tg u_sn b_ip u_ic b_ah b_be b_me u_wd b_tr b_ld u_st b_wn u_id)), (b_tp, (arI G 400 v_tp)), (b_op, (arI G 400 z41)), (b_ar, (arI G 400 z42)), (b_pi, (arI G 400 (upd v_pi z40.toNatClampNeg 21))), (b_pa, (arI G 400 (upd v_pa z40.toNatClampNeg 0)))], rfl, Or.inr (⟨1, z50, z51, z52, z53, z39, z45, u_od, z41, z42, (upd v_pi z40.toNatClampNeg 21), (upd v_pa z40.toNatClampNeg 0), i_46, i_47, i_32, i_43, ⟨by have zc_o_r : (1 : Int32).toInt = 1 := (by decide); omega, by have zc_o_r : (1 : Int32).toInt = 1 := (by decide); omega⟩, by omega, i_49, xj_push i_34 (by omega) (by omega) ⟨by decide, by decide⟩ (Or.inl (by decide)), tj_1 (hj_push2 i_35 (by omega) (by omega) ⟨by decide, by decide⟩ (Or.inl (by decide))) (by decide), by have w9 := (twt_0 (by decide) : twt (1 : Int32).toInt = 0); omega, rfl, rfl⟩), by rw [ht]; exact hP.sub [4, 5, 0, 1, 2, 3] rfl, hD.sub [4, 5, 0, 1, 2, 3] (by decide) rfl⟩, hS.F ht⟩) hS.2.2 dX12_behindSum_82
      ·
        obtain ⟨hP, hD⟩ := va_join (wr := [(b_tp, (arI G 400 v_tp)), (b_op, (arI G 400 v_op)), (b_ar, (arI G 400 v_ar)), (b_pi, (arI G 400 v_pi)), (b_pa, (arI G 400 v_pa))]) hP hD [5] [0, 1, 2, 3, 4] rfl rfl (by decide) (by decide) hk1 hFc hP1 hD1
        generalize H1 = H at hP hS ⊢
        refine g5_rs [(b_tp, (arI G 400 v_tp)), (b_op, (arI G 400 v_op)), (b_ar, (arI G 400 v_ar)), (b_pi, (arI G 400 v_pi)), (b_pa, (arI G 400 v_pa)), (b_o, (oc12 u_th u_sa b_rf b_ro b_im b_ke u_fd b_tp u_td u_fr u_to u_so u_wo u_fa u_bd u_nc b_nl u_co b_op b_ar u_le b_pi b_pa u_pd u_od b_ws b_hw u_la b_se b_re u_bk u_va u_su u_ce u_ho u_wy u_bt u_ps b_pt u_tg u_sn b_ip u_ic b_ah b_be b_me u_wd b_tr b_ld u_st b_wn u_id))] hP hD (fun hP hD => ?_)
        refine lv_if_eq (tgt := 28) hx hb dX12_behindSum_20 (by decide) (fun c_54 => ?_) (fun c_54 => ?_)
        ·
          refine lv_aload_n hx hb dX12_behindSum_28 rfl (lv_at hl 0 rfl) ?_
          refine lv_bipush (v := 42) hx hb dX12_behindSum_29 (by decide) ?_
          obtain ⟨hPc, hDc, hFc⟩ := g5_sub3 (wc := [(b_o, (oc12 u_th u_sa b_rf b_ro b_im b_ke u_fd b_tp u_td u_fr u_to u_so u_wo u_fa u_bd u_nc b_nl u_co b_op b_ar u_le b_pi b_pa u_pd u_od b_ws b_hw u_la b_se b_re u_bk u_va u_su u_ce u_ho u_wy u_bt u_ps b_pt u_tg u_sn b_ip u_ic b_ah b_be b_me u_wd b_tr b_ld u_st b_wn u_id))]) hP hD hS hA [5] (by decide) rfl
          refine va_calli (va_runV (As := [.int 42]) (rest := []) ⟨hx, hb, hml, hown, hts⟩ (n_isSign l G b_o b_rf b_ro b_im b_ke b_tp b_nl b_op b_ar b_pi b_pa b_ws b_hw b_se b_re b_pt b_ip b_ah b_be b_me b_tr b_ld b_wn H.size u_th u_sa u_fd u_td u_fr u_to u_so u_fa u_bd u_nc u_co u_le u_pd u_od u_la u_bk u_ce u_ho u_wy u_bt u_ps u_tg u_sn u_ic u_wd u_id 42 u_wo u_va u_su u_st h_u_td h_u_fr h_u_to ⟨by omega, by omega⟩ h_u_nc h_u_co h_u_pd h_u_la h_u_bk h_u_ce h_u_ho h_u_wy h_u_bt h_u_ps h_u_ic h_u_id) (cwV 1 hts gV_X12_267 rfl rfl rfl hv_X12_isSign ⟨Nat.le_of_ble_eq_true rfl, Nat.le_of_ble_eq_true rfl⟩) (g5_preV hPc hK hDc hN hT hS hFc (ci := 12) (q0 := 0) rfl rfl) rfl rfl hl.1 rfl (lv_room (Nat.le_of_ble_eq_true rfl)) dX12_behindSum_31 ⟨Nat.le_of_ble_eq_true rfl, Nat.le_of_ble_eq_true rfl⟩) hS (fun q _ h => hFc q h) hFc (fun r u t H1 locs ht hvm hw hB hz1 hk1 hS => ?_)
          obtain ⟨hP1, hD1⟩ := hB
          rw [ht] at hP1
          rcases hw with ⟨i_55, rfl, rfl⟩ | ⟨rfl, rfl⟩
          ·
            have i_55 : u_so.toInt = 3 := i_55
            obtain ⟨hP, hD⟩ := va_join (wr := [(b_tp, (arI G 400 v_tp)), (b_op, (arI G 400 v_op)), (b_ar, (arI G 400 v_ar)), (b_pi, (arI G 400 v_pi)), (b_pa, (arI G 400 v_pa))]) hP hD [5] [0, 1, 2, 3, 4] rfl rfl (by decide) (by decide) hk1 hFc hP1 hD1
            generalize H1 = H at hP hS ⊢
            refine g5_rs [(b_tp, (arI G 400 v_tp)), (b_op, (arI G 400 v_op)), (b_ar, (arI G 400 v_ar)), (b_pi, (arI G 400 v_pi)), (b_pa, (arI G 400 v_pa)), (b_o, (oc12 u_th u_sa b_rf b_ro b_im b_ke u_fd b_tp u_td u_fr u_to u_so u_wo u_fa u_bd u_nc b_nl u_co b_op b_ar u_le b_pi b_pa u_pd u_od b_ws b_hw u_la b_se b_re u_bk u_va u_su u_ce u_ho u_wy u_bt u_ps b_pt u_tg u_sn b_ip u_ic b_ah b_be b_me u_wd b_tr b_ld u_st b_wn u_id))] hP hD (fun hP hD => ?_)
            refine lv_if_eq (tgt := 42) hx hb dX12_behindSum_34 (by decide) (fun c_56 => ?_) (fun c_56 => ?_)
            ·
              exact absurd c_56 (by decide)
            ·
              refine lv_bipush (v := 22) hx hb dX12_behindSum_37 (by decide) ?_
              refine lv_goto (tgt := 57) hx hb dX12_behindSum_39 (by decide) ?_
              refine lv_istore_n (lv' := [(2, .int 22), (0, .ref b_o), (1, .int p_1)]) hx hb dX12_behindSum_57 rfl hl (by decide) rfl (fun ls hl => ?_)
              refine lv_iload_n hx hb dX12_behindSum_58 rfl (lv_at hl 0 rfl) ?_
              refine lv_iconst (v := (-1)) hx hb dX12_behindSum_59 (by decide) ?_
              refine lv_icmp_eq (tgt := 83) hx hb dX12_behindSum_60 (by decide) (fun c_57 => ?_) (fun c_57 => ?_)
              ·
                exact absurd c_57 (by decide)
              ·
                have hlt9 : u_fr.toInt < u_to.toInt := tks_lt e_s (by omega)
                have hE_58 : HJ v_op v_ar v_pi v_pa g_a.toInt u_co.toInt u_pd.toInt 1 := tj_d1 e_j (by decide)
                refine lv_aload_n hx hb dX12_behindSum_63 rfl (lv_at hl 1 rfl) ?_
                refine lv_iload_n hx hb dX12_behindSum_64 rfl (lv_at hl 0 rfl) ?_
                obtain ⟨hPc, hDc, hFc⟩ := g5_sub3 (wc := []) hP hD hS hA [] (by decide) rfl
                refine va_calli (va_runS (As := [.int 22]) (rest := [.ref b_o]) ⟨hx, hb, hml, hown, hts⟩ (n_binds22 l G H.size) (va_cwS 1 hts gS_X12_243 rfl rfl rfl hs_X12_binds ⟨Nat.le_of_ble_eq_true rfl, Nat.le_of_ble_eq_true rfl⟩) (g5_preS hPc hK hDc hN hT hS hFc) rfl rfl hl.1 rfl (lv_room (Nat.le_of_ble_eq_true rfl)) dX12_behindSum_65 ⟨Nat.le_of_ble_eq_true rfl, Nat.le_of_ble_eq_true rfl⟩) hS (fun q _ h => hFc q h) hFc (fun r u t H1 locs ht hvm hw hB hz1 hk1 hS => ?_)
                obtain ⟨hP1, hD1⟩ := hB
                rw [ht] at hP1
                obtain ⟨rfl, rfl⟩ := hw
                have hP := g5_same hP hk1
                generalize H1 = H at hP hS ⊢
                obtain ⟨hPc, hDc, hFc⟩ := g5_sub3 (wc := [(b_o, (oc12 u_th u_sa b_rf b_ro b_im b_ke u_fd b_tp u_td u_fr u_to u_so u_wo u_fa u_bd u_nc b_nl u_co b_op b_ar u_le b_pi b_pa u_pd u_od b_ws b_hw u_la b_se b_re u_bk u_va u_su u_ce u_ho u_wy u_bt u_ps b_pt u_tg u_sn b_ip u_ic b_ah b_be b_me u_wd b_tr b_ld u_st b_wn u_id)), (b_op, (arI G 400 v_op)), (b_ar, (arI G 400 v_ar)), (b_pi, (arI G 400 v_pi)), (b_pa, (arI G 400 v_pa))]) hP hD hS hA [5, 1, 2, 3, 4] (by decide) rfl
                refine va_callv (va_runV (As := [.int 6]) (rest := []) ⟨hx, hb, hml, hown, hts⟩ (n_settleH l G b_o b_op b_ar b_pi b_pa b_rf b_ro b_im b_ke b_tp b_nl b_ws b_hw b_se b_re b_pt b_ip b_ah b_be b_me b_tr b_ld b_wn H.size u_th u_sa u_fd u_td u_fr u_to u_so u_fa u_bd u_nc u_co u_le u_pd u_od u_la u_bk u_ce u_ho u_wy u_bt u_ps u_tg u_sn u_ic u_wd u_id 6 g_a u_fr u_wo u_va u_su u_st v_op v_ar v_pi v_pa g_op g_ar h_u_td h_u_fr h_u_to ⟨by omega, by omega⟩ h_u_nc h_u_co h_u_pd h_u_la h_u_bk h_u_ce h_u_ho h_u_wy h_u_bt h_u_ps h_u_ic h_u_id ⟨by decide, by decide⟩ (by omega) (e_x) (hE_58)) (cwV 1 hts gV_X12_288 rfl rfl rfl hv_X12_settle ⟨Nat.le_of_ble_eq_true rfl, Nat.le_of_ble_eq_true rfl⟩) (g5_preV hPc hK hDc hN hT hS hFc (ci := 12) (q0 := 0) rfl rfl) rfl rfl hl.1 rfl (lv_room (Nat.le_of_ble_eq_true rfl)) dX12_behindSum_68 ⟨Nat.le_of_ble_eq_true rfl, Nat.le_of_ble_eq_true rfl⟩) hS (fun q _ h => hFc q h) hFc (fun u t H1 locs ht hvm hw hB hz1 hk1 hS => ?_)
                obtain ⟨hP1, hD1⟩ := hB
                rw [ht] at hP1
                obtain ⟨z66, z67, z68, z69, i_59, i_60, i_61, i_62, i_63, i_64, i_65, rfl⟩ := hw
                have i_59 : 0 ≤ z66.toInt ∧ z66.toInt ≤ 400 := i_59
                have i_60 : 0 ≤ z67.toInt ∧ z67.toInt ≤ 400 := i_60
                have i_61 : XJ g_op g_ar z68 z69 v_pi v_pa g_a.toInt z66.toInt z67.toInt u_fr.toInt := i_61
                have i_62 : HJ z68 z69 v_pi v_pa g_a.toInt z66.toInt z67.toInt 1 := i_62
                have i_63 : S1 v_pi u_pd.toInt z67.toInt := i_63
                have i_64 : S2 v_pi z67.toInt (6 : Int32).toInt := i_64
                have i_65 : z67.toInt ≤ u_pd.toInt := i_65
                obtain ⟨hP, hD⟩ := va_join (wr := [(b_tp, (arI G 400 v_tp))]) hP hD [5, 1, 2, 3, 4] [0] rfl rfl (by decide) (by decide) hk1 hFc hP1 hD1
                generalize H1 = H at hP hS ⊢
                refine g5_rs [(b_tp, (arI G 400 v_tp)), (b_o, (oc12 u_th u_sa b_rf b_ro b_im b_ke u_fd b_tp u_td u_fr u_to u_so u_wo u_fa u_bd u_nc b_nl z66 b_op b_ar u_le b_pi b_pa z67 u_od b_ws b_hw u_la b_se b_re u_bk u_va u_su u_ce u_ho u_wy u_bt u_ps b_pt u_tg u_sn b_ip u_ic b_ah b_be b_me u_wd b_tr b_ld u_st b_wn u_id)), (b_op, (arI G 400 z68)), (b_ar, (arI G 400 z69)), (b_pi, (arI G 400 v_pi)), (b_pa, (arI G 400 v_pa))] hP hD (fun hP hD => ?_)
                have hmf8 := xj_mf i_61
                refine lv_aload_n hx hb dX12_behindSum_71 rfl (lv_at hl 1 rfl) ?_
                refine lv_iload_n hx hb dX12_behindSum_72 rfl (lv_at hl 0 rfl) ?_
                refine lv_iconst (v := 0) hx hb dX12_behindSum_73 (by decide) ?_
                obtain ⟨hPc, hDc, hFc⟩ := g5_sub3 (wc := [(b_o, (oc12 u_th u_sa b_rf b_ro b_im b_ke u_fd b_tp u_td u_fr u_to u_so u_wo u_fa u_bd u_nc b_nl z66 b_op b_ar u_le b_pi b_pa z67 u_od b_ws b_hw u_la b_se b_re u_bk u_va u_su u_ce u_ho u_wy u_bt u_ps b_pt u_tg u_sn b_ip u_ic b_ah b_be b_me u_wd b_tr b_ld u_st b_wn u_id)), (b_pi, (arI G 400 v_pi)), (b_pa, (arI G 400 v_pa))]) hP hD hS hA [1, 4, 5] (by decide) rfl
                refine va_callv (va_runV (As := [.int 22, .int 0]) (rest := []) ⟨hx, hb, hml, hown, hts⟩ (n_push l G b_o b_pi b_pa b_rf b_ro b_im b_ke b_tp b_nl b_op b_ar b_ws b_hw b_se b_re b_pt b_ip b_ah b_be b_me b_tr b_ld b_wn H.size u_th u_sa u_fd u_td u_fr u_to u_so u_fa u_bd u_nc z66 u_le z67 u_od u_la u_bk u_ce u_ho u_wy u_bt u_ps u_tg u_sn u_ic u_wd u_id 22 0 u_wo u_va u_su u_st v_pi v_pa h_u_td h_u_fr h_u_to ⟨by omega, by omega⟩ h_u_nc i_59 i_60 h_u_la h_u_bk h_u_ce h_u_ho h_u_wy h_u_bt h_u_ps h_u_ic h_u_id (by omega)) (cwV 2 hts gV_X12_261 rfl rfl rfl hv_X12_push ⟨Nat.le_of_ble_eq_true rfl, Nat.le_of_ble_eq_true rfl⟩) (g5_preV hPc hK hDc hN hT hS hFc (ci := 12) (q0 := 0) rfl rfl) rfl rfl hl.1 rfl (lv_room (Nat.le_of_ble_eq_true rfl)) dX12_behindSum_74 ⟨Nat.le_of_ble_eq_true rfl, Nat.le_of_ble_eq_true rfl⟩) hS (fun q _ h => hFc q h) hFc (fun u t H1 locs ht hvm hw hB hz1 hk1 hS => ?_)
                obtain ⟨hP1, hD1⟩ := hB
                rw [ht] at hP1
                obtain ⟨z72, i_70, i_71, rfl⟩ := hw
                have i_70 : 0 ≤ z72.toInt ∧ z72.toInt ≤ 400 := i_70
                have i_71 : z72.toInt = z67.toInt + 1 := i_71
                obtain ⟨hP, hD⟩ := va_join (wr := [(b_tp, (arI G 400 v_tp)), (b_op, (arI G 400 z68)), (b_ar, (arI G 400 z69))]) hP hD [1, 4, 5] [0, 2, 3] rfl rfl (by decide) (by decide) hk1 hFc hP1 hD1
                generalize H1 = H at hP hS ⊢
                refine g5_rs [(b_tp, (arI G 400 v_tp)), (b_op, (arI G 400 z68)), (b_ar, (arI G 400 z69)), (b_o, (oc12 u_th u_sa b_rf b_ro b_im b_ke u_fd b_tp u_td u_fr u_to u_so u_wo u_fa u_bd u_nc b_nl z66 b_op b_ar u_le b_pi b_pa z72 u_od b_ws b_hw u_la b_se b_re u_bk u_va u_su u_ce u_ho u_wy u_bt u_ps b_pt u_tg u_sn b_ip u_ic b_ah b_be b_me u_wd b_tr b_ld u_st b_wn u_id)), (b_pi, (arI G 400 (upd v_pi z67.toNatClampNeg 22))), (b_pa, (arI G 400 (upd v_pa z67.toNatClampNeg 0)))] hP hD (fun hP hD => ?_)
                refine lv_aload_n hx hb dX12_behindSum_77 rfl (lv_at hl 1 rfl) ?_
                obtain ⟨hPc, hDc, hFc⟩ := g5_sub3 (wc := [(b_o, (oc12 u_th u_sa b_rf b_ro b_im b_ke u_fd b_tp u_td u_fr u_to u_so u_wo u_fa u_bd u_nc b_nl z66 b_op b_ar u_le b_pi b_pa z72 u_od b_ws b_hw u_la b_se b_re u_bk u_va u_su u_ce u_ho u_wy u_bt u_ps b_pt u_tg u_sn b_ip u_ic b_ah b_be b_me u_wd b_tr b_ld u_st b_wn u_id)), (b_tp, (arI G 400 v_tp))]) hP hD hS hA [3, 0] (by decide) rfl
                refine va_callv (va_runV (As := []) (rest := []) ⟨hx, hb, hml, hown, hts⟩ (n_next l G b_o b_tp b_rf b_ro b_im b_ke b_nl b_op b_ar b_pi b_pa b_ws b_hw b_se b_re b_pt b_ip b_ah b_be b_me b_tr b_ld b_wn H.size u_th u_sa u_fd u_td u_fr u_to u_so u_fa u_bd u_nc z66 u_le z72 u_od u_la u_bk u_ce u_ho u_wy u_bt u_ps u_tg u_sn u_ic u_wd u_id u_wo u_va u_su u_st v_tp h_u_td h_u_fr h_u_to ⟨by omega, by omega⟩ h_u_nc i_59 i_70 h_u_la h_u_bk h_u_ce h_u_ho h_u_wy h_u_bt h_u_ps h_u_ic h_u_id (by omega)) (cwV 0 hts gV_X12_208 rfl rfl rfl hv_X12_next ⟨Nat.le_of_ble_eq_true rfl, Nat.le_of_ble_eq_true rfl⟩) (g5_preV hPc hK hDc hN hT hS hFc (ci := 12) (q0 := 0) rfl rfl) rfl rfl hl.1 rfl (lv_room (Nat.le_of_ble_eq_true rfl)) dX12_behindSum_78 ⟨Nat.le_of_ble_eq_true rfl, Nat.le_of_ble_eq_true rfl⟩) hS (fun q _ h => hFc q h) hFc (fun u t H1 locs ht hvm hw hB hz1 hk1 hS => ?_)
                obtain ⟨hP1, hD1⟩ := hB
                rw [ht] at hP1
                obtain ⟨z77, z78, z79, z80, i_73, i_74, i_75, i_76, rfl⟩ := hw
                have i_73 : 0 ≤ z77.toInt ∧ z77.toInt ≤ 400 := i_73
                have i_74 : 0 ≤ z78.toInt ∧ z78.toInt ≤ 400 := i_74
                have i_75 : u_to.toInt ≤ z77.toInt ∧ z77.toInt ≤ z78.toInt ∧ z78.toInt ≤ u_td.toInt := i_75
                have i_76 : TKs z79.toInt z77.toInt z78.toInt := i_76
                obtain ⟨hP, hD⟩ := va_join (wr := [(b_op, (arI G 400 z68)), (b_ar, (arI G 400 z69)), (b_pi, (arI G 400 (upd v_pi z67.toNatClampNeg 22))), (b_pa, (arI G 400 (upd v_pa z67.toNatClampNeg 0)))]) hP hD [3, 0] [1, 2, 4, 5] rfl rfl (by decide) (by decide) hk1 hFc hP1 hD1
                generalize H1 = H at hP hS ⊢
                refine g5_rs [(b_op, (arI G 400 z68)), (b_ar, (arI G 400 z69)), (b_pi, (arI G 400 (upd v_pi z67.toNatClampNeg 22))), (b_pa, (arI G 400 (upd v_pa z67.toNatClampNeg 0))), (b_o, (oc12 u_th u_sa b_rf b_ro b_im b_ke u_fd b_tp u_td z77 z78 z79 z80 u_fa u_bd u_nc b_nl z66 b_op b_ar u_le b_pi b_pa z72 u_od b_ws b_hw u_la b_se b_re u_bk u_va u_su u_ce u_ho u_wy u_bt u_ps b_pt u_tg u_sn b_ip u_ic b_ah b_be b_me u_wd b_tr b_ld u_st b_wn u_id)), (b_tp, (arI G 400 v_tp))] hP hD (fun hP hD => ?_)
                refine lv_iconst (v := 1) hx hb dX12_behindSum_81 (by decide) ?_
                exact W.iret (v := 1) hx hb hr (fun t ht hW => ⟨⟨1, [(b_o, (oc12 u_th u_sa b_rf b_ro b_im b_ke u_fd b_tp u_td z77 z78 z79 z80 u_fa u_bd u_nc b_nl z66 b_op b_ar u_le b_pi b_pa z72 u_od b_ws b_hw u_la b_se b_re u_bk u_va u_su u_ce u_ho u_wy u_bt u_ps b_pt u_tg u_sn b_ip u_ic b_ah b_be b_me u_wd b_tr b_ld u_st b_wn u_id)), (b_tp, (arI G 400 v_tp)), (b_op, (arI G 400 z68)), (b_ar, (arI G 400 z69)), (b_pi, (arI G 400 (upd v_pi z67.toNatClampNeg 22))), (b_pa, (arI G 400 (upd v_pa z67.toNatClampNeg 0)))], rfl, Or.inr (⟨1, z77, z78, z79, z80, z66, z72, u_od, z68, z69, (upd v_pi z67.toNatClampNeg 22), (upd v_pa z67.toNatClampNeg 0), i_73, i_74, i_59, i_70, ⟨by have zc_o_r : (1 : Int32).toInt = 1 := (by decide); omega, by have zc_o_r : (1 : Int32).toInt = 1 := (by decide); omega⟩, by omega, i_76, xj_push i_61 (by omega) (by omega) ⟨by decide, by decide⟩ (Or.inl (by decide)), tj_1 (hj_push2 i_62 (by omega) (by omega) ⟨by decide, by decide⟩ (Or.inl (by decide))) (by decide), by have w9 := (twt_0 (by decide) : twt (1 : Int32).toInt = 0); omega, rfl, rfl⟩), by rw [ht]; exact hP.sub [4, 5, 0, 1, 2, 3] rfl, hD.sub [4, 5, 0, 1, 2, 3] (by decide) rfl⟩, hS.F ht⟩) hS.2.2 dX12_behindSum_82
          ·
            obtain ⟨hP, hD⟩ := va_join (wr := [(b_tp, (arI G 400 v_tp)), (b_op, (arI G 400 v_op)), (b_ar, (arI G 400 v_ar)), (b_pi, (arI G 400 v_pi)), (b_pa, (arI G 400 v_pa))]) hP hD [5] [0, 1, 2, 3, 4] rfl rfl (by decide) (by decide) hk1 hFc hP1 hD1
            generalize H1 = H at hP hS ⊢
            refine g5_rs [(b_tp, (arI G 400 v_tp)), (b_op, (arI G 400 v_op)), (b_ar, (arI G 400 v_ar)), (b_pi, (arI G 400 v_pi)), (b_pa, (arI G 400 v_pa)), (b_o, (oc12 u_th u_sa b_rf b_ro b_im b_ke u_fd b_tp u_td u_fr u_to u_so u_wo u_fa u_bd u_nc b_nl u_co b_op b_ar u_le b_pi b_pa u_pd u_od b_ws b_hw u_la b_se b_re u_bk u_va u_su u_ce u_ho u_wy u_bt u_ps b_pt u_tg u_sn b_ip u_ic b_ah b_be b_me u_wd b_tr b_ld u_st b_wn u_id))] hP hD (fun hP hD => ?_)
            refine lv_if_eq (tgt := 42) hx hb dX12_behindSum_34 (by decide) (fun c_81 => ?_) (fun c_81 => ?_)
            ·
              refine lv_aload_n hx hb dX12_behindSum_42 rfl (lv_at hl 0 rfl) ?_
              refine lv_bipush (v := 47) hx hb dX12_behindSum_43 (by decide) ?_
              obtain ⟨hPc, hDc, hFc⟩ := g5_sub3 (wc := [(b_o, (oc12 u_th u_sa b_rf b_ro b_im b_ke u_fd b_tp u_td u_fr u_to u_so u_wo u_fa u_bd u_nc b_nl u_co b_op b_ar u_le b_pi b_pa u_pd u_od b_ws b_hw u_la b_se b_re u_bk u_va u_su u_ce u_ho u_wy u_bt u_ps b_pt u_tg u_sn b_ip u_ic b_ah b_be b_me u_wd b_tr b_ld u_st b_wn u_id))]) hP hD hS hA [5] (by decide) rfl
              refine va_calli (va_runV (As := [.int 47]) (rest := []) ⟨hx, hb, hml, hown, hts⟩ (n_isSign l G b_o b_rf b_ro b_im b_ke b_tp b_nl b_op b_ar b_pi b_pa b_ws b_hw b_se b_re b_pt b_ip b_ah b_be b_me b_tr b_ld b_wn H.size u_th u_sa u_fd u_td u_fr u_to u_so u_fa u_bd u_nc u_co u_le u_pd u_od u_la u_bk u_ce u_ho u_wy u_bt u_ps u_tg u_sn u_ic u_wd u_id 47 u_wo u_va u_su u_st h_u_td h_u_fr h_u_to ⟨by omega, by omega⟩ h_u_nc h_u_co h_u_pd h_u_la h_u_bk h_u_ce h_u_ho h_u_wy h_u_bt h_u_ps h_u_ic h_u_id) (cwV 1 hts gV_X12_267 rfl rfl rfl hv_X12_isSign ⟨Nat.le_of_ble_eq_true rfl, Nat.le_of_ble_eq_true rfl⟩) (g5_preV hPc hK hDc hN hT hS hFc (ci := 12) (q0 := 0) rfl rfl) rfl rfl hl.1 rfl (lv_room (Nat.le_of_ble_eq_true rfl)) dX12_behindSum_45 ⟨Nat.le_of_ble_eq_true rfl, Nat.le_of_ble_eq_true rfl⟩) hS (fun q _ h => hFc q h) hFc (fun r u t H1 locs ht hvm hw hB hz1 hk1 hS => ?_)
              obtain ⟨hP1, hD1⟩ := hB
              rw [ht] at hP1
              rcases hw with ⟨i_82, rfl, rfl⟩ | ⟨rfl, rfl⟩
              ·
                have i_82 : u_so.toInt = 3 := i_82
                obtain ⟨hP, hD⟩ := va_join (wr := [(b_tp, (arI G 400 v_tp)), (b_op, (arI G 400 v_op)), (b_ar, (arI G 400 v_ar)), (b_pi, (arI G 400 v_pi)), (b_pa, (arI G 400 v_pa))]) hP hD [5] [0, 1, 2, 3, 4] rfl rfl (by decide) (by decide) hk1 hFc hP1 hD1
                generalize H1 = H at hP hS ⊢
                refine g5_rs [(b_tp, (arI G 400 v_tp)), (b_op, (arI G 400 v_op)), (b_ar, (arI G 400 v_ar)), (b_pi, (arI G 400 v_pi)), (b_pa, (arI G 400 v_pa)), (b_o, (oc12 u_th u_sa b_rf b_ro b_im b_ke u_fd b_tp u_td u_fr u_to u_so u_wo u_fa u_bd u_nc b_nl u_co b_op b_ar u_le b_pi b_pa u_pd u_od b_ws b_hw u_la b_se b_re u_bk u_va u_su u_ce u_ho u_wy u_bt u_ps b_pt u_tg u_sn b_ip u_ic b_ah b_be b_me u_wd b_tr b_ld u_st b_wn u_id))] hP hD (fun hP hD => ?_)
                refine lv_if_eq (tgt := 56) hx hb dX12_behindSum_48 (by decide) (fun c_83 => ?_) (fun c_83 => ?_)
                ·
                  exact absurd c_83 (by decide)
                ·
                  refine lv_bipush (v := 23) hx hb dX12_behindSum_51 (by decide) ?_
                  refine lv_goto (tgt := 57) hx hb dX12_behindSum_53 (by decide) ?_
                  refine lv_istore_n (lv' := [(2, .int 23), (0, .ref b_o), (1, .int p_1)]) hx hb dX12_behindSum_57 rfl hl (by decide) rfl (fun ls hl => ?_)
                  refine lv_iload_n hx hb dX12_behindSum_58 rfl (lv_at hl 0 rfl) ?_
                  refine lv_iconst (v := (-1)) hx hb dX12_behindSum_59 (by decide) ?_
                  refine lv_icmp_eq (tgt := 83) hx hb dX12_behindSum_60 (by decide) (fun c_84 => ?_) (fun c_84 => ?_)
                  ·
                    exact absurd c_84 (by decide)
                  ·
                    have hlt9 : u_fr.toInt < u_to.toInt := tks_lt e_s (by omega)
                    have hE_85 : HJ v_op v_ar v_pi v_pa g_a.toInt u_co.toInt u_pd.toInt 1 := tj_d1 e_j (by decide)
                    refine lv_aload_n hx hb dX12_behindSum_63 rfl (lv_at hl 1 rfl) ?_
                    refine lv_iload_n hx hb dX12_behindSum_64 rfl (lv_at hl 0 rfl) ?_
                    obtain ⟨hPc, hDc, hFc⟩ := g5_sub3 (wc := []) hP hD hS hA [] (by decide) rfl
                    refine va_calli (va_runS (As := [.int 23]) (rest := [.ref b_o]) ⟨hx, hb, hml, hown, hts⟩ (n_binds23 l G H.size) (va_cwS 1 hts gS_X12_243 rfl rfl rfl hs_X12_binds ⟨Nat.le_of_ble_eq_true rfl, Nat.le_of_ble_eq_true rfl⟩) (g5_preS hPc hK hDc hN hT hS hFc) rfl rfl hl.1 rfl (lv_room (Nat.le_of_ble_eq_true rfl)) dX12_behindSum_65 ⟨Nat.le_of_ble_eq_true rfl, Nat.le_of_ble_eq_true rfl⟩) hS (fun q _ h => hFc q h) hFc (fun r u t H1 locs ht hvm hw hB hz1 hk1 hS => ?_)
                    obtain ⟨hP1, hD1⟩ := hB
                    rw [ht] at hP1
                    obtain ⟨rfl, rfl⟩ := hw
                    have hP := g5_same hP hk1
                    generalize H1 = H at hP hS ⊢
                    obtain ⟨hPc, hDc, hFc⟩ := g5_sub3 (wc := [(b_o, (oc12 u_th u_sa b_rf b_ro b_im b_ke u_fd b_tp u_td u_fr u_to u_so u_wo u_fa u_bd u_nc b_nl u_co b_op b_ar u_le b_pi b_pa u_pd u_od b_ws b_hw u_la b_se b_re u_bk u_va u_su u_ce u_ho u_wy u_bt u_ps b_pt u_tg u_sn b_ip u_ic b_ah b_be b_me u_wd b_tr b_ld u_st b_wn u_id)), (b_op, (arI G 400 v_op)), (b_ar, (arI G 400 v_ar)), (b_pi, (arI G 400 v_pi)), (b_pa, (arI G 400 v_pa))]) hP hD hS hA [5, 1, 2, 3, 4] (by decide) rfl
                    refine va_callv (va_runV (As := [.int 6]) (rest := []) ⟨hx, hb, hml, hown, hts⟩ (n_settleH l G b_o b_op b_ar b_pi b_pa b_rf b_ro b_im b_ke b_tp b_nl b_ws b_hw b_se b_re b_pt b_ip b_ah b_be b_me b_tr b_ld b_wn H.size u_th u_sa u_fd u_td u_fr u_to u_so u_fa u_bd u_nc u_co u_le u_pd u_od u_la u_bk u_ce u_ho u_wy u_bt u_ps u_tg u_sn u_ic u_wd u_id 6 g_a u_fr u_wo u_va u_su u_st v_op v_ar v_pi v_pa g_op g_ar h_u_td h_u_fr h_u_to ⟨by omega, by omega⟩ h_u_nc h_u_co h_u_pd h_u_la h_u_bk h_u_ce h_u_ho h_u_wy h_u_bt h_u_ps h_u_ic h_u_id ⟨by decide, by decide⟩ (by omega) (e_x) (hE_85)) (cwV 1 hts gV_X12_288 rfl rfl rfl hv_X12_settle ⟨Nat.le_of_ble_eq_true rfl, Nat.le_of_ble_eq_true rfl⟩) (g5_preV hPc hK hDc hN hT hS hFc (ci := 12) (q0 := 0) rfl rfl) rfl rfl hl.1 rfl (lv_room (Nat.le_of_ble_eq_true rfl)) dX12_behindSum_68 ⟨Nat.le_of_ble_eq_true rfl, Nat.le_of_ble_eq_true rfl⟩) hS (fun q _ h => hFc q h) hFc (fun u t H1 locs ht hvm hw hB hz1 hk1 hS => ?_)
                    obtain ⟨hP1, hD1⟩ := hB
                    rw [ht] at hP1
                    obtain ⟨z93, z94, z95, z96, i_86, i_87, i_88, i_89, i_90, i_91, i_92, rfl⟩ := hw
                    have i_86 : 0 ≤ z93.toInt ∧ z93.toInt ≤ 400 := i_86
                    have i_87 : 0 ≤ z94.toInt ∧ z94.toInt ≤ 400 := i_87
                    have i_88 : XJ g_op g_ar z95 z96 v_pi v_pa g_a.toInt z93.toInt z94.toInt u_fr.toInt := i_88
                    have i_89 : HJ z95 z96 v_pi v_pa g_a.toInt z93.toInt z94.toInt 1 := i_89
                    have i_90 : S1 v_pi u_pd.toInt z94.toInt := i_90
                    have i_91 : S2 v_pi z94.toInt (6 : Int32).toInt := i_91
                    have i_92 : z94.toInt ≤ u_pd.toInt := i_92
                    obtain ⟨hP, hD⟩ := va_join (wr := [(b_tp, (arI G 400 v_tp))]) hP hD [5, 1, 2, 3, 4] [0] rfl rfl (by decide) (by decide) hk1 hFc hP1 hD1
                    generalize H1 = H at hP hS ⊢
                    refine g5_rs [(b_tp, (arI G 400 v_tp)), (b_o, (oc12 u_th u_sa b_rf b_ro b_im b_ke u_fd b_tp u_td u_fr u_to u_so u_wo u_fa u_bd u_nc b_nl z93 b_op b_ar u_le b_pi b_pa z94 u_od b_ws b_hw u_la b_se b_re u_bk u_va u_su u_ce u_ho u_wy u_bt u_ps b_pt u_tg u_sn b_ip u_ic b_ah b_be b_me u_wd b_tr b_ld u_st b_wn u_id)), (b_op, (arI G 400 z95)), (b_ar, (arI G 400 z96)), (b_pi, (arI G 400 v_pi)), (b_pa, (arI G 400 v_pa))] hP hD (fun hP hD => ?_)
                    have hmf8 := xj_mf i_88
                    refine lv_aload_n hx hb dX12_behindSum_71 rfl (lv_at hl 1 rfl) ?_
                    refine lv_iload_n hx hb dX12_behindSum_72 rfl (lv_at hl 0 rfl) ?_
                    refine lv_iconst (v := 0) hx hb dX12_behindSum_73 (by decide) ?_
                    obtain ⟨hPc, hDc, hFc⟩ := g5_sub3 (wc := [(b_o, (oc12 u_th u_sa b_rf b_ro b_im b_ke u_fd b_tp u_td u_fr u_to u_so u_wo u_fa u_bd u_nc b_nl z93 b_op b_ar u_le b_pi b_pa z94 u_od b_ws b_hw u_la b_se b_re u_bk u_va u_su u_ce u_ho u_wy u_bt u_ps b_pt u_tg u_sn b_ip u_ic b_ah b_be b_me u_wd b_tr b_ld u_st b_wn u_id)), (b_pi, (arI G 400 v_pi)), (b_pa, (arI G 400 v_pa))]) hP hD hS hA [1, 4, 5] (by decide) rfl
                    refine va_callv (va_runV (As := [.int 23, .int 0]) (rest := []) ⟨hx, hb, hml, hown, hts⟩ (n_push l G b_o b_pi b_pa b_rf b_ro b_im b_ke b_tp b_nl b_op b_ar b_ws b_hw b_se b_re b_pt b_ip b_ah b_be b_me b_tr b_ld b_wn H.size u_th u_sa u_fd u_td u_fr u_to u_so u_fa u_bd u_nc z93 u_le z94 u_od u_la u_bk u_ce u_ho u_wy u_bt u_ps u_tg u_sn u_ic u_wd u_id 23 0 u_wo u_va u_su u_st v_pi v_pa h_u_td h_u_fr h_u_to ⟨by omega, by omega⟩ h_u_nc i_86 i_87 h_u_la h_u_bk h_u_ce h_u_ho h_u_wy h_u_bt h_u_ps h_u_ic h_u_id (by omega)) (cwV 2 hts gV_X12_261 rfl rfl rfl hv_X12_push ⟨Nat.le_of_ble_eq_true rfl, Nat.le_of_ble_eq_true rfl⟩) (g5_preV hPc hK hDc hN hT hS hFc (ci := 12) (q0 := 0) rfl rfl) rfl rfl hl.1 rfl (lv_room (Nat.le_of_ble_eq_true rfl)) dX12_behindSum_74 ⟨Nat.le_of_ble_eq_true rfl, Nat.le_of_ble_eq_true rfl⟩) hS (fun q _ h => hFc q h) hFc (fun u t H1 locs ht hvm hw hB hz1 hk1 hS => ?_)
                    obtain ⟨hP1, hD1⟩ := hB
                    rw [ht] at hP1
                    obtain ⟨z99, i_97, i_98, rfl⟩ := hw
                    have i_97 : 0 ≤ z99.toInt ∧ z99.toInt ≤ 400 := i_97
                    have i_98 : z99.toInt = z94.toInt + 1 := i_98
                    obtain ⟨hP, hD⟩ := va_join (wr := [(b_tp, (arI G 400 v_tp)), (b_op, (arI G 400 z95)), (b_ar, (arI G 400 z96))]) hP hD [1, 4, 5] [0, 2, 3] rfl rfl (by decide) (by decide) hk1 hFc hP1 hD1
                    generalize H1 = H at hP hS ⊢
                    refine g5_rs [(b_tp, (arI G 400 v_tp)), (b_op, (arI G 400 z95)), (b_ar, (arI G 400 z96)), (b_o, (oc12 u_th u_sa b_rf b_ro b_im b_ke u_fd b_tp u_td u_fr u_to u_so u_wo u_fa u_bd u_nc b_nl z93 b_op b_ar u_le b_pi b_pa z99 u_od b_ws b_hw u_la b_se b_re u_bk u_va u_su u_ce u_ho u_wy u_bt u_ps b_pt u_tg u_sn b_ip u_ic b_ah b_be b_me u_wd b_tr b_ld u_st b_wn u_id)), (b_pi, (arI G 400 (upd v_pi z94.toNatClampNeg 23))), (b_pa, (arI G 400 (upd v_pa z94.toNatClampNeg 0)))] hP hD (fun hP hD => ?_)
                    refine lv_aload_n hx hb dX12_behindSum_77 rfl (lv_at hl 1 rfl) ?_
                    obtain ⟨hPc, hDc, hFc⟩ := g5_sub3 (wc := [(b_o, (oc12 u_th u_sa b_rf b_ro b_im b_ke u_fd b_tp u_td u_fr u_to u_so u_wo u_fa u_bd u_nc b_nl z93 b_op b_ar u_le b_pi b_pa z99 u_od b_ws b_hw u_la b_se b_re u_bk u_va u_su u_ce u_ho u_wy u_bt u_ps b_pt u_tg u_sn b_ip u_ic b_ah b_be b_me u_wd b_tr b_ld u_st b_wn u_id)), (b_tp, (arI G 400 v_tp))]) hP hD hS hA [3, 0] (by decide) rfl
                    refine va_callv (va_runV (As := []) (rest := []) ⟨hx, hb, hml, hown, hts⟩ (n_next l G b_o b_tp b_rf b_ro b_im b_ke b_nl b_op b_ar b_pi b_pa b_ws b_hw b_se b_re b_pt b_ip b_ah b_be b_me b_tr b_ld b_wn H.size u_th u_sa u_fd u_td u_fr u_to u_so u_fa u_bd u_nc z93 u_le z99 u_od u_la u_bk u_ce u_ho u_wy u_bt u_ps u_tg u_sn u_ic u_wd u_id u_wo u_va u_su u_st v_tp h_u_td h_u_fr h_u_to ⟨by omega, by omega⟩ h_u_nc i_86 i_97 h_u_la h_u_bk h_u_ce h_u_ho h_u_wy h_u_bt h_u_ps h_u_ic h_u_id (by omega)) (cwV 0 hts gV_X12_208 rfl rfl rfl hv_X12_next ⟨Nat.le_of_ble_eq_true rfl, Nat.le_of_ble_eq_true rfl⟩) (g5_preV hPc hK hDc hN hT hS hFc (ci := 12) (q0 := 0) rfl rfl) rfl rfl hl.1 rfl (lv_room (Nat.le_of_ble_eq_true rfl)) dX12_behindSum_78 ⟨Nat.le_of_ble_eq_true rfl, Nat.le_of_ble_eq_true rfl⟩) hS (fun q _ h => hFc q h) hFc (fun u t H1 locs ht hvm hw hB hz1 hk1 hS => ?_)
                    obtain ⟨hP1, hD1⟩ := hB
                    rw [ht] at hP1
                    obtain ⟨z104, z105, z106, z107, i_100, i_101, i_102, i_103, rfl⟩ := hw
                    have i_100 : 0 ≤ z104.toInt ∧ z104.toInt ≤ 400 := i_100
                    have i_101 : 0 ≤ z105.toInt ∧ z105.toInt ≤ 400 := i_101
                    have i_102 : u_to.toInt ≤ z104.toInt ∧ z104.toInt ≤ z105.toInt ∧ z105.toInt ≤ u_td.toInt := i_102
                    have i_103 : TKs z106.toInt z104.toInt z105.toInt := i_103
                    obtain ⟨hP, hD⟩ := va_join (wr := [(b_op, (arI G 400 z95)), (b_ar, (arI G 400 z96)), (b_pi, (arI G 400 (upd v_pi z94.toNatClampNeg 23))), (b_pa, (arI G 400 (upd v_pa z94.toNatClampNeg 0)))]) hP hD [3, 0] [1, 2, 4, 5] rfl rfl (by decide) (by decide) hk1 hFc hP1 hD1
                    generalize H1 = H at hP hS ⊢
                    refine g5_rs [(b_op, (arI G 400 z95)), (b_ar, (arI G 400 z96)), (b_pi, (arI G 400 (upd v_pi z94.toNatClampNeg 23))), (b_pa, (arI G 400 (upd v_pa z94.toNatClampNeg 0))), (b_o, (oc12 u_th u_sa b_rf b_ro b_im b_ke u_fd b_tp u_td z104 z105 z106 z107 u_fa u_bd u_nc b_nl z93 b_op b_ar u_le b_pi b_pa z99 u_od b_ws b_hw u_la b_se b_re u_bk u_va u_su u_ce u_ho u_wy u_bt u_ps b_pt u_tg u_sn b_ip u_ic b_ah b_be b_me u_wd b_tr b_ld u_st b_wn u_id)), (b_tp, (arI G 400 v_tp))] hP hD (fun hP hD => ?_)
                    refine lv_iconst (v := 1) hx hb dX12_behindSum_81 (by decide) ?_
                    exact W.iret (v := 1) hx hb hr (fun t ht hW => ⟨⟨1, [(b_o, (oc12 u_th u_sa b_rf b_ro b_im b_ke u_fd b_tp u_td z104 z105 z106 z107 u_fa u_bd u_nc b_nl z93 b_op b_ar u_le b_pi b_pa z99 u_od b_ws b_hw u_la b_se b_re u_bk u_va u_su u_ce u_ho u_wy u_bt u_ps b_pt u_tg u_sn b_ip u_ic b_ah b_be b_me u_wd b_tr b_ld u_st b_wn u_id)), (b_tp, (arI G 400 v_tp)), (b_op, (arI G 400 z95)), (b_ar, (arI G 400 z96)), (b_pi, (arI G 400 (upd v_pi z94.toNatClampNeg 23))), (b_pa, (arI G 400 (upd v_pa z94.toNatClampNeg 0)))], rfl, Or.inr (⟨1, z104, z105, z106, z107, z93, z99, u_od, z95, z96, (upd v_pi z94.toNatClampNeg 23), (upd v_pa z94.toNatClampNeg 0), i_100, i_101, i_86, i_97, ⟨by have zc_o_r : (1 : Int32).toInt = 1 := (by decide); omega, by have zc_o_r : (1 : Int32).toInt = 1 := (by decide); omega⟩, by omega, i_103, xj_push i_88 (by omega) (by omega) ⟨by decide, by decide⟩ (Or.inl (by decide)), tj_1 (hj_push2 i_89 (by omega) (by omega) ⟨by decide, by decide⟩ (Or.inl (by decide))) (by decide), by have w9 := (twt_0 (by decide) : twt (1 : Int32).toInt = 0); omega, rfl, rfl⟩), by rw [ht]; exact hP.sub [4, 5, 0, 1, 2, 3] rfl, hD.sub [4, 5, 0, 1, 2, 3] (by decide) rfl⟩, hS.F ht⟩) hS.2.2 dX12_behindSum_82
              ·
                obtain ⟨hP, hD⟩ := va_join (wr := [(b_tp, (arI G 400 v_tp)), (b_op, (arI G 400 v_op)), (b_ar, (arI G 400 v_ar)), (b_pi, (arI G 400 v_pi)), (b_pa, (arI G 400 v_pa))]) hP hD [5] [0, 1, 2, 3, 4] rfl rfl (by decide) (by decide) hk1 hFc hP1 hD1
                generalize H1 = H at hP hS ⊢
                refine g5_rs [(b_tp, (arI G 400 v_tp)), (b_op, (arI G 400 v_op)), (b_ar, (arI G 400 v_ar)), (b_pi, (arI G 400 v_pi)), (b_pa, (arI G 400 v_pa)), (b_o, (oc12 u_th u_sa b_rf b_ro b_im b_ke u_fd b_tp u_td u_fr u_to u_so u_wo u_fa u_bd u_nc b_nl u_co b_op b_ar u_le b_pi b_pa u_pd u_od b_ws b_hw u_la b_se b_re u_bk u_va u_su u_ce u_ho u_wy u_bt u_ps b_pt u_tg u_sn b_ip u_ic b_ah b_be b_me u_wd b_tr b_ld u_st b_wn u_id))] hP hD (fun hP hD => ?_)
                refine lv_if_eq (tgt := 56) hx hb dX12_behindSum_48 (by decide) (fun c_108 => ?_) (fun c_108 => ?_)
                ·
                  refine lv_iconst (v := (-1)) hx hb dX12_behindSum_56 (by decide) ?_
                  refine lv_istore_n (lv' := [(2, .int (-1)), (0, .ref b_o), (1, .int p_1)]) hx hb dX12_behindSum_57 rfl hl (by decide) rfl (fun ls hl => ?_)
                  refine lv_iload_n hx hb dX12_behindSum_58 rfl (lv_at hl 0 rfl) ?_
                  refine lv_iconst (v := (-1)) hx hb dX12_behindSum_59 (by decide) ?_
                  refine lv_icmp_eq (tgt := 83) hx hb dX12_behindSum_60 (by decide) (fun c_109 => ?_) (fun c_109 => ?_)
                  ·
                    refine lv_aload_n hx hb dX12_behindSum_83 rfl (lv_at hl 1 rfl) ?_
                    obtain ⟨hPc, hDc, hFc⟩ := g5_sub3 (wc := [(b_o, (oc12 u_th u_sa b_rf b_ro b_im b_ke u_fd b_tp u_td u_fr u_to u_so u_wo u_fa u_bd u_nc b_nl u_co b_op b_ar u_le b_pi b_pa u_pd u_od b_ws b_hw u_la b_se b_re u_bk u_va u_su u_ce u_ho u_wy u_bt u_ps b_pt u_tg u_sn b_ip u_ic b_ah b_be b_me u_wd b_tr b_ld u_st b_wn u_id)), (b_pi, (arI G 400 v_pi))]) hP hD hS hA [5, 3] (by decide) rfl
                    refine va_calli (va_runV (As := []) (rest := []) ⟨hx, hb, hml, hown, hts⟩ (n_inner l G b_o b_pi b_rf b_ro b_im b_ke b_tp b_nl b_op b_ar b_pa b_ws b_hw b_se b_re b_pt b_ip b_ah b_be b_me b_tr b_ld b_wn H.size u_th u_sa u_fd u_td u_fr u_to u_so u_fa u_bd u_nc u_co u_le u_pd u_od u_la u_bk u_ce u_ho u_wy u_bt u_ps u_tg u_sn u_ic u_wd u_id u_wo u_va u_su u_st v_pi h_u_td h_u_fr h_u_to ⟨by omega, by omega⟩ h_u_nc h_u_co h_u_pd h_u_la h_u_bk h_u_ce h_u_ho h_u_wy h_u_bt h_u_ps h_u_ic h_u_id) (cwV 0 hts gV_X12_291 rfl rfl rfl hv_X12_inner ⟨Nat.le_of_ble_eq_true rfl, Nat.le_of_ble_eq_true rfl⟩) (g5_preV hPc hK hDc hN hT hS hFc (ci := 12) (q0 := 0) rfl rfl) rfl rfl hl.1 rfl (lv_room (Nat.le_of_ble_eq_true rfl)) dX12_behindSum_84 ⟨Nat.le_of_ble_eq_true rfl, Nat.le_of_ble_eq_true rfl⟩) hS (fun q _ h => hFc q h) hFc (fun r u t H1 locs ht hvm hw hB hz1 hk1 hS => ?_)
                    obtain ⟨hP1, hD1⟩ := hB
                    rw [ht] at hP1
                    obtain ⟨z111, i_110, y112, rfl⟩ := hw
                    have i_110 : innP v_pi u_pd.toInt z111.toInt := i_110
                    obtain ⟨hP, hD⟩ := va_join (wr := [(b_tp, (arI G 400 v_tp)), (b_op, (arI G 400 v_op)), (b_ar, (arI G 400 v_ar)), (b_pa, (arI G 400 v_pa))]) hP hD [5, 3] [0, 1, 2, 4] rfl rfl (by decide) (by decide) hk1 hFc hP1 hD1
                    generalize H1 = H at hP hS ⊢
                    refine g5_rs [(b_tp, (arI G 400 v_tp)), (b_op, (arI G 400 v_op)), (b_ar, (arI G 400 v_ar)), (b_pa, (arI G 400 v_pa)), (b_o, (oc12 u_th u_sa b_rf b_ro b_im b_ke u_fd b_tp u_td u_fr u_to u_so u_wo u_fa u_bd u_nc b_nl u_co b_op b_ar u_le b_pi b_pa u_pd u_od b_ws b_hw u_la b_se b_re u_bk u_va u_su u_ce u_ho u_wy u_bt u_ps b_pt u_tg u_sn b_ip u_ic b_ah b_be b_me u_wd b_tr b_ld u_st b_wn u_id)), (b_pi, (arI G 400 v_pi))] hP hD (fun hP hD => ?_)
                    refine g5_ti (v := z111) y112 ?_
                    refine lv_istore_n (lv' := [(3, .int z111), (2, .int (-1)), (0, .ref b_o), (1, .int p_1)]) hx hb dX12_behindSum_87 rfl hl (by decide) rfl (fun ls hl => ?_)
                    refine lv_iload_n hx hb dX12_behindSum_88 rfl (lv_at hl 0 rfl) ?_
                    refine lv_bipush (v := 31) hx hb dX12_behindSum_89 (by decide) ?_
                    refine lv_icmp_ne (tgt := 138) hx hb dX12_behindSum_91 (by decide) (fun c_113 => ?_) (fun c_113 => ?_)
                    ·
                      have n_113 : gNe (z111.toInt) (31) := by have z := g5_ne (a := z111.toInt) (b := 31) (by rfl) (by decide) c_113; unfold gNe; omega
                      refine lv_iload_n hx hb dX12_behindSum_138 rfl (lv_at hl 0 rfl) ?_
                      refine lv_iconst (v := (-1)) hx hb dX12_behindSum_139 (by decide) ?_
                      refine lv_icmp_ne (tgt := 149) hx hb dX12_behindSum_140 (by decide) (fun c_114 => ?_) (fun c_114 => ?_)
                      ·
                        have n_114 : gNe (z111.toInt) ((-1)) := by have z := g5_ne (a := z111.toInt) (b := (-1)) (by rfl) (by decide) c_114; unfold gNe; omega
                        refine lv_aload_n hx hb dX12_behindSum_149 rfl (lv_at hl 2 rfl) ?_
                        obtain ⟨hPc, hDc, hFc⟩ := g5_sub3 (wc := [(b_o, (oc12 u_th u_sa b_rf b_ro b_im b_ke u_fd b_tp u_td u_fr u_to u_so u_wo u_fa u_bd u_nc b_nl u_co b_op b_ar u_le b_pi b_pa u_pd u_od b_ws b_hw u_la b_se b_re u_bk u_va u_su u_ce u_ho u_wy u_bt u_ps b_pt u_tg u_sn b_ip u_ic b_ah b_be b_me u_wd b_tr b_ld u_st b_wn u_id)), (b_pi, (arI G 400 v_pi))]) hP hD hS hA [4, 5] (by decide) rfl
                        refine va_calli (va_runV (As := []) (rest := []) ⟨hx, hb, hml, hown, hts⟩ (n_isCompared l G b_o b_pi b_rf b_ro b_im b_ke b_tp b_nl b_op b_ar b_pa b_ws b_hw b_se b_re b_pt b_ip b_ah b_be b_me b_tr b_ld b_wn H.size u_th u_sa u_fd u_td u_fr u_to u_so u_fa u_bd u_nc u_co u_le u_pd u_od u_la u_bk u_ce u_ho u_wy u_bt u_ps u_tg u_sn u_ic u_wd u_id u_wo u_va u_su u_st v_pi h_u_td h_u_fr h_u_to ⟨by omega, by omega⟩ h_u_nc h_u_co h_u_pd h_u_la h_u_bk h_u_ce h_u_ho h_u_wy h_u_bt h_u_ps h_u_ic h_u_id) (cwV 0 hts gV_X12_294 rfl rfl rfl hv_X12_isCompared ⟨Nat.le_of_ble_eq_true rfl, Nat.le_of_ble_eq_true rfl⟩) (g5_preV hPc hK hDc hN hT hS hFc (ci := 12) (q0 := 0) rfl rfl) rfl rfl hl.1 rfl (lv_room (Nat.le_of_ble_eq_true rfl)) dX12_behindSum_150 ⟨Nat.le_of_ble_eq_true rfl, Nat.le_of_ble_eq_true rfl⟩) hS (fun q _ h => hFc q h) hFc (fun r u t H1 locs ht hvm hw hB hz1 hk1 hS => ?_)
                        obtain ⟨hP1, hD1⟩ := hB
                        rw [ht] at hP1
                        obtain ⟨z116, i_115, y117, rfl⟩ := hw
                        have i_115 : 0 ≤ z116.toInt ∧ z116.toInt ≤ 1 := i_115
                        obtain ⟨hP, hD⟩ := va_join (wr := [(b_tp, (arI G 400 v_tp)), (b_op, (arI G 400 v_op)), (b_ar, (arI G 400 v_ar)), (b_pa, (arI G 400 v_pa))]) hP hD [4, 5] [0, 1, 2, 3] rfl rfl (by decide) (by decide) hk1 hFc hP1 hD1
                        generalize H1 = H at hP hS ⊢
                        refine g5_rs [(b_tp, (arI G 400 v_tp)), (b_op, (arI G 400 v_op)), (b_ar, (arI G 400 v_ar)), (b_pa, (arI G 400 v_pa)), (b_o, (oc12 u_th u_sa b_rf b_ro b_im b_ke u_fd b_tp u_td u_fr u_to u_so u_wo u_fa u_bd u_nc b_nl u_co b_op b_ar u_le b_pi b_pa u_pd u_od b_ws b_hw u_la b_se b_re u_bk u_va u_su u_ce u_ho u_wy u_bt u_ps b_pt u_tg u_sn b_ip u_ic b_ah b_be b_me u_wd b_tr b_ld u_st b_wn u_id)), (b_pi, (arI G 400 v_pi))] hP hD (fun hP hD => ?_)
                        refine g5_ti (v := z116) y117 ?_
                        refine lv_if_eq (tgt := 158) hx hb dX12_behindSum_153 (by decide) (fun c_118 => ?_) (fun c_118 => ?_)
                        ·
                          have i_118 : z116.toInt = 0 := by have z := g5_eq (a := z116.toInt) (b := 0) (by rfl) (by decide) c_118; omega
                          refine lv_aload_n hx hb dX12_behindSum_158 rfl (lv_at hl 2 rfl) ?_
                          refine lv_bipush (v := 60) hx hb dX12_behindSum_159 (by decide) ?_
                          obtain ⟨hPc, hDc, hFc⟩ := g5_sub3 (wc := [(b_o, (oc12 u_th u_sa b_rf b_ro b_im b_ke u_fd b_tp u_td u_fr u_to u_so u_wo u_fa u_bd u_nc b_nl u_co b_op b_ar u_le b_pi b_pa u_pd u_od b_ws b_hw u_la b_se b_re u_bk u_va u_su u_ce u_ho u_wy u_bt u_ps b_pt u_tg u_sn b_ip u_ic b_ah b_be b_me u_wd b_tr b_ld u_st b_wn u_id))]) hP hD hS hA [4] (by decide) rfl
                          refine va_calli (va_runV (As := [.int 60]) (rest := []) ⟨hx, hb, hml, hown, hts⟩ (n_isSign l G b_o b_rf b_ro b_im b_ke b_tp b_nl b_op b_ar b_pi b_pa b_ws b_hw b_se b_re b_pt b_ip b_ah b_be b_me b_tr b_ld b_wn H.size u_th u_sa u_fd u_td u_fr u_to u_so u_fa u_bd u_nc u_co u_le u_pd u_od u_la u_bk u_ce u_ho u_wy u_bt u_ps u_tg u_sn u_ic u_wd u_id 60 u_wo u_va u_su u_st h_u_td h_u_fr h_u_to ⟨by omega, by omega⟩ h_u_nc h_u_co h_u_pd h_u_la h_u_bk h_u_ce h_u_ho h_u_wy h_u_bt h_u_ps h_u_ic h_u_id) (cwV 1 hts gV_X12_267 rfl rfl rfl hv_X12_isSign ⟨Nat.le_of_ble_eq_true rfl, Nat.le_of_ble_eq_true rfl⟩) (g5_preV hPc hK hDc hN hT hS hFc (ci := 12) (q0 := 0) rfl rfl) rfl rfl hl.1 rfl (lv_room (Nat.le_of_ble_eq_true rfl)) dX12_behindSum_161 ⟨Nat.le_of_ble_eq_true rfl, Nat.le_of_ble_eq_true rfl⟩) hS (fun q _ h => hFc q h) hFc (fun r u t H1 locs ht hvm hw hB hz1 hk1 hS => ?_)
                          obtain ⟨hP1, hD1⟩ := hB
                          rw [ht] at hP1
                          rcases hw with ⟨i_119, rfl, rfl⟩ | ⟨rfl, rfl⟩
                          ·
                            have i_119 : u_so.toInt = 3 := i_119
                            obtain ⟨hP, hD⟩ := va_join (wr := [(b_tp, (arI G 400 v_tp)), (b_op, (arI G 400 v_op)), (b_ar, (arI G 400 v_ar)), (b_pa, (arI G 400 v_pa)), (b_pi, (arI G 400 v_pi))]) hP hD [4] [0, 1, 2, 3, 5] rfl rfl (by decide) (by decide) hk1 hFc hP1 hD1
                            generalize H1 = H at hP hS ⊢
                            refine g5_rs [(b_tp, (arI G 400 v_tp)), (b_op, (arI G 400 v_op)), (b_ar, (arI G 400 v_ar)), (b_pa, (arI G 400 v_pa)), (b_pi, (arI G 400 v_pi)), (b_o, (oc12 u_th u_sa b_rf b_ro b_im b_ke u_fd b_tp u_td u_fr u_to u_so u_wo u_fa u_bd u_nc b_nl u_co b_op b_ar u_le b_pi b_pa u_pd u_od b_ws b_hw u_la b_se b_re u_bk u_va u_su u_ce u_ho u_wy u_bt u_ps b_pt u_tg u_sn b_ip u_ic b_ah b_be b_me u_wd b_tr b_ld u_st b_wn u_id))] hP hD (fun hP hD => ?_)
                            refine lv_if_eq (tgt := 172) hx hb dX12_behindSum_164 (by decide) (fun c_120 => ?_) (fun c_120 => ?_)
                            ·
                              exact absurd c_120 (by decide)
                            ·
                              refine lv_bipush (v := 24) hx hb dX12_behindSum_167 (by decide) ?_
                              refine lv_goto (tgt := 188) hx hb dX12_behindSum_169 (by decide) ?_
                              refine lv_istore_n (lv' := [(2, .int 24), (3, .int z111), (0, .ref b_o), (1, .int p_1)]) hx hb dX12_behindSum_188 rfl hl (by decide) rfl (fun ls hl => ?_)
                              refine lv_aload_n hx hb dX12_behindSum_189 rfl (lv_at hl 2 rfl) ?_
                              refine lv_iload_n hx hb dX12_behindSum_190 rfl (lv_at hl 0 rfl) ?_
                              refine lv_bipush (v := 26) hx hb dX12_behindSum_191 (by decide) ?_
                              refine lv_icmp_ne (tgt := 205) hx hb dX12_behindSum_193 (by decide) (fun c_121 => ?_) (fun c_121 => ?_)
                              ·
                                refine lv_iconst (v := 1) hx hb dX12_behindSum_205 (by decide) ?_
                                refine lv_goto (tgt := 210) hx hb dX12_behindSum_206 (by decide) ?_
                                have hlt9 : u_fr.toInt < u_to.toInt := tks_lt e_s (by omega)
                                obtain ⟨hPc, hDc, hFc⟩ := g5_sub3 (wc := [(b_o, (oc12 u_th u_sa b_rf b_ro b_im b_ke u_fd b_tp u_td u_fr u_to u_so u_wo u_fa u_bd u_nc b_nl u_co b_op b_ar u_le b_pi b_pa u_pd u_od b_ws b_hw u_la b_se b_re u_bk u_va u_su u_ce u_ho u_wy u_bt u_ps b_pt u_tg u_sn b_ip u_ic b_ah b_be b_me u_wd b_tr b_ld u_st b_wn u_id)), (b_tp, (arI G 400 v_tp))]) hP hD hS hA [5, 0] (by decide) rfl
                                refine va_callv (va_runV (As := [.int 1]) (rest := []) ⟨hx, hb, hml, hown, hts⟩ (n_must1 l G b_o b_tp b_rf b_ro b_im b_ke b_nl b_op b_ar b_pi b_pa b_ws b_hw b_se b_re b_pt b_ip b_ah b_be b_me b_tr b_ld b_wn H.size u_th u_sa u_fd u_td u_fr u_to u_so u_fa u_bd u_nc u_co u_le u_pd u_od u_la u_bk u_ce u_ho u_wy u_bt u_ps u_tg u_sn u_ic u_wd u_id u_wo u_va u_su u_st v_tp h_u_td h_u_fr h_u_to h_u_bd h_u_nc h_u_co h_u_pd h_u_la h_u_bk h_u_ce h_u_ho h_u_wy h_u_bt h_u_ps h_u_ic h_u_id (by omega)) (cwV 1 hts gV_X12_233 rfl rfl rfl hv_X12_must ⟨Nat.le_of_ble_eq_true rfl, Nat.le_of_ble_eq_true rfl⟩) (g5_preV hPc hK hDc hN hT hS hFc (ci := 12) (q0 := 0) rfl rfl) rfl rfl hl.1 rfl (lv_room (Nat.le_of_ble_eq_true rfl)) dX12_behindSum_210 ⟨Nat.le_of_ble_eq_true rfl, Nat.le_of_ble_eq_true rfl⟩) hS (fun q _ h => hFc q h) hFc (fun u t H1 locs ht hvm hw hB hz1 hk1 hS => ?_)
                                obtain ⟨hP1, hD1⟩ := hB
                                rw [ht] at hP1
                                obtain ⟨z126, z127, z128, z129, i_122, i_123, i_124, i_125, rfl⟩ := hw
                                have i_122 : 0 ≤ z126.toInt ∧ z126.toInt ≤ 400 := i_122
                                have i_123 : 0 ≤ z127.toInt ∧ z127.toInt ≤ 400 := i_123
                                have i_124 : u_to.toInt ≤ z126.toInt ∧ z126.toInt ≤ z127.toInt ∧ z127.toInt ≤ u_td.toInt := i_124
                                have i_125 : TKs z128.toInt z126.toInt z127.toInt := i_125
                                obtain ⟨hP, hD⟩ := va_join (wr := [(b_op, (arI G 400 v_op)), (b_ar, (arI G 400 v_ar)), (b_pa, (arI G 400 v_pa)), (b_pi, (arI G 400 v_pi))]) hP hD [5, 0] [1, 2, 3, 4] rfl rfl (by decide) (by decide) hk1 hFc hP1 hD1
                                generalize H1 = H at hP hS ⊢
                                refine g5_rs [(b_op, (arI G 400 v_op)), (b_ar, (arI G 400 v_ar)), (b_pa, (arI G 400 v_pa)), (b_pi, (arI G 400 v_pi)), (b_o, (oc12 u_th u_sa b_rf b_ro b_im b_ke u_fd b_tp u_td z126 z127 z128 z129 u_fa u_bd u_nc b_nl u_co b_op b_ar u_le b_pi b_pa u_pd u_od b_ws b_hw u_la b_se b_re u_bk u_va u_su u_ce u_ho u_wy u_bt u_ps b_pt u_tg u_sn b_ip u_ic b_ah b_be b_me u_wd b_tr b_ld u_st b_wn u_id)), (b_tp, (arI G 400 v_tp))] hP hD (fun hP hD => ?_)
                                refine lv_aload_n hx hb dX12_behindSum_213 rfl (lv_at hl 2 rfl) ?_
                                refine va_get (D := G.1) (ci := 12) (v := .int u_bd) (C := RX12) (T := TX12) (N := 52) hx hb hts inG_X12 hown hK hP 4 rfl rfl 14 (by decide) (hts _ fl_X12_205) (fun _ h9 => h9) rfl dX12_behindSum_214 ?_
                                refine lv_if_ne (tgt := 231) hx hb dX12_behindSum_217 (by decide) (fun c_130 => ?_) (fun c_130 => ?_)
                                ·
                                  have i_130 : u_bd.toInt ≠ 0 := by have z := g5_ne (a := u_bd.toInt) (b := 0) (by rfl) (by decide) c_130; omega
                                  omega
                                ·
                                  have i_130 : u_bd.toInt = 0 := by have z := g5_neN (a := u_bd.toInt) (b := 0) (by rfl) (by decide) c_130; omega
                                  have hE_131 : HJ v_op v_ar v_pi v_pa g_a.toInt u_co.toInt u_pd.toInt 1 := tj_d1 e_j (by decide)
                                  refine lv_aload_n hx hb dX12_behindSum_220 rfl (lv_at hl 2 rfl) ?_
                                  refine lv_iconst (v := 5) hx hb dX12_behindSum_221 (by decide) ?_
                                  obtain ⟨hPc, hDc, hFc⟩ := g5_sub3 (wc := [(b_o, (oc12 u_th u_sa b_rf b_ro b_im b_ke u_fd b_tp u_td z126 z127 z128 z129 u_fa u_bd u_nc b_nl u_co b_op b_ar u_le b_pi b_pa u_pd u_od b_ws b_hw u_la b_se b_re u_bk u_va u_su u_ce u_ho u_wy u_bt u_ps b_pt u_tg u_sn b_ip u_ic b_ah b_be b_me u_wd b_tr b_ld u_st b_wn u_id)), (b_op, (arI G 400 v_op)), (b_ar, (arI G 400 v_ar)), (b_pi, (arI G 400 v_pi)), (b_pa, (arI G 400 v_pa))]) hP hD hS hA [4, 0, 1, 3, 2] (by decide) rfl
                                  refine va_callv (va_runV (As := [.int 5]) (rest := []) ⟨hx, hb, hml, hown, hts⟩ (n_settleH l G b_o b_op b_ar b_pi b_pa b_rf b_ro b_im b_ke b_tp b_nl b_ws b_hw b_se b_re b_pt b_ip b_ah b_be b_me b_tr b_ld b_wn H.size u_th u_sa u_fd u_td z126 z127 z128 u_fa u_bd u_nc u_co u_le u_pd u_od u_la u_bk u_ce u_ho u_wy u_bt u_ps u_tg u_sn u_ic u_wd u_id 5 g_a u_fr z129 u_va u_su u_st v_op v_ar v_pi v_pa g_op g_ar h_u_td i_122 i_123 ⟨by omega, by omega⟩ h_u_nc h_u_co h_u_pd h_u_la h_u_bk h_u_ce h_u_ho h_u_wy h_u_bt h_u_ps h_u_ic h_u_id ⟨by decide, by decide⟩ (by omega) (e_x) (hE_131)) (cwV 1 hts gV_X12_288 rfl rfl rfl hv_X12_settle ⟨Nat.le_of_ble_eq_true rfl, Nat.le_of_ble_eq_true rfl⟩) (g5_preV hPc hK hDc hN hT hS hFc (ci := 12) (q0 := 0) rfl rfl) rfl rfl hl.1 rfl (lv_room (Nat.le_of_ble_eq_true rfl)) dX12_behindSum_222 ⟨Nat.le_of_ble_eq_true rfl, Nat.le_of_ble_eq_true rfl⟩) hS (fun q _ h => hFc q h) hFc (fun u t H1 locs ht hvm hw hB hz1 hk1 hS => ?_)
                                  obtain ⟨hP1, hD1⟩ := hB
                                  rw [ht] at hP1
                                  obtain ⟨z139, z140, z141, z142, i_132, i_133, i_134, i_135, i_136, i_137, i_138, rfl⟩ := hw
                                  have i_132 : 0 ≤ z139.toInt ∧ z139.toInt ≤ 400 := i_132
                                  have i_133 : 0 ≤ z140.toInt ∧ z140.toInt ≤ 400 := i_133
                                  have i_134 : XJ g_op g_ar z141 z142 v_pi v_pa g_a.toInt z139.toInt z140.toInt u_fr.toInt := i_134
                                  have i_135 : HJ z141 z142 v_pi v_pa g_a.toInt z139.toInt z140.toInt 1 := i_135
                                  have i_136 : S1 v_pi u_pd.toInt z140.toInt := i_136
                                  have i_137 : S2 v_pi z140.toInt (5 : Int32).toInt := i_137
                                  have i_138 : z140.toInt ≤ u_pd.toInt := i_138
                                  obtain ⟨hP, hD⟩ := va_join (wr := [(b_tp, (arI G 400 v_tp))]) hP hD [4, 0, 1, 3, 2] [5] rfl rfl (by decide) (by decide) hk1 hFc hP1 hD1
                                  generalize H1 = H at hP hS ⊢
                                  refine g5_rs [(b_tp, (arI G 400 v_tp)), (b_o, (oc12 u_th u_sa b_rf b_ro b_im b_ke u_fd b_tp u_td z126 z127 z128 z129 u_fa u_bd u_nc b_nl z139 b_op b_ar u_le b_pi b_pa z140 u_od b_ws b_hw u_la b_se b_re u_bk u_va u_su u_ce u_ho u_wy u_bt u_ps b_pt u_tg u_sn b_ip u_ic b_ah b_be b_me u_wd b_tr b_ld u_st b_wn u_id)), (b_op, (arI G 400 z141)), (b_ar, (arI G 400 z142)), (b_pi, (arI G 400 v_pi)), (b_pa, (arI G 400 v_pa))] hP hD (fun hP hD => ?_)
                                  have hmf8 := xj_mf i_134
                                  refine lv_aload_n hx hb dX12_behindSum_225 rfl (lv_at hl 2 rfl) ?_
                                  refine lv_iload_n hx hb dX12_behindSum_226 rfl (lv_at hl 0 rfl) ?_
                                  refine lv_iconst (v := 0) hx hb dX12_behindSum_227 (by decide) ?_
                                  obtain ⟨hPc, hDc, hFc⟩ := g5_sub3 (wc := [(b_o, (oc12 u_th u_sa b_rf b_ro b_im b_ke u_fd b_tp u_td z126 z127 z128 z129 u_fa u_bd u_nc b_nl z139 b_op b_ar u_le b_pi b_pa z140 u_od b_ws b_hw u_la b_se b_re u_bk u_va u_su u_ce u_ho u_wy u_bt u_ps b_pt u_tg u_sn b_ip u_ic b_ah b_be b_me u_wd b_tr b_ld u_st b_wn u_id)), (b_pi, (arI G 400 v_pi)), (b_pa, (arI G 400 v_pa))]) hP hD hS hA [1, 4, 5] (by decide) rfl
                                  refine va_callv (va_runV (As := [.int 24, .int 0]) (rest := []) ⟨hx, hb, hml, hown, hts⟩ (n_push l G b_o b_pi b_pa b_rf b_ro b_im b_ke b_tp b_nl b_op b_ar b_ws b_hw b_se b_re b_pt b_ip b_ah b_be b_me b_tr b_ld b_wn H.size u_th u_sa u_fd u_td z126 z127 z128 u_fa u_bd u_nc z139 u_le z140 u_od u_la u_bk u_ce u_ho u_wy u_bt u_ps u_tg u_sn u_ic u_wd u_id 24 0 z129 u_va u_su u_st v_pi v_pa h_u_td i_122 i_123 ⟨by omega, by omega⟩ h_u_nc i_132 i_133 h_u_la h_u_bk h_u_ce h_u_ho h_u_wy h_u_bt h_u_ps h_u_ic h_u_id (by omega)) (cwV 2 hts gV_X12_261 rfl rfl rfl hv_X12_push ⟨Nat.le_of_ble_eq_true rfl, Nat.le_of_ble_eq_true rfl⟩) (g5_preV hPc hK hDc hN hT hS hFc (ci := 12) (q0 := 0) rfl rfl) rfl rfl hl.1 rfl (lv_room (Nat.le_of_ble_eq_true rfl)) dX12_behindSum_228 ⟨Nat.le_of_ble_eq_true rfl, Nat.le_of_ble_eq_true rfl⟩) hS (fun q _ h => hFc q h) hFc (fun u t H1 locs ht hvm hw hB hz1 hk1 hS => ?_)
                                  obtain ⟨hP1, hD1⟩ := hB
                                  rw [ht] at hP1
                                  obtain ⟨z145, i_143, i_144, rfl⟩ := hw
                                  have i_143 : 0 ≤ z145.toInt ∧ z145.toInt ≤ 400 := i_143
                                  have i_144 : z145.toInt = z140.toInt + 1 := i_144
                                  obtain ⟨hP, hD⟩ := va_join (wr := [(b_tp, (arI G 400 v_tp)), (b_op, (arI G 400 z141)), (b_ar, (arI G 400 z142))]) hP hD [1, 4, 5] [0, 2, 3] rfl rfl (by decide) (by decide) hk1 hFc hP1 hD1
                                  generalize H1 = H at hP hS ⊢
                                  refine g5_rs [(b_tp, (arI G 400 v_tp)), (b_op, (arI G 400 z141)), (b_ar, (arI G 400 z142)), (b_o, (oc12 u_th u_sa b_rf b_ro b_im b_ke u_fd b_tp u_td z126 z127 z128 z129 u_fa u_bd u_nc b_nl z139 b_op b_ar u_le b_pi b_pa z145 u_od b_ws b_hw u_la b_se b_re u_bk u_va u_su u_ce u_ho u_wy u_bt u_ps b_pt u_tg u_sn b_ip u_ic b_ah b_be b_me u_wd b_tr b_ld u_st b_wn u_id)), (b_pi, (arI G 400 (upd v_pi z140.toNatClampNeg 24))), (b_pa, (arI G 400 (upd v_pa z140.toNatClampNeg 0)))] hP hD (fun hP hD => ?_)
                                  refine lv_iconst (v := 1) hx hb dX12_behindSum_231 (by decide) ?_
                                  exact W.iret (v := 1) hx hb hr (fun t ht hW => ⟨⟨1, [(b_o, (oc12 u_th u_sa b_rf b_ro b_im b_ke u_fd b_tp u_td z126 z127 z128 z129 u_fa u_bd u_nc b_nl z139 b_op b_ar u_le b_pi b_pa z145 u_od b_ws b_hw u_la b_se b_re u_bk u_va u_su u_ce u_ho u_wy u_bt u_ps b_pt u_tg u_sn b_ip u_ic b_ah b_be b_me u_wd b_tr b_ld u_st b_wn u_id)), (b_tp, (arI G 400 v_tp)), (b_op, (arI G 400 z141)), (b_ar, (arI G 400 z142)), (b_pi, (arI G 400 (upd v_pi z140.toNatClampNeg 24))), (b_pa, (arI G 400 (upd v_pa z140.toNatClampNeg 0)))], rfl, Or.inr (⟨1, z126, z127, z128, z129, z139, z145, u_od, z141, z142, (upd v_pi z140.toNatClampNeg 24), (upd v_pa z140.toNatClampNeg 0), i_122, i_123, i_132, i_143, ⟨by have zc_o_r : (1 : Int32).toInt = 1 := (by decide); omega, by have zc_o_r : (1 : Int32).toInt = 1 := (by decide); omega⟩, by omega, i_125, xj_push i_134 (by omega) (by omega) ⟨by decide, by decide⟩ (Or.inl (by decide)), tj_1 (hj_push2 i_135 (by omega) (by omega) ⟨by decide, by decide⟩ (Or.inr (no31_le (inn_no31 i_110 (tj_d1 e_j (by decide)) n_113) (by omega)))) (by decide), by have w9 := (twt_0 (by decide) : twt (1 : Int32).toInt = 0); omega, rfl, rfl⟩), by rw [ht]; exact hP.sub [3, 0, 1, 2, 4, 5] rfl, hD.sub [3, 0, 1, 2, 4, 5] (by decide) rfl⟩, hS.F ht⟩) hS.2.2 dX12_behindSum_232
                              ·
                                exact absurd c_121 (by decide)
                          ·
                            obtain ⟨hP, hD⟩ := va_join (wr := [(b_tp, (arI G 400 v_tp)), (b_op, (arI G 400 v_op)), (b_ar, (arI G 400 v_ar)), (b_pa, (arI G 400 v_pa)), (b_pi, (arI G 400 v_pi))]) hP hD [4] [0, 1, 2, 3, 5] rfl rfl (by decide) (by decide) hk1 hFc hP1 hD1
                            generalize H1 = H at hP hS ⊢
                            refine g5_rs [(b_tp, (arI G 400 v_tp)), (b_op, (arI G 400 v_op)), (b_ar, (arI G 400 v_ar)), (b_pa, (arI G 400 v_pa)), (b_pi, (arI G 400 v_pi)), (b_o, (oc12 u_th u_sa b_rf b_ro b_im b_ke u_fd b_tp u_td u_fr u_to u_so u_wo u_fa u_bd u_nc b_nl u_co b_op b_ar u_le b_pi b_pa u_pd u_od b_ws b_hw u_la b_se b_re u_bk u_va u_su u_ce u_ho u_wy u_bt u_ps b_pt u_tg u_sn b_ip u_ic b_ah b_be b_me u_wd b_tr b_ld u_st b_wn u_id))] hP hD (fun hP hD => ?_)
                            refine lv_if_eq (tgt := 172) hx hb dX12_behindSum_164 (by decide) (fun c_146 => ?_) (fun c_146 => ?_)
                            ·
                              refine lv_aload_n hx hb dX12_behindSum_172 rfl (lv_at hl 2 rfl) ?_
                              refine lv_bipush (v := 62) hx hb dX12_behindSum_173 (by decide) ?_
                              obtain ⟨hPc, hDc, hFc⟩ := g5_sub3 (wc := [(b_o, (oc12 u_th u_sa b_rf b_ro b_im b_ke u_fd b_tp u_td u_fr u_to u_so u_wo u_fa u_bd u_nc b_nl u_co b_op b_ar u_le b_pi b_pa u_pd u_od b_ws b_hw u_la b_se b_re u_bk u_va u_su u_ce u_ho u_wy u_bt u_ps b_pt u_tg u_sn b_ip u_ic b_ah b_be b_me u_wd b_tr b_ld u_st b_wn u_id))]) hP hD hS hA [5] (by decide) rfl
                              refine va_calli (va_runV (As := [.int 62]) (rest := []) ⟨hx, hb, hml, hown, hts⟩ (n_isSign l G b_o b_rf b_ro b_im b_ke b_tp b_nl b_op b_ar b_pi b_pa b_ws b_hw b_se b_re b_pt b_ip b_ah b_be b_me b_tr b_ld b_wn H.size u_th u_sa u_fd u_td u_fr u_to u_so u_fa u_bd u_nc u_co u_le u_pd u_od u_la u_bk u_ce u_ho u_wy u_bt u_ps u_tg u_sn u_ic u_wd u_id 62 u_wo u_va u_su u_st h_u_td h_u_fr h_u_to ⟨by omega, by omega⟩ h_u_nc h_u_co h_u_pd h_u_la h_u_bk h_u_ce h_u_ho h_u_wy h_u_bt h_u_ps h_u_ic h_u_id) (cwV 1 hts gV_X12_267 rfl rfl rfl hv_X12_isSign ⟨Nat.le_of_ble_eq_true rfl, Nat.le_of_ble_eq_true rfl⟩) (g5_preV hPc hK hDc hN hT hS hFc (ci := 12) (q0 := 0) rfl rfl) rfl rfl hl.1 rfl (lv_room (Nat.le_of_ble_eq_true rfl)) dX12_behindSum_175 ⟨Nat.le_of_ble_eq_true rfl, Nat.le_of_ble_eq_true rfl⟩) hS (fun q _ h => hFc q h) hFc (fun r u t H1 locs ht hvm hw hB hz1 hk1 hS => ?_)
                              obtain ⟨hP1, hD1⟩ := hB
                              rw [ht] at hP1
                              rcases hw with ⟨i_147, rfl, rfl⟩ | ⟨rfl, rfl⟩
                              ·
                                have i_147 : u_so.toInt = 3 := i_147
                                obtain ⟨hP, hD⟩ := va_join (wr := [(b_tp, (arI G 400 v_tp)), (b_op, (arI G 400 v_op)), (b_ar, (arI G 400 v_ar)), (b_pa, (arI G 400 v_pa)), (b_pi, (arI G 400 v_pi))]) hP hD [5] [0, 1, 2, 3, 4] rfl rfl (by decide) (by decide) hk1 hFc hP1 hD1
                                generalize H1 = H at hP hS ⊢
                                refine g5_rs [(b_tp, (arI G 400 v_tp)), (b_op, (arI G 400 v_op)), (b_ar, (arI G 400 v_ar)), (b_pa, (arI G 400 v_pa)), (b_pi, (arI G 400 v_pi)), (b_o, (oc12 u_th u_sa b_rf b_ro b_im b_ke u_fd b_tp u_td u_fr u_to u_so u_wo u_fa u_bd u_nc b_nl u_co b_op b_ar u_le b_pi b_pa u_pd u_od b_ws b_hw u_la b_se b_re u_bk u_va u_su u_ce u_ho u_wy u_bt u_ps b_pt u_tg u_sn b_ip u_ic b_ah b_be b_me u_wd b_tr b_ld u_st b_wn u_id))] hP hD (fun hP hD => ?_)
                                refine lv_if_eq (tgt := 186) hx hb dX12_behindSum_178 (by decide) (fun c_148 => ?_) (fun c_148 => ?_)
                                ·
                                  exact absurd c_148 (by decide)
                                ·
                                  refine lv_bipush (v := 25) hx hb dX12_behindSum_181 (by decide) ?_
                                  refine lv_goto (tgt := 188) hx hb dX12_behindSum_183 (by decide) ?_
                                  refine lv_istore_n (lv' := [(2, .int 25), (3, .int z111), (0, .ref b_o), (1, .int p_1)]) hx hb dX12_behindSum_188 rfl hl (by decide) rfl (fun ls hl => ?_)
                                  refine lv_aload_n hx hb dX12_behindSum_189 rfl (lv_at hl 2 rfl) ?_
                                  refine lv_iload_n hx hb dX12_behindSum_190 rfl (lv_at hl 0 rfl) ?_
                                  refine lv_bipush (v := 26) hx hb dX12_behindSum_191 (by decide) ?_
                                  refine lv_icmp_ne (tgt := 205) hx hb dX12_behindSum_193 (by decide) (fun c_149 => ?_) (fun c_149 => ?_)
                                  ·
                                    refine lv_iconst (v := 1) hx hb dX12_behindSum_205 (by decide) ?_
                                    refine lv_goto (tgt := 210) hx hb dX12_behindSum_206 (by decide) ?_
                                    have hlt9 : u_fr.toInt < u_to.toInt := tks_lt e_s (by omega)
                                    obtain ⟨hPc, hDc, hFc⟩ := g5_sub3 (wc := [(b_o, (oc12 u_th u_sa b_rf b_ro b_im b_ke u_fd b_tp u_td u_fr u_to u_so u_wo u_fa u_bd u_nc b_nl u_co b_op b_ar u_le b_pi b_pa u_pd u_od b_ws b_hw u_la b_se b_re u_bk u_va u_su u_ce u_ho u_wy u_bt u_ps b_pt u_tg u_sn b_ip u_ic b_ah b_be b_me u_wd b_tr b_ld u_st b_wn u_id)), (b_tp, (arI G 400 v_tp))]) hP hD hS hA [5, 0] (by decide) rfl
                                    refine va_callv (va_runV (As := [.int 1]) (rest := []) ⟨hx, hb, hml, hown, hts⟩ (n_must1 l G b_o b_tp b_rf b_ro b_im b_ke b_nl b_op b_ar b_pi b_pa b_ws b_hw b_se b_re b_pt b_ip b_ah b_be b_me b_tr b_ld b_wn H.size u_th u_sa u_fd u_td u_fr u_to u_so u_fa u_bd u_nc u_co u_le u_pd u_od u_la u_bk u_ce u_ho u_wy u_bt u_ps u_tg u_sn u_ic u_wd u_id u_wo u_va u_su u_st v_tp h_u_td h_u_fr h_u_to h_u_bd h_u_nc h_u_co h_u_pd h_u_la h_u_bk h_u_ce h_u_ho h_u_wy h_u_bt h_u_ps h_u_ic h_u_id (by omega)) (cwV 1 hts gV_X12_233 rfl rfl rfl hv_X12_must ⟨Nat.le_of_ble_eq_true rfl, Nat.le_of_ble_eq_true rfl⟩) (g5_preV hPc hK hDc hN hT hS hFc (ci := 12) (q0 := 0) rfl rfl) rfl rfl hl.1 rfl (lv_room (Nat.le_of_ble_eq_true rfl)) dX12_behindSum_210 ⟨Nat.le_of_ble_eq_true rfl, Nat.le_of_ble_eq_true rfl⟩) hS (fun q _ h => hFc q h) hFc (fun u t H1 locs ht hvm hw hB hz1 hk1 hS => ?_)
                                    obtain ⟨hP1, hD1⟩ := hB
                                    rw [ht] at hP1
                                    obtain ⟨z154, z155, z156, z157, i_150, i_151, i_152, i_153, rfl⟩ := hw
                                    have i_150 : 0 ≤ z154.toInt ∧ z154.toInt ≤ 400 := i_150
                                    have i_151 : 0 ≤ z155.toInt ∧ z155.toInt ≤ 400 := i_151
                                    have i_152 : u_to.toInt ≤ z154.toInt ∧ z154.toInt ≤ z155.toInt ∧ z155.toInt ≤ u_td.toInt := i_152
                                    have i_153 : TKs z156.toInt z154.toInt z155.toInt := i_153
                                    obtain ⟨hP, hD⟩ := va_join (wr := [(b_op, (arI G 400 v_op)), (b_ar, (arI G 400 v_ar)), (b_pa, (arI G 400 v_pa)), (b_pi, (arI G 400 v_pi))]) hP hD [5, 0] [1, 2, 3, 4] rfl rfl (by decide) (by decide) hk1 hFc hP1 hD1
                                    generalize H1 = H at hP hS ⊢
                                    refine g5_rs [(b_op, (arI G 400 v_op)), (b_ar, (arI G 400 v_ar)), (b_pa, (arI G 400 v_pa)), (b_pi, (arI G 400 v_pi)), (b_o, (oc12 u_th u_sa b_rf b_ro b_im b_ke u_fd b_tp u_td z154 z155 z156 z157 u_fa u_bd u_nc b_nl u_co b_op b_ar u_le b_pi b_pa u_pd u_od b_ws b_hw u_la b_se b_re u_bk u_va u_su u_ce u_ho u_wy u_bt u_ps b_pt u_tg u_sn b_ip u_ic b_ah b_be b_me u_wd b_tr b_ld u_st b_wn u_id)), (b_tp, (arI G 400 v_tp))] hP hD (fun hP hD => ?_)
                                    refine lv_aload_n hx hb dX12_behindSum_213 rfl (lv_at hl 2 rfl) ?_
                                    refine va_get (D := G.1) (ci := 12) (v := .int u_bd) (C := RX12) (T := TX12) (N := 52) hx hb hts inG_X12 hown hK hP 4 rfl rfl 14 (by decide) (hts _ fl_X12_205) (fun _ h9 => h9) rfl dX12_behindSum_214 ?_
                                    refine lv_if_ne (tgt := 231) hx hb dX12_behindSum_217 (by decide) (fun c_158 => ?_) (fun c_158 => ?_)
                                    ·
                                      have i_158 : u_bd.toInt ≠ 0 := by have z := g5_ne (a := u_bd.toInt) (b := 0) (by rfl) (by decide) c_158; omega
                                      omega
                                    ·
                                      have i_158 : u_bd.toInt = 0 := by have z := g5_neN (a := u_bd.toInt) (b := 0) (by rfl) (by decide) c_158; omega
                                      have hE_159 : HJ v_op v_ar v_pi v_pa g_a.toInt u_co.toInt u_pd.toInt 1 := tj_d1 e_j (by decide)
                                      refine lv_aload_n hx hb dX12_behindSum_220 rfl (lv_at hl 2 rfl) ?_
                                      refine lv_iconst (v := 5) hx hb dX12_behindSum_221 (by decide) ?_
                                      obtain ⟨hPc, hDc, hFc⟩ := g5_sub3 (wc := [(b_o, (oc12 u_th u_sa b_rf b_ro b_im b_ke u_fd b_tp u_td z154 z155 z156 z157 u_fa u_bd u_nc b_nl u_co b_op b_ar u_le b_pi b_pa u_pd u_od b_ws b_hw u_la b_se b_re u_bk u_va u_su u_ce u_ho u_wy u_bt u_ps b_pt u_tg u_sn b_ip u_ic b_ah b_be b_me u_wd b_tr b_ld u_st b_wn u_id)), (b_op, (arI G 400 v_op)), (b_ar, (arI G 400 v_ar)), (b_pi, (arI G 400 v_pi)), (b_pa, (arI G 400 v_pa))]) hP hD hS hA [4, 0, 1, 3, 2] (by decide) rfl
                                      refine va_callv (va_runV (As := [.int 5]) (rest := []) ⟨hx, hb, hml, hown, hts⟩ (n_settleH l G b_o b_op b_ar b_pi b_pa b_rf b_ro b_im b_ke b_tp b_nl b_ws b_hw b_se b_re b_pt b_ip b_ah b_be b_me b_tr b_ld b_wn H.size u_th u_sa u_fd u_td z154 z155 z156 u_fa u_bd u_nc u_co u_le u_pd u_od u_la u_bk u_ce u_ho u_wy u_bt u_ps u_tg u_sn u_ic u_wd u_id 5 g_a u_fr z157 u_va u_su u_st v_op v_ar v_pi v_pa g_op g_ar h_u_td i_150 i_151 ⟨by omega, by omega⟩ h_u_nc h_u_co h_u_pd h_u_la h_u_bk h_u_ce h_u_ho h_u_wy h_u_bt h_u_ps h_u_ic h_u_id ⟨by decide, by decide⟩ (by omega) (e_x) (hE_159)) (cwV 1 hts gV_X12_288 rfl rfl rfl hv_X12_settle ⟨Nat.le_of_ble_eq_true rfl, Nat.le_of_ble_eq_true rfl⟩) (g5_preV hPc hK hDc hN hT hS hFc (ci := 12) (q0 := 0) rfl rfl) rfl rfl hl.1 rfl (lv_room (Nat.le_of_ble_eq_true rfl)) dX12_behindSum_222 ⟨Nat.le_of_ble_eq_true rfl, Nat.le_of_ble_eq_true rfl⟩) hS (fun q _ h => hFc q h) hFc (fun u t H1 locs ht hvm hw hB hz1 hk1 hS => ?_)
                                      obtain ⟨hP1, hD1⟩ := hB
                                      rw [ht] at hP1
                                      obtain ⟨z167, z168, z169, z170, i_160, i_161, i_162, i_163, i_164, i_165, i_166, rfl⟩ := hw
                                      have i_160 : 0 ≤ z167.toInt ∧ z167.toInt ≤ 400 := i_160
                                      have i_161 : 0 ≤ z168.toInt ∧ z168.toInt ≤ 400 := i_161
                                      have i_162 : XJ g_op g_ar z169 z170 v_pi v_pa g_a.toInt z167.toInt z168.toInt u_fr.toInt := i_162
                                      have i_163 : HJ z169 z170 v_pi v_pa g_a.toInt z167.toInt z168.toInt 1 := i_163
                                      have i_164 : S1 v_pi u_pd.toInt z168.toInt := i_164
                                      have i_165 : S2 v_pi z168.toInt (5 : Int32).toInt := i_165
                                      have i_166 : z168.toInt ≤ u_pd.toInt := i_166
                                      obtain ⟨hP, hD⟩ := va_join (wr := [(b_tp, (arI G 400 v_tp))]) hP hD [4, 0, 1, 3, 2] [5] rfl rfl (by decide) (by decide) hk1 hFc hP1 hD1
                                      generalize H1 = H at hP hS ⊢
                                      refine g5_rs [(b_tp, (arI G 400 v_tp)), (b_o, (oc12 u_th u_sa b_rf b_ro b_im b_ke u_fd b_tp u_td z154 z155 z156 z157 u_fa u_bd u_nc b_nl z167 b_op b_ar u_le b_pi b_pa z168 u_od b_ws b_hw u_la b_se b_re u_bk u_va u_su u_ce u_ho u_wy u_bt u_ps b_pt u_tg u_sn b_ip u_ic b_ah b_be b_me u_wd b_tr b_ld u_st b_wn u_id)), (b_op, (arI G 400 z169)), (b_ar, (arI G 400 z170)), (b_pi, (arI G 400 v_pi)), (b_pa, (arI G 400 v_pa))] hP hD (fun hP hD => ?_)
                                      have hmf8 := xj_mf i_162
                                      refine lv_aload_n hx hb dX12_behindSum_225 rfl (lv_at hl 2 rfl) ?_
                                      refine lv_iload_n hx hb dX12_behindSum_226 rfl (lv_at hl 0 rfl) ?_
                                      refine lv_iconst (v := 0) hx hb dX12_behindSum_227 (by decide) ?_
                                      obtain ⟨hPc, hDc, hFc⟩ := g5_sub3 (wc := [(b_o, (oc12 u_th u_sa b_rf b_ro b_im b_ke u_fd b_tp u_td z154 z155 z156 z157 u_fa u_bd u_nc b_nl z167 b_op b_ar u_le b_pi b_pa z168 u_od b_ws b_hw u_la b_se b_re u_bk u_va u_su u_ce u_ho u_wy u_bt u_ps b_pt u_tg u_sn b_ip u_ic b_ah b_be b_me u_wd b_tr b_ld u_st b_wn u_id)), (b_pi, (arI G 400 v_pi)), (b_pa, (arI G 400 v_pa))]) hP hD hS hA [1, 4, 5] (by decide) rfl
                                      refine va_callv (va_runV (As := [.int 25, .int 0]) (rest := []) ⟨hx, hb, hml, hown, hts⟩ (n_push l G b_o b_pi b_pa b_rf b_ro b_im b_ke b_tp b_nl b_op b_ar b_ws b_hw b_se b_re b_pt b_ip b_ah b_be b_me b_tr b_ld b_wn H.size u_th u_sa u_fd u_td z154 z155 z156 u_fa u_bd u_nc z167 u_le z168 u_od u_la u_bk u_ce u_ho u_wy u_bt u_ps u_tg u_sn u_ic u_wd u_id 25 0 z157 u_va u_su u_st v_pi v_pa h_u_td i_150 i_151 ⟨by omega, by omega⟩ h_u_nc i_160 i_161 h_u_la h_u_bk h_u_ce h_u_ho h_u_wy h_u_bt h_u_ps h_u_ic h_u_id (by omega)) (cwV 2 hts gV_X12_261 rfl rfl rfl hv_X12_push ⟨Nat.le_of_ble_eq_true rfl, Nat.le_of_ble_eq_true rfl⟩) (g5_preV hPc hK hDc hN hT hS hFc (ci := 12) (q0 := 0) rfl rfl) rfl rfl hl.1 rfl (lv_room (Nat.le_of_ble_eq_true rfl)) dX12_behindSum_228 ⟨Nat.le_of_ble_eq_true rfl, Nat.le_of_ble_eq_true rfl⟩) hS (fun q _ h => hFc q h) hFc (fun u t H1 locs ht hvm hw hB hz1 hk1 hS => ?_)
                                      obtain ⟨hP1, hD1⟩ := hB
                                      rw [ht] at hP1
                                      obtain ⟨z173, i_171, i_172, rfl⟩ := hw
                                      have i_171 : 0 ≤ z173.toInt ∧ z173.toInt ≤ 400 := i_171
                                      have i_172 : z173.toInt = z168.toInt + 1 := i_172
                                      obtain ⟨hP, hD⟩ := va_join (wr := [(b_tp, (arI G 400 v_tp)), (b_op, (arI G 400 z169)), (b_ar, (arI G 400 z170))]) hP hD [1, 4, 5] [0, 2, 3] rfl rfl (by decide) (by decide) hk1 hFc hP1 hD1
                                      generalize H1 = H at hP hS ⊢
                                      refine g5_rs [(b_tp, (arI G 400 v_tp)), (b_op, (arI G 400 z169)), (b_ar, (arI G 400 z170)), (b_o, (oc12 u_th u_sa b_rf b_ro b_im b_ke u_fd b_tp u_td z154 z155 z156 z157 u_fa u_bd u_nc b_nl z167 b_op b_ar u_le b_pi b_pa z173 u_od b_ws b_hw u_la b_se b_re u_bk u_va u_su u_ce u_ho u_wy u_bt u_ps b_pt u_tg u_sn b_ip u_ic b_ah b_be b_me u_wd b_tr b_ld u_st b_wn u_id)), (b_pi, (arI G 400 (upd v_pi z168.toNatClampNeg 25))), (b_pa, (arI G 400 (upd v_pa z168.toNatClampNeg 0)))] hP hD (fun hP hD => ?_)
                                      refine lv_iconst (v := 1) hx hb dX12_behindSum_231 (by decide) ?_
                                      exact W.iret (v := 1) hx hb hr (fun t ht hW => ⟨⟨1, [(b_o, (oc12 u_th u_sa b_rf b_ro b_im b_ke u_fd b_tp u_td z154 z155 z156 z157 u_fa u_bd u_nc b_nl z167 b_op b_ar u_le b_pi b_pa z173 u_od b_ws b_hw u_la b_se b_re u_bk u_va u_su u_ce u_ho u_wy u_bt u_ps b_pt u_tg u_sn b_ip u_ic b_ah b_be b_me u_wd b_tr b_ld u_st b_wn u_id)), (b_tp, (arI G 400 v_tp)), (b_op, (arI G 400 z169)), (b_ar, (arI G 400 z170)), (b_pi, (arI G 400 (upd v_pi z168.toNatClampNeg 25))), (b_pa, (arI G 400 (upd v_pa z168.toNatClampNeg 0)))], rfl, Or.inr (⟨1, z154, z155, z156, z157, z167, z173, u_od, z169, z170, (upd v_pi z168.toNatClampNeg 25), (upd v_pa z168.toNatClampNeg 0), i_150, i_151, i_160, i_171, ⟨by have zc_o_r : (1 : Int32).toInt = 1 := (by decide); omega, by have zc_o_r : (1 : Int32).toInt = 1 := (by decide); omega⟩, by omega, i_153, xj_push i_162 (by omega) (by omega) ⟨by decide, by decide⟩ (Or.inl (by decide)), tj_1 (hj_push2 i_163 (by omega) (by omega) ⟨by decide, by decide⟩ (Or.inr (no31_le (inn_no31 i_110 (tj_d1 e_j (by decide)) n_113) (by omega)))) (by decide), by have w9 := (twt_0 (by decide) : twt (1 : Int32).toInt = 0); omega, rfl, rfl⟩), by rw [ht]; exact hP.sub [3, 0, 1, 2, 4, 5] rfl, hD.sub [3, 0, 1, 2, 4, 5] (by decide) rfl⟩, hS.F ht⟩) hS.2.2 dX12_behindSum_232
                                  ·
                                    exact absurd c_149 (by decide)
                              ·
                                obtain ⟨hP, hD⟩ := va_join (wr := [(b_tp, (arI G 400 v_tp)), (b_op, (arI G 400 v_op)), (b_ar, (arI G 400 v_ar)), (b_pa, (arI G 400 v_pa)), (b_pi, (arI G 400 v_pi))]) hP hD [5] [0, 1, 2, 3, 4] rfl rfl (by decide) (by decide) hk1 hFc hP1 hD1
                                generalize H1 = H at hP hS ⊢
                                refine g5_rs [(b_tp, (arI G 400 v_tp)), (b_op, (arI G 400 v_op)), (b_ar, (arI G 400 v_ar)), (b_pa, (arI G 400 v_pa)), (b_pi, (arI G 400 v_pi)), (b_o, (oc12 u_th u_sa b_rf b_ro b_im b_ke u_fd b_tp u_td u_fr u_to u_so u_wo u_fa u_bd u_nc b_nl u_co b_op b_ar u_le b_pi b_pa u_pd u_od b_ws b_hw u_la b_se b_re u_bk u_va u_su u_ce u_ho u_wy u_bt u_ps b_pt u_tg u_sn b_ip u_ic b_ah b_be b_me u_wd b_tr b_ld u_st b_wn u_id))] hP hD (fun hP hD => ?_)
                                refine lv_if_eq (tgt := 186) hx hb dX12_behindSum_178 (by decide) (fun c_174 => ?_) (fun c_174 => ?_)
                                ·
                                  refine lv_bipush (v := 26) hx hb dX12_behindSum_186 (by decide) ?_
                                  refine lv_istore_n (lv' := [(2, .int 26), (3, .int z111), (0, .ref b_o), (1, .int p_1)]) hx hb dX12_behindSum_188 rfl hl (by decide) rfl (fun ls hl => ?_)
                                  refine lv_aload_n hx hb dX12_behindSum_189 rfl (lv_at hl 2 rfl) ?_
                                  refine lv_iload_n hx hb dX12_behindSum_190 rfl (lv_at hl 0 rfl) ?_
                                  refine lv_bipush (v := 26) hx hb dX12_behindSum_191 (by decide) ?_
                                  refine lv_icmp_ne (tgt := 205) hx hb dX12_behindSum_193 (by decide) (fun c_175 => ?_) (fun c_175 => ?_)
                                  ·
                                    exact absurd c_175 (by decide)
                                  ·
                                    refine lv_aload_n hx hb dX12_behindSum_196 rfl (lv_at hl 2 rfl) ?_
                                    refine lv_bipush (v := 61) hx hb dX12_behindSum_197 (by decide) ?_
                                    obtain ⟨hPc, hDc, hFc⟩ := g5_sub3 (wc := [(b_o, (oc12 u_th u_sa b_rf b_ro b_im b_ke u_fd b_tp u_td u_fr u_to u_so u_wo u_fa u_bd u_nc b_nl u_co b_op b_ar u_le b_pi b_pa u_pd u_od b_ws b_hw u_la b_se b_re u_bk u_va u_su u_ce u_ho u_wy u_bt u_ps b_pt u_tg u_sn b_ip u_ic b_ah b_be b_me u_wd b_tr b_ld u_st b_wn u_id))]) hP hD hS hA [5] (by decide) rfl
                                    refine va_calli (va_runV (As := [.int 61]) (rest := [.ref b_o]) ⟨hx, hb, hml, hown, hts⟩ (n_isSign l G b_o b_rf b_ro b_im b_ke b_tp b_nl b_op b_ar b_pi b_pa b_ws b_hw b_se b_re b_pt b_ip b_ah b_be b_me b_tr b_ld b_wn H.size u_th u_sa u_fd u_td u_fr u_to u_so u_fa u_bd u_nc u_co u_le u_pd u_od u_la u_bk u_ce u_ho u_wy u_bt u_ps u_tg u_sn u_ic u_wd u_id 61 u_wo u_va u_su u_st h_u_td h_u_fr h_u_to ⟨by omega, by omega⟩ h_u_nc h_u_co h_u_pd h_u_la h_u_bk h_u_ce h_u_ho h_u_wy h_u_bt h_u_ps h_u_ic h_u_id) (cwV 1 hts gV_X12_267 rfl rfl rfl hv_X12_isSign ⟨Nat.le_of_ble_eq_true rfl, Nat.le_of_ble_eq_true rfl⟩) (g5_preV hPc hK hDc hN hT hS hFc (ci := 12) (q0 := 0) rfl rfl) rfl rfl hl.1 rfl (lv_room (Nat.le_of_ble_eq_true rfl)) dX12_behindSum_199 ⟨Nat.le_of_ble_eq_true rfl, Nat.le_of_ble_eq_true rfl⟩) hS (fun q _ h => hFc q h) hFc (fun r u t H1 locs ht hvm hw hB hz1 hk1 hS => ?_)
                                    obtain ⟨hP1, hD1⟩ := hB
                                    rw [ht] at hP1
                                    rcases hw with ⟨i_176, rfl, rfl⟩ | ⟨rfl, rfl⟩
                                    ·
                                      have i_176 : u_so.toInt = 3 := i_176
                                      obtain ⟨hP, hD⟩ := va_join (wr := [(b_tp, (arI G 400 v_tp)), (b_op, (arI G 400 v_op)), (b_ar, (arI G 400 v_ar)), (b_pa, (arI G 400 v_pa)), (b_pi, (arI G 400 v_pi))]) hP hD [5] [0, 1, 2, 3, 4] rfl rfl (by decide) (by decide) hk1 hFc hP1 hD1
                                      generalize H1 = H at hP hS ⊢
                                      refine g5_rs [(b_tp, (arI G 400 v_tp)), (b_op, (arI G 400 v_op)), (b_ar, (arI G 400 v_ar)), (b_pa, (arI G 400 v_pa)), (b_pi, (arI G 400 v_pi)), (b_o, (oc12 u_th u_sa b_rf b_ro b_im b_ke u_fd b_tp u_td u_fr u_to u_so u_wo u_fa u_bd u_nc b_nl u_co b_op b_ar u_le b_pi b_pa u_pd u_od b_ws b_hw u_la b_se b_re u_bk u_va u_su u_ce u_ho u_wy u_bt u_ps b_pt u_tg u_sn b_ip u_ic b_ah b_be b_me u_wd b_tr b_ld u_st b_wn u_id))] hP hD (fun hP hD => ?_)
                                      refine lv_if_eq (tgt := 209) hx hb dX12_behindSum_202 (by decide) (fun c_177 => ?_) (fun c_177 => ?_)
                                      ·
                                        exact absurd c_177 (by decide)
                                      ·
                                        refine lv_iconst (v := 1) hx hb dX12_behindSum_205 (by decide) ?_
                                        refine lv_goto (tgt := 210) hx hb dX12_behindSum_206 (by decide) ?_
                                        have hlt9 : u_fr.toInt < u_to.toInt := tks_lt e_s (by omega)
                                        obtain ⟨hPc, hDc, hFc⟩ := g5_sub3 (wc := [(b_o, (oc12 u_th u_sa b_rf b_ro b_im b_ke u_fd b_tp u_td u_fr u_to u_so u_wo u_fa u_bd u_nc b_nl u_co b_op b_ar u_le b_pi b_pa u_pd u_od b_ws b_hw u_la b_se b_re u_bk u_va u_su u_ce u_ho u_wy u_bt u_ps b_pt u_tg u_sn b_ip u_ic b_ah b_be b_me u_wd b_tr b_ld u_st b_wn u_id)), (b_tp, (arI G 400 v_tp))]) hP hD hS hA [5, 0] (by decide) rfl
                                        refine va_callv (va_runV (As := [.int 1]) (rest := []) ⟨hx, hb, hml, hown, hts⟩ (n_must1 l G b_o b_tp b_rf b_ro b_im b_ke b_nl b_op b_ar b_pi b_pa b_ws b_hw b_se b_re b_pt b_ip b_ah b_be b_me b_tr b_ld b_wn H.size u_th u_sa u_fd u_td u_fr u_to u_so u_fa u_bd u_nc u_co u_le u_pd u_od u_la u_bk u_ce u_ho u_wy u_bt u_ps u_tg u_sn u_ic u_wd u_id u_wo u_va u_su u_st v_tp h_u_td h_u_fr h_u_to h_u_bd h_u_nc h_u_co h_u_pd h_u_la h_u_bk h_u_ce h_u_ho h_u_wy h_u_bt h_u_ps h_u_ic h_u_id (by omega)) (cwV 1 hts gV_X12_233 rfl rfl rfl hv_X12_must ⟨Nat.le_of_ble_eq_true rfl, Nat.le_of_ble_eq_true rfl⟩) (g5_preV hPc hK hDc hN hT hS hFc (ci := 12) (q0 := 0) rfl rfl) rfl rfl hl.1 rfl (lv_room (Nat.le_of_ble_eq_true rfl)) dX12_behindSum_210 ⟨Nat.le_of_ble_eq_true rfl, Nat.le_of_ble_eq_true rfl⟩) hS (fun q _ h => hFc q h) hFc (fun u t H1 locs ht hvm hw hB hz1 hk1 hS => ?_)
                                        obtain ⟨hP1, hD1⟩ := hB
                                        rw [ht] at hP1
                                        obtain ⟨z182, z183, z184, z185, i_178, i_179, i_180, i_181, rfl⟩ := hw
                                        have i_178 : 0 ≤ z182.toInt ∧ z182.toInt ≤ 400 := i_178
                                        have i_179 : 0 ≤ z183.toInt ∧ z183.toInt ≤ 400 := i_179
                                        have i_180 : u_to.toInt ≤ z182.toInt ∧ z182.toInt ≤ z183.toInt ∧ z183.toInt ≤ u_td.toInt := i_180
                                        have i_181 : TKs z184.toInt z182.toInt z183.toInt := i_181
                                        obtain ⟨hP, hD⟩ := va_join (wr := [(b_op, (arI G 400 v_op)), (b_ar, (arI G 400 v_ar)), (b_pa, (arI G 400 v_pa)), (b_pi, (arI G 400 v_pi))]) hP hD [5, 0] [1, 2, 3, 4] rfl rfl (by decide) (by decide) hk1 hFc hP1 hD1
                                        generalize H1 = H at hP hS ⊢
                                        refine g5_rs [(b_op, (arI G 400 v_op)), (b_ar, (arI G 400 v_ar)), (b_pa, (arI G 400 v_pa)), (b_pi, (arI G 400 v_pi)), (b_o, (oc12 u_th u_sa b_rf b_ro b_im b_ke u_fd b_tp u_td z182 z183 z184 z185 u_fa u_bd u_nc b_nl u_co b_op b_ar u_le b_pi b_pa u_pd u_od b_ws b_hw u_la b_se b_re u_bk u_va u_su u_ce u_ho u_wy u_bt u_ps b_pt u_tg u_sn b_ip u_ic b_ah b_be b_me u_wd b_tr b_ld u_st b_wn u_id)), (b_tp, (arI G 400 v_tp))] hP hD (fun hP hD => ?_)
                                        refine lv_aload_n hx hb dX12_behindSum_213 rfl (lv_at hl 2 rfl) ?_
                                        refine va_get (D := G.1) (ci := 12) (v := .int u_bd) (C := RX12) (T := TX12) (N := 52) hx hb hts inG_X12 hown hK hP 4 rfl rfl 14 (by decide) (hts _ fl_X12_205) (fun _ h9 => h9) rfl dX12_behindSum_214 ?_
                                        refine lv_if_ne (tgt := 231) hx hb dX12_behindSum_217 (by decide) (fun c_186 => ?_) (fun c_186 => ?_)
                                        ·
                                          have i_186 : u_bd.toInt ≠ 0 := by have z := g5_ne (a := u_bd.toInt) (b := 0) (by rfl) (by decide) c_186; omega
                                          omega
                                        ·
                                          have i_186 : u_bd.toInt = 0 := by have z := g5_neN (a := u_bd.toInt) (b := 0) (by rfl) (by decide) c_186; omega
                                          have hE_187 : HJ v_op v_ar v_pi v_pa g_a.toInt u_co.toInt u_pd.toInt 1 := tj_d1 e_j (by decide)
                                          refine lv_aload_n hx hb dX12_behindSum_220 rfl (lv_at hl 2 rfl) ?_
                                          refine lv_iconst (v := 5) hx hb dX12_behindSum_221 (by decide) ?_
                                          obtain ⟨hPc, hDc, hFc⟩ := g5_sub3 (wc := [(b_o, (oc12 u_th u_sa b_rf b_ro b_im b_ke u_fd b_tp u_td z182 z183 z184 z185 u_fa u_bd u_nc b_nl u_co b_op b_ar u_le b_pi b_pa u_pd u_od b_ws b_hw u_la b_se b_re u_bk u_va u_su u_ce u_ho u_wy u_bt u_ps b_pt u_tg u_sn b_ip u_ic b_ah b_be b_me u_wd b_tr b_ld u_st b_wn u_id)), (b_op, (arI G 400 v_op)), (b_ar, (arI G 400 v_ar)), (b_pi, (arI G 400 v_pi)), (b_pa, (arI G 400 v_pa))]) hP hD hS hA [4, 0, 1, 3, 2] (by decide) rfl
                                          refine va_callv (va_runV (As := [.int 5]) (rest := []) ⟨hx, hb, hml, hown, hts⟩ (n_settleH l G b_o b_op b_ar b_pi b_pa b_rf b_ro b_im b_ke b_tp b_nl b_ws b_hw b_se b_re b_pt b_ip b_ah b_be b_me b_tr b_ld b_wn H.size u_th u_sa u_fd u_td z182 z183 z184 u_fa u_bd u_nc u_co u_le u_pd u_od u_la u_bk u_ce u_ho u_wy u_bt u_ps u_tg u_sn u_ic u_wd u_id 5 g_a u_fr z185 u_va u_su u_st v_op v_ar v_pi v_pa g_op g_ar h_u_td i_178 i_179 ⟨by omega, by omega⟩ h_u_nc h_u_co h_u_pd h_u_la h_u_bk h_u_ce h_u_ho h_u_wy h_u_bt h_u_ps h_u_ic h_u_id ⟨by decide, by decide⟩ (by omega) (e_x) (hE_187)) (cwV 1 hts gV_X12_288 rfl rfl rfl hv_X12_settle ⟨Nat.le_of_ble_eq_true rfl, Nat.le_of_ble_eq_true rfl⟩) (g5_preV hPc hK hDc hN hT hS hFc (ci := 12) (q0 := 0) rfl rfl) rfl rfl hl.1 rfl (lv_room (Nat.le_of_ble_eq_true rfl)) dX12_behindSum_222 ⟨Nat.le_of_ble_eq_true rfl, Nat.le_of_ble_eq_true rfl⟩) hS (fun q _ h => hFc q h) hFc (fun u t H1 locs ht hvm hw hB hz1 hk1 hS => ?_)
                                          obtain ⟨hP1, hD1⟩ := hB
                                          rw [ht] at hP1
                                          obtain ⟨z195, z196, z197, z198, i_188, i_189, i_190, i_191, i_192, i_193, i_194, rfl⟩ := hw
                                          have i_188 : 0 ≤ z195.toInt ∧ z195.toInt ≤ 400 := i_188
                                          have i_189 : 0 ≤ z196.toInt ∧ z196.toInt ≤ 400 := i_189
                                          have i_190 : XJ g_op g_ar z197 z198 v_pi v_pa g_a.toInt z195.toInt z196.toInt u_fr.toInt := i_190
                                          have i_191 : HJ z197 z198 v_pi v_pa g_a.toInt z195.toInt z196.toInt 1 := i_191
                                          have i_192 : S1 v_pi u_pd.toInt z196.toInt := i_192
                                          have i_193 : S2 v_pi z196.toInt (5 : Int32).toInt := i_193
                                          have i_194 : z196.toInt ≤ u_pd.toInt := i_194
                                          obtain ⟨hP, hD⟩ := va_join (wr := [(b_tp, (arI G 400 v_tp))]) hP hD [4, 0, 1, 3, 2] [5] rfl rfl (by decide) (by decide) hk1 hFc hP1 hD1
                                          generalize H1 = H at hP hS ⊢
                                          refine g5_rs [(b_tp, (arI G 400 v_tp)), (b_o, (oc12 u_th u_sa b_rf b_ro b_im b_ke u_fd b_tp u_td z182 z183 z184 z185 u_fa u_bd u_nc b_nl z195 b_op b_ar u_le b_pi b_pa z196 u_od b_ws b_hw u_la b_se b_re u_bk u_va u_su u_ce u_ho u_wy u_bt u_ps b_pt u_tg u_sn b_ip u_ic b_ah b_be b_me u_wd b_tr b_ld u_st b_wn u_id)), (b_op, (arI G 400 z197)), (b_ar, (arI G 400 z198)), (b_pi, (arI G 400 v_pi)), (b_pa, (arI G 400 v_pa))] hP hD (fun hP hD => ?_)
                                          have hmf8 := xj_mf i_190
                                          refine lv_aload_n hx hb dX12_behindSum_225 rfl (lv_at hl 2 rfl) ?_
                                          refine lv_iload_n hx hb dX12_behindSum_226 rfl (lv_at hl 0 rfl) ?_
                                          refine lv_iconst (v := 0) hx hb dX12_behindSum_227 (by decide) ?_
                                          obtain ⟨hPc, hDc, hFc⟩ := g5_sub3 (wc := [(b_o, (oc12 u_th u_sa b_rf b_ro b_im b_ke u_fd b_tp u_td z182 z183 z184 z185 u_fa u_bd u_nc b_nl z195 b_op b_ar u_le b_pi b_pa z196 u_od b_ws b_hw u_la b_se b_re u_bk u_va u_su u_ce u_ho u_wy u_bt u_ps b_pt u_tg u_sn b_ip u_ic b_ah b_be b_me u_wd b_tr b_ld u_st b_wn u_id)), (b_pi, (arI G 400 v_pi)), (b_pa, (arI G 400 v_pa))]) hP hD hS hA [1, 4, 5] (by decide) rfl
                                          refine va_callv (va_runV (As := [.int 26, .int 0]) (rest := []) ⟨hx, hb, hml, hown, hts⟩ (n_push l G b_o b_pi b_pa b_rf b_ro b_im b_ke b_tp b_nl b_op b_ar b_ws b_hw b_se b_re b_pt b_ip b_ah b_be b_me b_tr b_ld b_wn H.size u_th u_sa u_fd u_td z182 z183 z184 u_fa u_bd u_nc z195 u_le z196 u_od u_la u_bk u_ce u_ho u_wy u_bt u_ps u_tg u_sn u_ic u_wd u_id 26 0 z185 u_va u_su u_st v_pi v_pa h_u_td i_178 i_179 ⟨by omega, by omega⟩ h_u_nc i_188 i_189 h_u_la h_u_bk h_u_ce h_u_ho h_u_wy h_u_bt h_u_ps h_u_ic h_u_id (by omega)) (cwV 2 hts gV_X12_261 rfl rfl rfl hv_X12_push ⟨Nat.le_of_ble_eq_true rfl, Nat.le_of_ble_eq_true rfl⟩) (g5_preV hPc hK hDc hN hT hS hFc (ci := 12) (q0 := 0) rfl rfl) rfl rfl hl.1 rfl (lv_room (Nat.le_of_ble_eq_true rfl)) dX12_behindSum_228 ⟨Nat.le_of_ble_eq_true rfl, Nat.le_of_ble_eq_true rfl⟩) hS (fun q _ h => hFc q h) hFc (fun u t H1 locs ht hvm hw hB hz1 hk1 hS => ?_)
                                          obtain ⟨hP1, hD1⟩ := hB
                                          rw [ht] at hP1
                                          obtain ⟨z201, i_199, i_200, rfl⟩ := hw
                                          have i_199 : 0 ≤ z201.toInt ∧ z201.toInt ≤ 400 := i_199
                                          have i_200 : z201.toInt = z196.toInt + 1 := i_200
                                          obtain ⟨hP, hD⟩ := va_join (wr := [(b_tp, (arI G 400 v_tp)), (b_op, (arI G 400 z197)), (b_ar, (arI G 400 z198))]) hP hD [1, 4, 5] [0, 2, 3] rfl rfl (by decide) (by decide) hk1 hFc hP1 hD1
                                          generalize H1 = H at hP hS ⊢
                                          refine g5_rs [(b_tp, (arI G 400 v_tp)), (b_op, (arI G 400 z197)), (b_ar, (arI G 400 z198)), (b_o, (oc12 u_th u_sa b_rf b_ro b_im b_ke u_fd b_tp u_td z182 z183 z184 z185 u_fa u_bd u_nc b_nl z195 b_op b_ar u_le b_pi b_pa z201 u_od b_ws b_hw u_la b_se b_re u_bk u_va u_su u_ce u_ho u_wy u_bt u_ps b_pt u_tg u_sn b_ip u_ic b_ah b_be b_me u_wd b_tr b_ld u_st b_wn u_id)), (b_pi, (arI G 400 (upd v_pi z196.toNatClampNeg 26))), (b_pa, (arI G 400 (upd v_pa z196.toNatClampNeg 0)))] hP hD (fun hP hD => ?_)
                                          refine lv_iconst (v := 1) hx hb dX12_behindSum_231 (by decide) ?_
                                          exact W.iret (v := 1) hx hb hr (fun t ht hW => ⟨⟨1, [(b_o, (oc12 u_th u_sa b_rf b_ro b_im b_ke u_fd b_tp u_td z182 z183 z184 z185 u_fa u_bd u_nc b_nl z195 b_op b_ar u_le b_pi b_pa z201 u_od b_ws b_hw u_la b_se b_re u_bk u_va u_su u_ce u_ho u_wy u_bt u_ps b_pt u_tg u_sn b_ip u_ic b_ah b_be b_me u_wd b_tr b_ld u_st b_wn u_id)), (b_tp, (arI G 400 v_tp)), (b_op, (arI G 400 z197)), (b_ar, (arI G 400 z198)), (b_pi, (arI G 400 (upd v_pi z196.toNatClampNeg 26))), (b_pa, (arI G 400 (upd v_pa z196.toNatClampNeg 0)))], rfl, Or.inr (⟨1, z182, z183, z184, z185, z195, z201, u_od, z197, z198, (upd v_pi z196.toNatClampNeg 26), (upd v_pa z196.toNatClampNeg 0), i_178, i_179, i_188, i_199, ⟨by have zc_o_r : (1 : Int32).toInt = 1 := (by decide); omega, by have zc_o_r : (1 : Int32).toInt = 1 := (by decide); omega⟩, by omega, i_181, xj_push i_190 (by omega) (by omega) ⟨by decide, by decide⟩ (Or.inl (by decide)), tj_1 (hj_push2 i_191 (by omega) (by omega) ⟨by decide, by decide⟩ (Or.inr (no31_le (inn_no31 i_110 (tj_d1 e_j (by decide)) n_113) (by omega)))) (by decide), by have w9 := (twt_0 (by decide) : twt (1 : Int32).toInt = 0); omega, rfl, rfl⟩), by rw [ht]; exact hP.sub [3, 0, 1, 2, 4, 5] rfl, hD.sub [3, 0, 1, 2, 4, 5] (by decide) rfl⟩, hS.F ht⟩) hS.2.2 dX12_behindSum_232
                                    ·
                                      obtain ⟨hP, hD⟩ := va_join (wr := [(b_tp, (arI G 400 v_tp)), (b_op, (arI G 400 v_op)), (b_ar, (arI G 400 v_ar)), (b_pa, (arI G 400 v_pa)), (b_pi, (arI G 400 v_pi))]) hP hD [5] [0, 1, 2, 3, 4] rfl rfl (by decide) (by decide) hk1 hFc hP1 hD1
                                      generalize H1 = H at hP hS ⊢
                                      refine g5_rs [(b_tp, (arI G 400 v_tp)), (b_op, (arI G 400 v_op)), (b_ar, (arI G 400 v_ar)), (b_pa, (arI G 400 v_pa)), (b_pi, (arI G 400 v_pi)), (b_o, (oc12 u_th u_sa b_rf b_ro b_im b_ke u_fd b_tp u_td u_fr u_to u_so u_wo u_fa u_bd u_nc b_nl u_co b_op b_ar u_le b_pi b_pa u_pd u_od b_ws b_hw u_la b_se b_re u_bk u_va u_su u_ce u_ho u_wy u_bt u_ps b_pt u_tg u_sn b_ip u_ic b_ah b_be b_me u_wd b_tr b_ld u_st b_wn u_id))] hP hD (fun hP hD => ?_)
                                      refine lv_if_eq (tgt := 209) hx hb dX12_behindSum_202 (by decide) (fun c_202 => ?_) (fun c_202 => ?_)
                                      ·
                                        refine lv_iconst (v := 0) hx hb dX12_behindSum_209 (by decide) ?_
                                        obtain ⟨hPc, hDc, hFc⟩ := g5_sub3 (wc := [(b_o, (oc12 u_th u_sa b_rf b_ro b_im b_ke u_fd b_tp u_td u_fr u_to u_so u_wo u_fa u_bd u_nc b_nl u_co b_op b_ar u_le b_pi b_pa u_pd u_od b_ws b_hw u_la b_se b_re u_bk u_va u_su u_ce u_ho u_wy u_bt u_ps b_pt u_tg u_sn b_ip u_ic b_ah b_be b_me u_wd b_tr b_ld u_st b_wn u_id)), (b_tp, (arI G 400 v_tp))]) hP hD hS hA [5, 0] (by decide) rfl
                                        refine va_callv (va_runV (As := [.int 0]) (rest := []) ⟨hx, hb, hml, hown, hts⟩ (n_must0 l G b_o b_tp b_rf b_ro b_im b_ke b_nl b_op b_ar b_pi b_pa b_ws b_hw b_se b_re b_pt b_ip b_ah b_be b_me b_tr b_ld b_wn H.size u_th u_sa u_fd u_td u_fr u_to u_so u_fa u_bd u_nc u_co u_le u_pd u_od u_la u_bk u_ce u_ho u_wy u_bt u_ps u_tg u_sn u_ic u_wd u_id u_wo u_va u_su u_st v_tp h_u_td h_u_fr h_u_to h_u_bd h_u_nc h_u_co h_u_pd h_u_la h_u_bk h_u_ce h_u_ho h_u_wy h_u_bt h_u_ps h_u_ic h_u_id) (cwV 1 hts gV_X12_233 rfl rfl rfl hv_X12_must ⟨Nat.le_of_ble_eq_true rfl, Nat.le_of_ble_eq_true rfl⟩) (g5_preV hPc hK hDc hN hT hS hFc (ci := 12) (q0 := 0) rfl rfl) rfl rfl hl.1 rfl (lv_room (Nat.le_of_ble_eq_true rfl)) dX12_behindSum_210 ⟨Nat.le_of_ble_eq_true rfl, Nat.le_of_ble_eq_true rfl⟩) hS (fun q _ h => hFc q h) hFc (fun u t H1 locs ht hvm hw hB hz1 hk1 hS => ?_)
                                        obtain ⟨hP1, hD1⟩ := hB
                                        rw [ht] at hP1
                                        obtain rfl := hw
                                        obtain ⟨hP, hD⟩ := va_join (wr := [(b_op, (arI G 400 v_op)), (b_ar, (arI G 400 v_ar)), (b_pa, (arI G 400 v_pa)), (b_pi, (arI G 400 v_pi))]) hP hD [5, 0] [1, 2, 3, 4] rfl rfl (by decide) (by decide) hk1 hFc hP1 hD1
                                        generalize H1 = H at hP hS ⊢
                                        refine g5_rs [(b_op, (arI G 400 v_op)), (b_ar, (arI G 400 v_ar)), (b_pa, (arI G 400 v_pa)), (b_pi, (arI G 400 v_pi)), (b_o, (oc12 u_th u_sa b_rf b_ro b_im b_ke u_fd b_tp u_td u_fr u_to u_so u_wo u_fr 1 u_nc b_nl u_co b_op b_ar u_le b_pi b_pa u_pd u_od b_ws b_hw u_la b_se b_re u_bk u_va u_su u_ce u_ho u_wy u_bt u_ps b_pt u_tg u_sn b_ip u_ic b_ah b_be b_me u_wd b_tr b_ld u_st b_wn u_id)), (b_tp, (arI G 400 v_tp))] hP hD (fun hP hD => ?_)
                                        refine lv_aload_n hx hb dX12_behindSum_213 rfl (lv_at hl 2 rfl) ?_
                                        refine va_get (D := G.1) (ci := 12) (v := .int 1) (C := RX12) (T := TX12) (N := 52) hx hb hts inG_X12 hown hK hP 4 rfl rfl 14 (by decide) (hts _ fl_X12_205) (fun _ h9 => h9) rfl dX12_behindSum_214 ?_
                                        refine lv_if_ne (tgt := 231) hx hb dX12_behindSum_217 (by decide) (fun c_203 => ?_) (fun c_203 => ?_)
                                        ·
                                          refine lv_iconst (v := 1) hx hb dX12_behindSum_231 (by decide) ?_
                                          exact W.iret (v := 1) hx hb hr (fun t ht hW => ⟨⟨1, [(b_o, (oc12 u_th u_sa b_rf b_ro b_im b_ke u_fd b_tp u_td u_fr u_to u_so u_wo u_fr 1 u_nc b_nl u_co b_op b_ar u_le b_pi b_pa u_pd u_od b_ws b_hw u_la b_se b_re u_bk u_va u_su u_ce u_ho u_wy u_bt u_ps b_pt u_tg u_sn b_ip u_ic b_ah b_be b_me u_wd b_tr b_ld u_st b_wn u_id)), (b_tp, (arI G 400 v_tp)), (b_op, (arI G 400 v_op)), (b_ar, (arI G 400 v_ar)), (b_pi, (arI G 400 v_pi)), (b_pa, (arI G 400 v_pa))], rfl, Or.inl (⟨1, ⟨by have zc_o_r : (1 : Int32).toInt = 1 := (by decide); omega, by have zc_o_r : (1 : Int32).toInt = 1 := (by decide); omega⟩, rfl, rfl⟩), by rw [ht]; exact hP.sub [4, 5, 0, 1, 3, 2] rfl, hD.sub [4, 5, 0, 1, 3, 2] (by decide) rfl⟩, hS.F ht⟩) hS.2.2 dX12_behindSum_232
                                        ·
                                          exact absurd c_203 (by decide)
                                      ·
                                        exact absurd c_202 (by decide)
                                ·
                                  exact absurd c_174 (by decide)
                            ·
                              exact absurd c_146 (by decide)
                        ·
                          have n_118 : gNe (z116.toInt) (0) := by have z := g5_eqN (a := z116.toInt) (b := 0) (by rfl) (by decide) c_118; unfold gNe; omega
                          have i_118 : z116.toInt ≥ 1 := by have z := g5_eqN (a := z116.toInt) (b := 0) (by rfl) (by decide) c_118; omega
                          refine lv_iconst (v := 2) hx hb dX12_behindSum_156 (by decide) ?_
                          exact W.iret (v := 2) hx hb hr (fun t ht hW => ⟨⟨2, [(b_o, (oc12 u_th u_sa b_rf b_ro b_im b_ke u_fd b_tp u_td u_fr u_to u_so u_wo u_fa u_bd u_nc b_nl u_co b_op b_ar u_le b_pi b_pa u_pd u_od b_ws b_hw u_la b_se b_re u_bk u_va u_su u_ce u_ho u_wy u_bt u_ps b_pt u_tg u_sn b_ip u_ic b_ah b_be b_me u_wd b_tr b_ld u_st b_wn u_id)), (b_tp, (arI G 400 v_tp)), (b_op, (arI G 400 v_op)), (b_ar, (arI G 400 v_ar)), (b_pi, (arI G 400 v_pi)), (b_pa, (arI G 400 v_pa))], rfl, Or.inr (⟨2, u_fr, u_to, u_so, u_wo, u_co, u_pd, u_od, v_op, v_ar, v_pi, v_pa, h_u_fr, h_u_to, h_u_co, h_u_pd, ⟨by have zc_o_r : (2 : Int32).toInt = 2 := (by decide); omega, by have zc_o_r : (2 : Int32).toInt = 2 := (by decide); omega⟩, by omega, e_s, e_x, tj_2 (tj_d1 e_j (by decide)) (by decide) (inn_no31 i_110 (tj_d1 e_j (by decide)) n_113), by have w9 := (twt_2 (by decide) : twt (2 : Int32).toInt = 1); omega, rfl, rfl⟩), by rw [ht]; exact hP.sub [4, 0, 1, 2, 5, 3] rfl, hD.sub [4, 0, 1, 2, 5, 3] (by decide) rfl⟩, hS.F ht⟩) hS.2.2 dX12_behindSum_157
                      ·
                        have i_114 : z111.toInt = (-1) := by have z := g5_neN (a := z111.toInt) (b := (-1)) (by rfl) (by decide) c_114; omega
                        refine lv_iload_n hx hb dX12_behindSum_143 rfl (lv_at hl 3 rfl) ?_
                        refine lv_if_ne (tgt := 149) hx hb dX12_behindSum_144 (by decide) (fun c_204 => ?_) (fun c_204 => ?_)
                        ·
                          have n_204 : gNe (p_1.toInt) (0) := by have z := g5_ne (a := p_1.toInt) (b := 0) (by rfl) (by decide) c_204; unfold gNe; omega
                          have i_204 : p_1.toInt ≥ 1 := by have z := g5_ne (a := p_1.toInt) (b := 0) (by rfl) (by decide) c_204; omega
                          refine lv_aload_n hx hb dX12_behindSum_149 rfl (lv_at hl 2 rfl) ?_
                          obtain ⟨hPc, hDc, hFc⟩ := g5_sub3 (wc := [(b_o, (oc12 u_th u_sa b_rf b_ro b_im b_ke u_fd b_tp u_td u_fr u_to u_so u_wo u_fa u_bd u_nc b_nl u_co b_op b_ar u_le b_pi b_pa u_pd u_od b_ws b_hw u_la b_se b_re u_bk u_va u_su u_ce u_ho u_wy u_bt u_ps b_pt u_tg u_sn b_ip u_ic b_ah b_be b_me u_wd b_tr b_ld u_st b_wn u_id)), (b_pi, (arI G 400 v_pi))]) hP hD hS hA [4, 5] (by decide) rfl
                          refine va_calli (va_runV (As := []) (rest := []) ⟨hx, hb, hml, hown, hts⟩ (n_isCompared l G b_o b_pi b_rf b_ro b_im b_ke b_tp b_nl b_op b_ar b_pa b_ws b_hw b_se b_re b_pt b_ip b_ah b_be b_me b_tr b_ld b_wn H.size u_th u_sa u_fd u_td u_fr u_to u_so u_fa u_bd u_nc u_co u_le u_pd u_od u_la u_bk u_ce u_ho u_wy u_bt u_ps u_tg u_sn u_ic u_wd u_id u_wo u_va u_su u_st v_pi h_u_td h_u_fr h_u_to ⟨by omega, by omega⟩ h_u_nc h_u_co h_u_pd h_u_la h_u_bk h_u_ce h_u_ho h_u_wy h_u_bt h_u_ps h_u_ic h_u_id) (cwV 0 hts gV_X12_294 rfl rfl rfl hv_X12_isCompared ⟨Nat.le_of_ble_eq_true rfl, Nat.le_of_ble_eq_true rfl⟩) (g5_preV hPc hK hDc hN hT hS hFc (ci := 12) (q0 := 0) rfl rfl) rfl rfl hl.1 rfl (lv_room (Nat.le_of_ble_eq_true rfl)) dX12_behindSum_150 ⟨Nat.le_of_ble_eq_true rfl, Nat.le_of_ble_eq_true rfl⟩) hS (fun q _ h => hFc q h) hFc (fun r u t H1 locs ht hvm hw hB hz1 hk1 hS => ?_)
                          obtain ⟨hP1, hD1⟩ := hB
                          rw [ht] at hP1
                          obtain ⟨z206, i_205, y207, rfl⟩ := hw
                          have i_205 : 0 ≤ z206.toInt ∧ z206.toInt ≤ 1 := i_205
                          obtain ⟨hP, hD⟩ := va_join (wr := [(b_tp, (arI G 400 v_tp)), (b_op, (arI G 400 v_op)), (b_ar, (arI G 400 v_ar)), (b_pa, (arI G 400 v_pa))]) hP hD [4, 5] [0, 1, 2, 3] rfl rfl (by decide) (by decide) hk1 hFc hP1 hD1
                          generalize H1 = H at hP hS ⊢
                          refine g5_rs [(b_tp, (arI G 400 v_tp)), (b_op, (arI G 400 v_op)), (b_ar, (arI G 400 v_ar)), (b_pa, (arI G 400 v_pa)), (b_o, (oc12 u_th u_sa b_rf b_ro b_im b_ke u_fd b_tp u_td u_fr u_to u_so u_wo u_fa u_bd u_nc b_nl u_co b_op b_ar u_le b_pi b_pa u_pd u_od b_ws b_hw u_la b_se b_re u_bk u_va u_su u_ce u_ho u_wy u_bt u_ps b_pt u_tg u_sn b_ip u_ic b_ah b_be b_me u_wd b_tr b_ld u_st b_wn u_id)), (b_pi, (arI G 400 v_pi))] hP hD (fun hP hD => ?_)
                          refine g5_ti (v := z206) y207 ?_
                          refine lv_if_eq (tgt := 158) hx hb dX12_behindSum_153 (by decide) (fun c_208 => ?_) (fun c_208 => ?_)
                          ·
                            have i_208 : z206.toInt = 0 := by have z := g5_eq (a := z206.toInt) (b := 0) (by rfl) (by decide) c_208; omega
                            refine lv_aload_n hx hb dX12_behindSum_158 rfl (lv_at hl 2 rfl) ?_
                            refine lv_bipush (v := 60) hx hb dX12_behindSum_159 (by decide) ?_
                            obtain ⟨hPc, hDc, hFc⟩ := g5_sub3 (wc := [(b_o, (oc12 u_th u_sa b_rf b_ro b_im b_ke u_fd b_tp u_td u_fr u_to u_so u_wo u_fa u_bd u_nc b_nl u_co b_op b_ar u_le b_pi b_pa u_pd u_od b_ws b_hw u_la b_se b_re u_bk u_va u_su u_ce u_ho u_wy u_bt u_ps b_pt u_tg u_sn b_ip u_ic b_ah b_be b_me u_wd b_tr b_ld u_st b_wn u_id))]) hP hD hS hA [4] (by decide) rfl
                            refine va_calli (va_runV (As := [.int 60]) (rest := []) ⟨hx, hb, hml, hown, hts⟩ (n_isSign l G b_o b_rf b_ro b_im b_ke b_tp b_nl b_op b_ar b_pi b_pa b_ws b_hw b_se b_re b_pt b_ip b_ah b_be b_me b_tr b_ld b_wn H.size u_th u_sa u_fd u_td u_fr u_to u_so u_fa u_bd u_nc u_co u_le u_pd u_od u_la u_bk u_ce u_ho u_wy u_bt u_ps u_tg u_sn u_ic u_wd u_id 60 u_wo u_va u_su u_st h_u_td h_u_fr h_u_to ⟨by omega, by omega⟩ h_u_nc h_u_co h_u_pd h_u_la h_u_bk h_u_ce h_u_ho h_u_wy h_u_bt h_u_ps h_u_ic h_u_id) (cwV 1 hts gV_X12_267 rfl rfl rfl hv_X12_isSign ⟨Nat.le_of_ble_eq_true rfl, Nat.le_of_ble_eq_true rfl⟩) (g5_preV hPc hK hDc hN hT hS hFc (ci := 12) (q0 := 0) rfl rfl) rfl rfl hl.1 rfl (lv_room (Nat.le_of_ble_eq_true rfl)) dX12_behindSum_161 ⟨Nat.le_of_ble_eq_true rfl, Nat.le_of_ble_eq_true rfl⟩) hS (fun q _ h => hFc q h) hFc (fun r u t H1 locs ht hvm hw hB hz1 hk1 hS => ?_)
                            obtain ⟨hP1, hD1⟩ := hB
                            rw [ht] at hP1
                            rcases hw with ⟨i_209, rfl, rfl⟩ | ⟨rfl, rfl⟩
                            ·
                              have i_209 : u_so.toInt = 3 := i_209
                              obtain ⟨hP, hD⟩ := va_join (wr := [(b_tp, (arI G 400 v_tp)), (b_op, (arI G 400 v_op)), (b_ar, (arI G 400 v_ar)), (b_pa, (arI G 400 v_pa)), (b_pi, (arI G 400 v_pi))]) hP hD [4] [0, 1, 2, 3, 5] rfl rfl (by decide) (by decide) hk1 hFc hP1 hD1
                              generalize H1 = H at hP hS ⊢
                              refine g5_rs [(b_tp, (arI G 400 v_tp)), (b_op, (arI G 400 v_op)), (b_ar, (arI G 400 v_ar)), (b_pa, (arI G 400 v_pa)), (b_pi, (arI G 400 v_pi)), (b_o, (oc12 u_th u_sa b_rf b_ro b_im b_ke u_fd b_tp u_td u_fr u_to u_so u_wo u_fa u_bd u_nc b_nl u_co b_op b_ar u_le b_pi b_pa u_pd u_od b_ws b_hw u_la b_se b_re u_bk u_va u_su u_ce u_ho u_wy u_bt u_ps b_pt u_tg u_sn b_ip u_ic b_ah b_be b_me u_wd b_tr b_ld u_st b_wn u_id))] hP hD (fun hP hD => ?_)
                              refine lv_if_eq (tgt := 172) hx hb dX12_behindSum_164 (by decide) (fun c_210 => ?_) (fun c_210 => ?_)
                              ·
                                exact absurd c_210 (by decide)
                              ·
                                refine lv_bipush (v := 24) hx hb dX12_behindSum_167 (by decide) ?_
                                refine lv_goto (tgt := 188) hx hb dX12_behindSum_169 (by decide) ?_
                                refine lv_istore_n (lv' := [(2, .int 24), (3, .int z111), (0, .ref b_o), (1, .int p_1)]) hx hb dX12_behindSum_188 rfl hl (by decide) rfl (fun ls hl => ?_)
                                refine lv_aload_n hx hb dX12_behindSum_189 rfl (lv_at hl 2 rfl) ?_
                                refine lv_iload_n hx hb dX12_behindSum_190 rfl (lv_at hl 0 rfl) ?_
                                refine lv_bipush (v := 26) hx hb dX12_behindSum_191 (by decide) ?_
                                refine lv_icmp_ne (tgt := 205) hx hb dX12_behindSum_193 (by decide) (fun c_211 => ?_) (fun c_211 => ?_)
                                ·
                                  refine lv_iconst (v := 1) hx hb dX12_behindSum_205 (by decide) ?_
                                  refine lv_goto (tgt := 210) hx hb dX12_behindSum_206 (by decide) ?_
                                  have hlt9 : u_fr.toInt < u_to.toInt := tks_lt e_s (by omega)
                                  obtain ⟨hPc, hDc, hFc⟩ := g5_sub3 (wc := [(b_o, (oc12 u_th u_sa b_rf b_ro b_im b_ke u_fd b_tp u_td u_fr u_to u_so u_wo u_fa u_bd u_nc b_nl u_co b_op b_ar u_le b_pi b_pa u_pd u_od b_ws b_hw u_la b_se b_re u_bk u_va u_su u_ce u_ho u_wy u_bt u_ps b_pt u_tg u_sn b_ip u_ic b_ah b_be b_me u_wd b_tr b_ld u_st b_wn u_id)), (b_tp, (arI G 400 v_tp))]) hP hD hS hA [5, 0] (by decide) rfl
                                  refine va_callv (va_runV (As := [.int 1]) (rest := []) ⟨hx, hb, hml, hown, hts⟩ (n_must1 l G b_o b_tp b_rf b_ro b_im b_ke b_nl b_op b_ar b_pi b_pa b_ws b_hw b_se b_re b_pt b_ip b_ah b_be b_me b_tr b_ld b_wn H.size u_th u_sa u_fd u_td u_fr u_to u_so u_fa u_bd u_nc u_co u_le u_pd u_od u_la u_bk u_ce u_ho u_wy u_bt u_ps u_tg u_sn u_ic u_wd u_id u_wo u_va u_su u_st v_tp h_u_td h_u_fr h_u_to h_u_bd h_u_nc h_u_co h_u_pd h_u_la h_u_bk h_u_ce h_u_ho h_u_wy h_u_bt h_u_ps h_u_ic h_u_id (by omega)) (cwV 1 hts gV_X12_233 rfl rfl rfl hv_X12_must ⟨Nat.le_of_ble_eq_true rfl, Nat.le_of_ble_eq_true rfl⟩) (g5_preV hPc hK hDc hN hT hS hFc (ci := 12) (q0 := 0) rfl rfl) rfl rfl hl.1 rfl (lv_room (Nat.le_of_ble_eq_true rfl)) dX12_behindSum_210 ⟨Nat.le_of_ble_eq_true rfl, Nat.le_of_ble_eq_true rfl⟩) hS (fun q _ h => hFc q h) hFc (fun u t H1 locs ht hvm hw hB hz1 hk1 hS => ?_)
                                  obtain ⟨hP1, hD1⟩ := hB
                                  rw [ht] at hP1
                                  obtain ⟨z216, z217, z218, z219, i_212, i_213, i_214, i_215, rfl⟩ := hw
                                  have i_212 : 0 ≤ z216.toInt ∧ z216.toInt ≤ 400 := i_212
                                  have i_213 : 0 ≤ z217.toInt ∧ z217.toInt ≤ 400 := i_213
                                  have i_214 : u_to.toInt ≤ z216.toInt ∧ z216.toInt ≤ z217.toInt ∧ z217.toInt ≤ u_td.toInt := i_214
                                  have i_215 : TKs z218.toInt z216.toInt z217.toInt := i_215
                                  obtain ⟨hP, hD⟩ := va_join (wr := [(b_op, (arI G 400 v_op)), (b_ar, (arI G 400 v_ar)), (b_pa, (arI G 400 v_pa)), (b_pi, (arI G 400 v_pi))]) hP hD [5, 0] [1, 2, 3, 4] rfl rfl (by decide) (by decide) hk1 hFc hP1 hD1
                                  generalize H1 = H at hP hS ⊢
                                  refine g5_rs [(b_op, (arI G 400 v_op)), (b_ar, (arI G 400 v_ar)), (b_pa, (arI G 400 v_pa)), (b_pi, (arI G 400 v_pi)), (b_o, (oc12 u_th u_sa b_rf b_ro b_im b_ke u_fd b_tp u_td z216 z217 z218 z219 u_fa u_bd u_nc b_nl u_co b_op b_ar u_le b_pi b_pa u_pd u_od b_ws b_hw u_la b_se b_re u_bk u_va u_su u_ce u_ho u_wy u_bt u_ps b_pt u_tg u_sn b_ip u_ic b_ah b_be b_me u_wd b_tr b_ld u_st b_wn u_id)), (b_tp, (arI G 400 v_tp))] hP hD (fun hP hD => ?_)
                                  refine lv_aload_n hx hb dX12_behindSum_213 rfl (lv_at hl 2 rfl) ?_
                                  refine va_get (D := G.1) (ci := 12) (v := .int u_bd) (C := RX12) (T := TX12) (N := 52) hx hb hts inG_X12 hown hK hP 4 rfl rfl 14 (by decide) (hts _ fl_X12_205) (fun _ h9 => h9) rfl dX12_behindSum_214 ?_
                                  refine lv_if_ne (tgt := 231) hx hb dX12_behindSum_217 (by decide) (fun c_220 => ?_) (fun c_220 => ?_)
                                  ·
                                    have i_220 : u_bd.toInt ≠ 0 := by have z := g5_ne (a := u_bd.toInt) (b := 0) (by rfl) (by decide) c_220; omega
                                    omega
                                  ·
                                    have i_220 : u_bd.toInt = 0 := by have z := g5_neN (a := u_bd.toInt) (b := 0) (by rfl) (by decide) c_220; omega
                                    have hE_221 : HJ v_op v_ar v_pi v_pa g_a.toInt u_co.toInt u_pd.toInt 1 := tj_d1 e_j (by decide)
                                    refine lv_aload_n hx hb dX12_behindSum_220 rfl (lv_at hl 2 rfl) ?_
                                    refine lv_iconst (v := 5) hx hb dX12_behindSum_221 (by decide) ?_
                                    obtain ⟨hPc, hDc, hFc⟩ := g5_sub3 (wc := [(b_o, (oc12 u_th u_sa b_rf b_ro b_im b_ke u_fd b_tp u_td z216 z217 z218 z219 u_fa u_bd u_nc b_nl u_co b_op b_ar u_le b_pi b_pa u_pd u_od b_ws b_hw u_la b_se b_re u_bk u_va u_su u_ce u_ho u_wy u_bt u_ps b_pt u_tg u_sn b_ip u_ic b_ah b_be b_me u_wd b_tr b_ld u_st b_wn u_id)), (b_op, (arI G 400 v_op)), (b_ar, (arI G 400 v_ar)), (b_pi, (arI G 400 v_pi)), (b_pa, (arI G 400 v_pa))]) hP hD hS hA [4, 0, 1, 3, 2] (by decide) rfl
                                    refine va_callv (va_runV (As := [.int 5]) (rest := []) ⟨hx, hb, hml, hown, hts⟩ (n_settleH l G b_o b_op b_ar b_pi b_pa b_rf b_ro b_im b_ke b_tp b_nl b_ws b_hw b_se b_re b_pt b_ip b_ah b_be b_me b_tr b_ld b_wn H.size u_th u_sa u_fd u_td z216 z217 z218 u_fa u_bd u_nc u_co u_le u_pd u_od u_la u_bk u_ce u_ho u_wy u_bt u_ps u_tg u_sn u_ic u_wd u_id 5 g_a u_fr z219 u_va u_su u_st v_op v_ar v_pi v_pa g_op g_ar h_u_td i_212 i_213 ⟨by omega, by omega⟩ h_u_nc h_u_co h_u_pd h_u_la h_u_bk h_u_ce h_u_ho h_u_wy h_u_bt h_u_ps h_u_ic h_u_id ⟨by decide, by decide⟩ (by omega) (e_x) (hE_221)) (cwV 1 hts gV_X12_288 rfl rfl rfl hv_X12_settle ⟨Nat.le_of_ble_eq_true rfl, Nat.le_of_ble_eq_true rfl⟩) (g5_preV hPc hK hDc hN hT hS hFc (ci := 12) (q0 := 0) rfl rfl) rfl rfl hl.1 rfl (lv_room (Nat.le_of_ble_eq_true rfl)) dX12_behindSum_222 ⟨Nat.le_of_ble_eq_true rfl, Nat.le_of_ble_eq_true rfl⟩) hS (fun q _ h => hFc q h) hFc (fun u t H1 locs ht hvm hw hB hz1 hk1 hS => ?_)
                                    obtain ⟨hP1, hD1⟩ := hB
                                    rw [ht] at hP1
                                    obtain ⟨z229, z230, z231, z232, i_222, i_223, i_224, i_225, i_226, i_227, i_228, rfl⟩ := hw
                                    have i_222 : 0 ≤ z229.toInt ∧ z229.toInt ≤ 400 := i_222
                                    have i_223 : 0 ≤ z230.toInt ∧ z230.toInt ≤ 400 := i_223
                                    have i_224 : XJ g_op g_ar z231 z232 v_pi v_pa g_a.toInt z229.toInt z230.toInt u_fr.toInt := i_224
                                    have i_225 : HJ z231 z232 v_pi v_pa g_a.toInt z229.toInt z230.toInt 1 := i_225
                                    have i_226 : S1 v_pi u_pd.toInt z230.toInt := i_226
                                    have i_227 : S2 v_pi z230.toInt (5 : Int32).toInt := i_227
                                    have i_228 : z230.toInt ≤ u_pd.toInt := i_228
                                    obtain ⟨hP, hD⟩ := va_join (wr := [(b_tp, (arI G 400 v_tp))]) hP hD [4, 0, 1, 3, 2] [5] rfl rfl (by decide) (by decide) hk1 hFc hP1 hD1
                                    generalize H1 = H at hP hS ⊢
                                    refine g5_rs [(b_tp, (arI G 400 v_tp)), (b_o, (oc12 u_th u_sa b_rf b_ro b_im b_ke u_fd b_tp u_td z216 z217 z218 z219 u_fa u_bd u_nc b_nl z229 b_op b_ar u_le b_pi b_pa z230 u_od b_ws b_hw u_la b_se b_re u_bk u_va u_su u_ce u_ho u_wy u_bt u_ps b_pt u_tg u_sn b_ip u_ic b_ah b_be b_me u_wd b_tr b_ld u_st b_wn u_id)), (b_op, (arI G 400 z231)), (b_ar, (arI G 400 z232)), (b_pi, (arI G 400 v_pi)), (b_pa, (arI G 400 v_pa))] hP hD (fun hP hD => ?_)
                                    have hmf8 := xj_mf i_224
                                    refine lv_aload_n hx hb dX12_behindSum_225 rfl (lv_at hl 2 rfl) ?_
                                    refine lv_iload_n hx hb dX12_behindSum_226 rfl (lv_at hl 0 rfl) ?_
                                    refine lv_iconst (v := 0) hx hb dX12_behindSum_227 (by decide) ?_
                                    obtain ⟨hPc, hDc, hFc⟩ := g5_sub3 (wc := [(b_o, (oc12 u_th u_sa b_rf b_ro b_im b_ke u_fd b_tp u_td z216 z217 z218 z219 u_fa u_bd u_nc b_nl z229 b_op b_ar u_le b_pi b_pa z230 u_od b_ws b_hw u_la b_se b_re u_bk u_va u_su u_ce u_ho u_wy u_bt u_ps b_pt u_tg u_sn b_ip u_ic b_ah b_be b_me u_wd b_tr b_ld u_st b_wn u_id)), (b_pi, (arI G 400 v_pi)), (b_pa, (arI G 400 v_pa))]) hP hD hS hA [1, 4, 5] (by decide) rfl
                                    refine va_callv (va_runV (As := [.int 24, .int 0]) (rest := []) ⟨hx, hb, hml, hown, hts⟩ (n_push l G b_o b_pi b_pa b_rf b_ro b_im b_ke b_tp b_nl b_op b_ar b_ws b_hw b_se b_re b_pt b_ip b_ah b_be b_me b_tr b_ld b_wn H.size u_th u_sa u_fd u_td z216 z217 z218 u_fa u_bd u_nc z229 u_le z230 u_od u_la u_bk u_ce u_ho u_wy u_bt u_ps u_tg u_sn u_ic u_wd u_id 24 0 z219 u_va u_su u_st v_pi v_pa h_u_td i_212 i_213 ⟨by omega, by omega⟩ h_u_nc i_222 i_223 h_u_la h_u_bk h_u_ce h_u_ho h_u_wy h_u_bt h_u_ps h_u_ic h_u_id (by omega)) (cwV 2 hts gV_X12_261 rfl rfl rfl hv_X12_push ⟨Nat.le_of_ble_eq_true rfl, Nat.le_of_ble_eq_true rfl⟩) (g5_preV hPc hK hDc hN hT hS hFc (ci := 12) (q0 := 0) rfl rfl) rfl rfl hl.1 rfl (lv_room (Nat.le_of_ble_eq_true rfl)) dX12_behindSum_228 ⟨Nat.le_of_ble_eq_true rfl, Nat.le_of_ble_eq_true rfl⟩) hS (fun q _ h => hFc q h) hFc (fun u t H1 locs ht hvm hw hB hz1 hk1 hS => ?_)
                                    obtain ⟨hP1, hD1⟩ := hB
                                    rw [ht] at hP1
                                    obtain ⟨z235, i_233, i_234, rfl⟩ := hw
                                    have i_233 : 0 ≤ z235.toInt ∧ z235.toInt ≤ 400 := i_233
                                    have i_234 : z235.toInt = z230.toInt + 1 := i_234
                                    obtain ⟨hP, hD⟩ := va_join (wr := [(b_tp, (arI G 400 v_tp)), (b_op, (arI G 400 z231)), (b_ar, (arI G 400 z232))]) hP hD [1, 4, 5] [0, 2, 3] rfl rfl (by decide) (by decide) hk1 hFc hP1 hD1
                                    generalize H1 = H at hP hS ⊢
                                    refine g5_rs [(b_tp, (arI G 400 v_tp)), (b_op, (arI G 400 z231)), (b_ar, (arI G 400 z232)), (b_o, (oc12 u_th u_sa b_rf b_ro b_im b_ke u_fd b_tp u_td z216 z217 z218 z219 u_fa u_bd u_nc b_nl z229 b_op b_ar u_le b_pi b_pa z235 u_od b_ws b_hw u_la b_se b_re u_bk u_va u_su u_ce u_ho u_wy u_bt u_ps b_pt u_tg u_sn b_ip u_ic b_ah b_be b_me u_wd b_tr b_ld u_st b_wn u_id)), (b_pi, (arI G 400 (upd v_pi z230.toNatClampNeg 24))), (b_pa, (arI G 400 (upd v_pa z230.toNatClampNeg 0)))] hP hD (fun hP hD => ?_)
                                    refine lv_iconst (v := 1) hx hb dX12_behindSum_231 (by decide) ?_
                                    exact W.iret (v := 1) hx hb hr (fun t ht hW => ⟨⟨1, [(b_o, (oc12 u_th u_sa b_rf b_ro b_im b_ke u_fd b_tp u_td z216 z217 z218 z219 u_fa u_bd u_nc b_nl z229 b_op b_ar u_le b_pi b_pa z235 u_od b_ws b_hw u_la b_se b_re u_bk u_va u_su u_ce u_ho u_wy u_bt u_ps b_pt u_tg u_sn b_ip u_ic b_ah b_be b_me u_wd b_tr b_ld u_st b_wn u_id)), (b_tp, (arI G 400 v_tp)), (b_op, (arI G 400 z231)), (b_ar, (arI G 400 z232)), (b_pi, (arI G 400 (upd v_pi z230.toNatClampNeg 24))), (b_pa, (arI G 400 (upd v_pa z230.toNatClampNeg 0)))], rfl, Or.inr (⟨1, z216, z217, z218, z219, z229, z235, u_od, z231, z232, (upd v_pi z230.toNatClampNeg 24), (upd v_pa z230.toNatClampNeg 0), i_212, i_213, i_222, i_233, ⟨by have zc_o_r : (1 : Int32).toInt = 1 := (by decide); omega, by have zc_o_r : (1 : Int32).toInt = 1 := (by decide); omega⟩, by omega, i_215, xj_push i_224 (by omega) (by omega) ⟨by decide, by decide⟩ (Or.inl (by decide)), tj_1 (hj_push2 i_225 (by omega) (by omega) ⟨by decide, by decide⟩ (Or.inr (no31_le (inn_no31 i_110 (tj_d1 e_j (by decide)) n_113) (by omega)))) (by decide), by have w9 := (twt_0 (by decide) : twt (1 : Int32).toInt = 0); omega, rfl, rfl⟩), by rw [ht]; exact hP.sub [3, 0, 1, 2, 4, 5] rfl, hD.sub [3, 0, 1, 2, 4, 5] (by decide) rfl⟩, hS.F ht⟩) hS.2.2 dX12_behindSum_232
                                ·
                                  exact absurd c_211 (by decide)
                            ·
                              obtain ⟨hP, hD⟩ := va_join (wr := [(b_tp, (arI G 400 v_tp)), (b_op, (arI G 400 v_op)), (b_ar, (arI G 400 v_ar)), (b_pa, (arI G 400 v_pa)), (b_pi, (arI G 400 v_pi))]) hP hD [4] [0, 1, 2, 3, 5] rfl rfl (by decide) (by decide) hk1 hFc hP1 hD1
                              generalize H1 = H at hP hS ⊢
                              refine g5_rs [(b_tp, (arI G 400 v_tp)), (b_op, (arI G 400 v_op)), (b_ar, (arI G 400 v_ar)), (b_pa, (arI G 400 v_pa)), (b_pi, (arI G 400 v_pi)), (b_o, (oc12 u_th u_sa b_rf b_ro b_im b_ke u_fd b_tp u_td u_fr u_to u_so u_wo u_fa u_bd u_nc b_nl u_co b_op b_ar u_le b_pi b_pa u_pd u_od b_ws b_hw u_la b_se b_re u_bk u_va u_su u_ce u_ho u_wy u_bt u_ps b_pt u_tg u_sn b_ip u_ic b_ah b_be b_me u_wd b_tr b_ld u_st b_wn u_id))] hP hD (fun hP hD => ?_)
                              refine lv_if_eq (tgt := 172) hx hb dX12_behindSum_164 (by decide) (fun c_236 => ?_) (fun c_236 => ?_)
                              ·
                                refine lv_aload_n hx hb dX12_behindSum_172 rfl (lv_at hl 2 rfl) ?_
                                refine lv_bipush (v := 62) hx hb dX12_behindSum_173 (by decide) ?_
                                obtain ⟨hPc, hDc, hFc⟩ := g5_sub3 (wc := [(b_o, (oc12 u_th u_sa b_rf b_ro b_im b_ke u_fd b_tp u_td u_fr u_to u_so u_wo u_fa u_bd u_nc b_nl u_co b_op b_ar u_le b_pi b_pa u_pd u_od b_ws b_hw u_la b_se b_re u_bk u_va u_su u_ce u_ho u_wy u_bt u_ps b_pt u_tg u_sn b_ip u_ic b_ah b_be b_me u_wd b_tr b_ld u_st b_wn u_id))]) hP hD hS hA [5] (by decide) rfl
                                refine va_calli (va_runV (As := [.int 62]) (rest := []) ⟨hx, hb, hml, hown, hts⟩ (n_isSign l G b_o b_rf b_ro b_im b_ke b_tp b_nl b_op b_ar b_pi b_pa b_ws b_hw b_se b_re b_pt b_ip b_ah b_be b_me b_tr b_ld b_wn H.size u_th u_sa u_fd u_td u_fr u_to u_so u_fa u_bd u_nc u_co u_le u_pd u_od u_la u_bk u_ce u_ho u_wy u_bt u_ps u_tg u_sn u_ic u_wd u_id 62 u_wo u_va u_su u_st h_u_td h_u_fr h_u_to ⟨by omega, by omega⟩ h_u_nc h_u_co h_u_pd h_u_la h_u_bk h_u_ce h_u_ho h_u_wy h_u_bt h_u_ps h_u_ic h_u_id) (cwV 1 hts gV_X12_267 rfl rfl rfl hv_X12_isSign ⟨Nat.le_of_ble_eq_true rfl, Nat.le_of_ble_eq_true rfl⟩) (g5_preV hPc hK hDc hN hT hS hFc (ci := 12) (q0 := 0) rfl rfl) rfl rfl hl.1 rfl (lv_room (Nat.le_of_ble_eq_true rfl)) dX12_behindSum_175 ⟨Nat.le_of_ble_eq_true rfl, Nat.le_of_ble_eq_true rfl⟩) hS (fun q _ h => hFc q h) hFc (fun r u t H1 locs ht hvm hw hB hz1 hk1 hS => ?_)
                                obtain ⟨hP1, hD1⟩ := hB
                                rw [ht] at hP1
                                rcases hw with ⟨i_237, rfl, rfl⟩ | ⟨rfl, rfl⟩
                                ·
                                  have i_237 : u_so.toInt = 3 := i_237
                                  obtain ⟨hP, hD⟩ := va_join (wr := [(b_tp, (arI G 400 v_tp)), (b_op, (arI G 400 v_op)), (b_ar, (arI G 400 v_ar)), (b_pa, (arI G 400 v_pa)), (b_pi, (arI G 400 v_pi))]) hP hD [5] [0, 1, 2, 3, 4] rfl rfl (by decide) (by decide) hk1 hFc hP1 hD1
                                  generalize H1 = H at hP hS ⊢
                                  refine g5_rs [(b_tp, (arI G 400 v_tp)), (b_op, (arI G 400 v_op)), (b_ar, (arI G 400 v_ar)), (b_pa, (arI G 400 v_pa)), (b_pi, (arI G 400 v_pi)), (b_o, (oc12 u_th u_sa b_rf b_ro b_im b_ke u_fd b_tp u_td u_fr u_to u_so u_wo u_fa u_bd u_nc b_nl u_co b_op b_ar u_le b_pi b_pa u_pd u_od b_ws b_hw u_la b_se b_re u_bk u_va u_su u_ce u_ho u_wy u_bt u_ps b_pt u_tg u_sn b_ip u_ic b_ah b_be b_me u_wd b_tr b_ld u_st b_wn u_id))] hP hD (fun hP hD => ?_)
                                  refine lv_if_eq (tgt := 186) hx hb dX12_behindSum_178 (by decide) (fun c_238 => ?_) (fun c_238 => ?_)
                                  ·
                                    exact absurd c_238 (by decide)
                                  ·
                                    refine lv_bipush (v := 25) hx hb dX12_behindSum_181 (by decide) ?_
                                    refine lv_goto (tgt := 188) hx hb dX12_behindSum_183 (by decide) ?_
                                    refine lv_istore_n (lv' := [(2, .int 25), (3, .int z111), (0, .ref b_o), (1, .int p_1)]) hx hb dX12_behindSum_188 rfl hl (by decide) rfl (fun ls hl => ?_)
                                    refine lv_aload_n hx hb dX12_behindSum_189 rfl (lv_at hl 2 rfl) ?_
                                    refine lv_iload_n hx hb dX12_behindSum_190 rfl (lv_at hl 0 rfl) ?_
                                    refine lv_bipush (v := 26) hx hb dX12_behindSum_191 (by decide) ?_
                                    refine lv_icmp_ne (tgt := 205) hx hb dX12_behindSum_193 (by decide) (fun c_239 => ?_) (fun c_239 => ?_)
                                    ·
                                      refine lv_iconst (v := 1) hx hb dX12_behindSum_205 (by decide) ?_
                                      refine lv_goto (tgt := 210) hx hb dX12_behindSum_206 (by decide) ?_
                                      have hlt9 : u_fr.toInt < u_to.toInt := tks_lt e_s (by omega)
                                      obtain ⟨hPc, hDc, hFc⟩ := g5_sub3 (wc := [(b_o, (oc12 u_th u_sa b_rf b_ro b_im b_ke u_fd b_tp u_td u_fr u_to u_so u_wo u_fa u_bd u_nc b_nl u_co b_op b_ar u_le b_pi b_pa u_pd u_od b_ws b_hw u_la b_se b_re u_bk u_va u_su u_ce u_ho u_wy u_bt u_ps b_pt u_tg u_sn b_ip u_ic b_ah b_be b_me u_wd b_tr b_ld u_st b_wn u_id)), (b_tp, (arI G 400 v_tp))]) hP hD hS hA [5, 0] (by decide) rfl
                                      refine va_callv (va_runV (As := [.int 1]) (rest := []) ⟨hx, hb, hml, hown, hts⟩ (n_must1 l G b_o b_tp b_rf b_ro b_im b_ke b_nl b_op b_ar b_pi b_pa b_ws b_hw b_se b_re b_pt b_ip b_ah b_be b_me b_tr b_ld b_wn H.size u_th u_sa u_fd u_td u_fr u_to u_so u_fa u_bd u_nc u_co u_le u_pd u_od u_la u_bk u_ce u_ho u_wy u_bt u_ps u_tg u_sn u_ic u_wd u_id u_wo u_va u_su u_st v_tp h_u_td h_u_fr h_u_to h_u_bd h_u_nc h_u_co h_u_pd h_u_la h_u_bk h_u_ce h_u_ho h_u_wy h_u_bt h_u_ps h_u_ic h_u_id (by omega)) (cwV 1 hts gV_X12_233 rfl rfl rfl hv_X12_must ⟨Nat.le_of_ble_eq_true rfl, Nat.le_of_ble_eq_true rfl⟩) (g5_preV hPc hK hDc hN hT hS hFc (ci := 12) (q0 := 0) rfl rfl) rfl rfl hl.1 rfl (lv_room (Nat.le_of_ble_eq_true rfl)) dX12_behindSum_210 ⟨Nat.le_of_ble_eq_true rfl, Nat.le_of_ble_eq_true rfl⟩) hS (fun q _ h => hFc q h) hFc (fun u t H1 locs ht hvm hw hB hz1 hk1 hS => ?_)
                                      obtain ⟨hP1, hD1⟩ := hB
                                      rw [ht] at hP1
                                      obtain ⟨z244, z245, z246, z247, i_240, i_241, i_242, i_243, rfl⟩ := hw
                                      have i_240 : 0 ≤ z244.toInt ∧ z244.toInt ≤ 400 := i_240
                                      have i_241 : 0 ≤ z245.toInt ∧ z245.toInt ≤ 400 := i_241
                                      have i_242 : u_to.toInt ≤ z244.toInt ∧ z244.toInt ≤ z245.toInt ∧ z245.toInt ≤ u_td.toInt := i_242
                                      have i_243 : TKs z246.toInt z244.toInt z245.toInt := i_243
                                      obtain ⟨hP, hD⟩ := va_join (wr := [(b_op, (arI G 400 v_op)), (b_ar, (arI G 400 v_ar)), (b_pa, (arI G 400 v_pa)), (b_pi, (arI G 400 v_pi))]) hP hD [5, 0] [1, 2, 3, 4] rfl rfl (by decide) (by decide) hk1 hFc hP1 hD1
                                      generalize H1 = H at hP hS ⊢
                                      refine g5_rs [(b_op, (arI G 400 v_op)), (b_ar, (arI G 400 v_ar)), (b_pa, (arI G 400 v_pa)), (b_pi, (arI G 400 v_pi)), (b_o, (oc12 u_th u_sa b_rf b_ro b_im b_ke u_fd b_tp u_td z244 z245 z246 z247 u_fa u_bd u_nc b_nl u_co b_op b_ar u_le b_pi b_pa u_pd u_od b_ws b_hw u_la b_se b_re u_bk u_va u_su u_ce u_ho u_wy u_bt u_ps b_pt u_tg u_sn b_ip u_ic b_ah b_be b_me u_wd b_tr b_ld u_st b_wn u_id)), (b_tp, (arI G 400 v_tp))] hP hD (fun hP hD => ?_)
                                      refine lv_aload_n hx hb dX12_behindSum_213 rfl (lv_at hl 2 rfl) ?_
                                      refine va_get (D := G.1) (ci := 12) (v := .int u_bd) (C := RX12) (T := TX12) (N := 52) hx hb hts inG_X12 hown hK hP 4 rfl rfl 14 (by decide) (hts _ fl_X12_205) (fun _ h9 => h9) rfl dX12_behindSum_214 ?_
                                      refine lv_if_ne (tgt := 231) hx hb dX12_behindSum_217 (by decide) (fun c_248 => ?_) (fun c_248 => ?_)
                                      ·
                                        have i_248 : u_bd.toInt ≠ 0 := by have z := g5_ne (a := u_bd.toInt) (b := 0) (by rfl) (by decide) c_248; omega
                                        omega
                                      ·
                                        have i_248 : u_bd.toInt = 0 := by have z := g5_neN (a := u_bd.toInt) (b := 0) (by rfl) (by decide) c_248; omega
                                        have hE_249 : HJ v_op v_ar v_pi v_pa g_a.toInt u_co.toInt u_pd.toInt 1 := tj_d1 e_j (by decide)
                                        refine lv_aload_n hx hb dX12_behindSum_220 rfl (lv_at hl 2 rfl) ?_
                                        refine lv_iconst (v := 5) hx hb dX12_behindSum_221 (by decide) ?_
                                        obtain ⟨hPc, hDc, hFc⟩ := g5_sub3 (wc := [(b_o, (oc12 u_th u_sa b_rf b_ro b_im b_ke u_fd b_tp u_td z244 z245 z246 z247 u_fa u_bd u_nc b_nl u_co b_op b_ar u_le b_pi b_pa u_pd u_od b_ws b_hw u_la b_se b_re u_bk u_va u_su u_ce u_ho u_wy u_bt u_ps b_pt u_tg u_sn b_ip u_ic b_ah b_be b_me u_wd b_tr b_ld u_st b_wn u_id)), (b_op, (arI G 400 v_op)), (b_ar, (arI G 400 v_ar)), (b_pi, (arI G 400 v_pi)), (b_pa, (arI G 400 v_pa))]) hP hD hS hA [4, 0, 1, 3, 2] (by decide) rfl
                                        refine va_callv (va_runV (As := [.int 5]) (rest := []) ⟨hx, hb, hml, hown, hts⟩ (n_settleH l G b_o b_op b_ar b_pi b_pa b_rf b_ro b_im b_ke b_tp b_nl b_ws b_hw b_se b_re b_pt b_ip b_ah b_be b_me b_tr b_ld b_wn H.size u_th u_sa u_fd u_td z244 z245 z246 u_fa u_bd u_nc u_co u_le u_pd u_od u_la u_bk u_ce u_ho u_wy u_bt u_ps u_tg u_sn u_ic u_wd u_id 5 g_a u_fr z247 u_va u_su u_st v_op v_ar v_pi v_pa g_op g_ar h_u_td i_240 i_241 ⟨by omega, by omega⟩ h_u_nc h_u_co h_u_pd h_u_la h_u_bk h_u_ce h_u_ho h_u_wy h_u_bt h_u_ps h_u_ic h_u_id ⟨by decide, by decide⟩ (by omega) (e_x) (hE_249)) (cwV 1 hts gV_X12_288 rfl rfl rfl hv_X12_settle ⟨Nat.le_of_ble_eq_true rfl, Nat.le_of_ble_eq_true rfl⟩) (g5_preV hPc hK hDc hN hT hS hFc (ci := 12) (q0 := 0) rfl rfl) rfl rfl hl.1 rfl (lv_room (Nat.le_of_ble_eq_true rfl)) dX12_behindSum_222 ⟨Nat.le_of_ble_eq_true rfl, Nat.le_of_ble_eq_true rfl⟩) hS (fun q _ h => hFc q h) hFc (fun u t H1 locs ht hvm hw hB hz1 hk1 hS => ?_)
                                        obtain ⟨hP1, hD1⟩ := hB
                                        rw [ht] at hP1
                                        obtain ⟨z257, z258, z259, z260, i_250, i_251, i_252, i_253, i_254, i_255, i_256, rfl⟩ := hw
                                        have i_250 : 0 ≤ z257.toInt ∧ z257.toInt ≤ 400 := i_250
                                        have i_251 : 0 ≤ z258.toInt ∧ z258.toInt ≤ 400 := i_251
                                        have i_252 : XJ g_op g_ar z259 z260 v_pi v_pa g_a.toInt z257.toInt z258.toInt u_fr.toInt := i_252
                                        have i_253 : HJ z259 z260 v_pi v_pa g_a.toInt z257.toInt z258.toInt 1 := i_253
                                        have i_254 : S1 v_pi u_pd.toInt z258.toInt := i_254
                                        have i_255 : S2 v_pi z258.toInt (5 : Int32).toInt := i_255
                                        have i_256 : z258.toInt ≤ u_pd.toInt := i_256
                                        obtain ⟨hP, hD⟩ := va_join (wr := [(b_tp, (arI G 400 v_tp))]) hP hD [4, 0, 1, 3, 2] [5] rfl rfl (by decide) (by decide) hk1 hFc hP1 hD1
                                        generalize H1 = H at hP hS ⊢
                                        refine g5_rs [(b_tp, (arI G 400 v_tp)), (b_o, (oc12 u_th u_sa b_rf b_ro b_im b_ke u_fd b_tp u_td z244 z245 z246 z247 u_fa u_bd u_nc b_nl z257 b_op b_ar u_le b_pi b_pa z258 u_od b_ws b_hw u_la b_se b_re u_bk u_va u_su u_ce u_ho u_wy u_bt u_ps b_pt u_tg u_sn b_ip u_ic b_ah b_be b_me u_wd b_tr b_ld u_st b_wn u_id)), (b_op, (arI G 400 z259)), (b_ar, (arI G 400 z260)), (b_pi, (arI G 400 v_pi)), (b_pa, (arI G 400 v_pa))] hP hD (fun hP hD => ?_)
                                        have hmf8 := xj_mf i_252
                                        refine lv_aload_n hx hb dX12_behindSum_225 rfl (lv_at hl 2 rfl) ?_
                                        refine lv_iload_n hx hb dX12_behindSum_226 rfl (lv_at hl 0 rfl) ?_
                                        refine lv_iconst (v := 0) hx hb dX12_behindSum_227 (by decide) ?_
                                        obtain ⟨hPc, hDc, hFc⟩ := g5_sub3 (wc := [(b_o, (oc12 u_th u_sa b_rf b_ro b_im b_ke u_fd b_tp u_td z244 z245 z246 z247 u_fa u_bd u_nc b_nl z257 b_op b_ar u_le b_pi b_pa z258 u_od b_ws b_hw u_la b_se b_re u_bk u_va u_su u_ce u_ho u_wy u_bt u_ps b_pt u_tg u_sn b_ip u_ic b_ah b_be b_me u_wd b_tr b_ld u_st b_wn u_id)), (b_pi, (arI G 400 v_pi)), (b_pa, (arI G 400 v_pa))]) hP hD hS hA [1, 4, 5] (by decide) rfl
                                        refine va_callv (va_runV (As := [.int 25, .int 0]) (rest := []) ⟨hx, hb, hml, hown, hts⟩ (n_push l G b_o b_pi b_pa b_rf b_ro b_im b_ke b_tp b_nl b_op b_ar b_ws b_hw b_se b_re b_pt b_ip b_ah b_be b_me b_tr b_ld b_wn H.size u_th u_sa u_fd u_td z244 z245 z246 u_fa u_bd u_nc z257 u_le z258 u_od u_la u_bk u_ce u_ho u_wy u_bt u_ps u_tg u_sn u_ic u_wd u_id 25 0 z247 u_va u_su u_st v_pi v_pa h_u_td i_240 i_241 ⟨by omega, by omega⟩ h_u_nc i_250 i_251 h_u_la h_u_bk h_u_ce h_u_ho h_u_wy h_u_bt h_u_ps h_u_ic h_u_id (by omega)) (cwV 2 hts gV_X12_261 rfl rfl rfl hv_X12_push ⟨Nat.le_of_ble_eq_true rfl, Nat.le_of_ble_eq_true rfl⟩) (g5_preV hPc hK hDc hN hT hS hFc (ci := 12) (q0 := 0) rfl rfl) rfl rfl hl.1 rfl (lv_room (Nat.le_of_ble_eq_true rfl)) dX12_behindSum_228 ⟨Nat.le_of_ble_eq_true rfl, Nat.le_of_ble_eq_true rfl⟩) hS (fun q _ h => hFc q h) hFc (fun u t H1 locs ht hvm hw hB hz1 hk1 hS => ?_)
                                        obtain ⟨hP1, hD1⟩ := hB
                                        rw [ht] at hP1
                                        obtain ⟨z263, i_261, i_262, rfl⟩ := hw
                                        have i_261 : 0 ≤ z263.toInt ∧ z263.toInt ≤ 400 := i_261
                                        have i_262 : z263.toInt = z258.toInt + 1 := i_262
                                        obtain ⟨hP, hD⟩ := va_join (wr := [(b_tp, (arI G 400 v_tp)), (b_op, (arI G 400 z259)), (b_ar, (arI G 400 z260))]) hP hD [1, 4, 5] [0, 2, 3] rfl rfl (by decide) (by decide) hk1 hFc hP1 hD1
                                        generalize H1 = H at hP hS ⊢
                                        refine g5_rs [(b_tp, (arI G 400 v_tp)), (b_op, (arI G 400 z259)), (b_ar, (arI G 400 z260)), (b_o, (oc12 u_th u_sa b_rf b_ro b_im b_ke u_fd b_tp u_td z244 z245 z246 z247 u_fa u_bd u_nc b_nl z257 b_op b_ar u_le b_pi b_pa z263 u_od b_ws b_hw u_la b_se b_re u_bk u_va u_su u_ce u_ho u_wy u_bt u_ps b_pt u_tg u_sn b_ip u_ic b_ah b_be b_me u_wd b_tr b_ld u_st b_wn u_id)), (b_pi, (arI G 400 (upd v_pi z258.toNatClampNeg 25))), (b_pa, (arI G 400 (upd v_pa z258.toNatClampNeg 0)))] hP hD (fun hP hD => ?_)
                                        refine lv_iconst (v := 1) hx hb dX12_behindSum_231 (by decide) ?_
                                        exact W.iret (v := 1) hx hb hr (fun t ht hW => ⟨⟨1, [(b_o, (oc12 u_th u_sa b_rf b_ro b_im b_ke u_fd b_tp u_td z244 z245 z246 z247 u_fa u_bd u_nc b_nl z257 b_op b_ar u_le b_pi b_pa z263 u_od b_ws b_hw u_la b_se b_re u_bk u_va u_su u_ce u_ho u_wy u_bt u_ps b_pt u_tg u_sn b_ip u_ic b_ah b_be b_me u_wd b_tr b_ld u_st b_wn u_id)), (b_tp, (arI G 400 v_tp)), (b_op, (arI G 400 z259)), (b_ar, (arI G 400 z260)), (b_pi, (arI G 400 (upd v_pi z258.toNatClampNeg 25))), (b_pa, (arI G 400 (upd v_pa z258.toNatClampNeg 0)))], rfl, Or.inr (⟨1, z244, z245, z246, z247, z257, z263, u_od, z259, z260, (upd v_pi z258.toNatClampNeg 25), (upd v_pa z258.toNatClampNeg 0), i_240, i_241, i_250, i_261, ⟨by have zc_o_r : (1 : Int32).toInt = 1 := (by decide); omega, by have zc_o_r : (1 : Int32).toInt = 1 := (by decide); omega⟩, by omega, i_243, xj_push i_252 (by omega) (by omega) ⟨by decide, by decide⟩ (Or.inl (by decide)), tj_1 (hj_push2 i_253 (by omega) (by omega) ⟨by decide, by decide⟩ (Or.inr (no31_le (inn_no31 i_110 (tj_d1 e_j (by decide)) n_113) (by omega)))) (by decide), by have w9 := (twt_0 (by decide) : twt (1 : Int32).toInt = 0); omega, rfl, rfl⟩), by rw [ht]; exact hP.sub [3, 0, 1, 2, 4, 5] rfl, hD.sub [3, 0, 1, 2, 4, 5] (by decide) rfl⟩, hS.F ht⟩) hS.2.2 dX12_behindSum_232
                                    ·
                                      exact absurd c_239 (by decide)
                                ·
                                  obtain ⟨hP, hD⟩ := va_join (wr := [(b_tp, (arI G 400 v_tp)), (b_op, (arI G 400 v_op)), (b_ar, (arI G 400 v_ar)), (b_pa, (arI G 400 v_pa)), (b_pi, (arI G 400 v_pi))]) hP hD [5] [0, 1, 2, 3, 4] rfl rfl (by decide) (by decide) hk1 hFc hP1 hD1
                                  generalize H1 = H at hP hS ⊢
                                  refine g5_rs [(b_tp, (arI G 400 v_tp)), (b_op, (arI G 400 v_op)), (b_ar, (arI G 400 v_ar)), (b_pa, (arI G 400 v_pa)), (b_pi, (arI G 400 v_pi)), (b_o, (oc12 u_th u_sa b_rf b_ro b_im b_ke u_fd b_tp u_td u_fr u_to u_so u_wo u_fa u_bd u_nc b_nl u_co b_op b_ar u_le b_pi b_pa u_pd u_od b_ws b_hw u_la b_se b_re u_bk u_va u_su u_ce u_ho u_wy u_bt u_ps b_pt u_tg u_sn b_ip u_ic b_ah b_be b_me u_wd b_tr b_ld u_st b_wn u_id))] hP hD (fun hP hD => ?_)
                                  refine lv_if_eq (tgt := 186) hx hb dX12_behindSum_178 (by decide) (fun c_264 => ?_) (fun c_264 => ?_)
                                  ·
                                    refine lv_bipush (v := 26) hx hb dX12_behindSum_186 (by decide) ?_
                                    refine lv_istore_n (lv' := [(2, .int 26), (3, .int z111), (0, .ref b_o), (1, .int p_1)]) hx hb dX12_behindSum_188 rfl hl (by decide) rfl (fun ls hl => ?_)
                                    refine lv_aload_n hx hb dX12_behindSum_189 rfl (lv_at hl 2 rfl) ?_
                                    refine lv_iload_n hx hb dX12_behindSum_190 rfl (lv_at hl 0 rfl) ?_
                                    refine lv_bipush (v := 26) hx hb dX12_behindSum_191 (by decide) ?_
                                    refine lv_icmp_ne (tgt := 205) hx hb dX12_behindSum_193 (by decide) (fun c_265 => ?_) (fun c_265 => ?_)
                                    ·
                                      exact absurd c_265 (by decide)
                                    ·
                                      refine lv_aload_n hx hb dX12_behindSum_196 rfl (lv_at hl 2 rfl) ?_
                                      refine lv_bipush (v := 61) hx hb dX12_behindSum_197 (by decide) ?_
                                      obtain ⟨hPc, hDc, hFc⟩ := g5_sub3 (wc := [(b_o, (oc12 u_th u_sa b_rf b_ro b_im b_ke u_fd b_tp u_td u_fr u_to u_so u_wo u_fa u_bd u_nc b_nl u_co b_op b_ar u_le b_pi b_pa u_pd u_od b_ws b_hw u_la b_se b_re u_bk u_va u_su u_ce u_ho u_wy u_bt u_ps b_pt u_tg u_sn b_ip u_ic b_ah b_be b_me u_wd b_tr b_ld u_st b_wn u_id))]) hP hD hS hA [5] (by decide) rfl
                                      refine va_calli (va_runV (As := [.int 61]) (rest := [.ref b_o]) ⟨hx, hb, hml, hown, hts⟩ (n_isSign l G b_o b_rf b_ro b_im b_ke b_tp b_nl b_op b_ar b_pi b_pa b_ws b_hw b_se b_re b_pt b_ip b_ah b_be b_me b_tr b_ld b_wn H.size u_th u_sa u_fd u_td u_fr u_to u_so u_fa u_bd u_nc u_co u_le u_pd u_od u_la u_bk u_ce u_ho u_wy u_bt u_ps u_tg u_sn u_ic u_wd u_id 61 u_wo u_va u_su u_st h_u_td h_u_fr h_u_to ⟨by omega, by omega⟩ h_u_nc h_u_co h_u_pd h_u_la h_u_bk h_u_ce h_u_ho h_u_wy h_u_bt h_u_ps h_u_ic h_u_id) (cwV 1 hts gV_X12_267 rfl rfl rfl hv_X12_isSign ⟨Nat.le_of_ble_eq_true rfl, Nat.le_of_ble_eq_true rfl⟩) (g5_preV hPc hK hDc hN hT hS hFc (ci := 12) (q0 := 0) rfl rfl) rfl rfl hl.1 rfl (lv_room (Nat.le_of_ble_eq_true rfl)) dX12_behindSum_199 ⟨Nat.le_of_ble_eq_true rfl, Nat.le_of_ble_eq_true rfl⟩) hS (fun q _ h => hFc q h) hFc (fun r u t H1 locs ht hvm hw hB hz1 hk1 hS => ?_)
                                      obtain ⟨hP1, hD1⟩ := hB
                                      rw [ht] at hP1
                                      rcases hw with ⟨i_266, rfl, rfl⟩ | ⟨rfl, rfl⟩
                                      ·
                                        have i_266 : u_so.toInt = 3 := i_266
                                        obtain ⟨hP, hD⟩ := va_join (wr := [(b_tp, (arI G 400 v_tp)), (b_op, (arI G 400 v_op)), (b_ar, (arI G 400 v_ar)), (b_pa, (arI G 400 v_pa)), (b_pi, (arI G 400 v_pi))]) hP hD [5] [0, 1, 2, 3, 4] rfl rfl (by decide) (by decide) hk1 hFc hP1 hD1
                                        generalize H1 = H at hP hS ⊢
                                        refine g5_rs [(b_tp, (arI G 400 v_tp)), (b_op, (arI G 400 v_op)), (b_ar, (arI G 400 v_ar)), (b_pa, (arI G 400 v_pa)), (b_pi, (arI G 400 v_pi)), (b_o, (oc12 u_th u_sa b_rf b_ro b_im b_ke u_fd b_tp u_td u_fr u_to u_so u_wo u_fa u_bd u_nc b_nl u_co b_op b_ar u_le b_pi b_pa u_pd u_od b_ws b_hw u_la b_se b_re u_bk u_va u_su u_ce u_ho u_wy u_bt u_ps b_pt u_tg u_sn b_ip u_ic b_ah b_be b_me u_wd b_tr b_ld u_st b_wn u_id))] hP hD (fun hP hD => ?_)
                                        refine lv_if_eq (tgt := 209) hx hb dX12_behindSum_202 (by decide) (fun c_267 => ?_) (fun c_267 => ?_)
                                        ·
                                          exact absurd c_267 (by decide)
                                        ·
                                          refine lv_iconst (v := 1) hx hb dX12_behindSum_205 (by decide) ?_
                                          refine lv_goto (tgt := 210) hx hb dX12_behindSum_206 (by decide) ?_
                                          have hlt9 : u_fr.toInt < u_to.toInt := tks_lt e_s (by omega)
                                          obtain ⟨hPc, hDc, hFc⟩ := g5_sub3 (wc := [(b_o, (oc12 u_th u_sa b_rf b_ro b_im b_ke u_fd b_tp u_td u_fr u_to u_so u_wo u_fa u_bd u_nc b_nl u_co b_op b_ar u_le b_pi b_pa u_pd u_od b_ws b_hw u_la b_se b_re u_bk u_va u_su u_ce u_ho u_wy u_bt u_ps b_pt u_tg u_sn b_ip u_ic b_ah b_be b_me u_wd b_tr b_ld u_st b_wn u_id)), (b_tp, (arI G 400 v_tp))]) hP hD hS hA [5, 0] (by decide) rfl
                                          refine va_callv (va_runV (As := [.int 1]) (rest := []) ⟨hx, hb, hml, hown, hts⟩ (n_must1 l G b_o b_tp b_rf b_ro b_im b_ke b_nl b_op b_ar b_pi b_pa b_ws b_hw b_se b_re b_pt b_ip b_ah b_be b_me b_tr b_ld b_wn H.size u_th u_sa u_fd u_td u_fr u_to u_so u_fa u_bd u_nc u_co u_le u_pd u_od u_la u_bk u_ce u_ho u_wy u_bt u_ps u_tg u_sn u_ic u_wd u_id u_wo u_va u_su u_st v_tp h_u_td h_u_fr h_u_to h_u_bd h_u_nc h_u_co h_u_pd h_u_la h_u_bk h_u_ce h_u_ho h_u_wy h_u_bt h_u_ps h_u_ic h_u_id (by omega)) (cwV 1 hts gV_X12_233 rfl rfl rfl hv_X12_must ⟨Nat.le_of_ble_eq_true rfl, Nat.le_of_ble_eq_true rfl⟩) (g5_preV hPc hK hDc hN hT hS hFc (ci := 12) (q0 := 0) rfl rfl) rfl rfl hl.1 rfl (lv_room (Nat.le_of_ble_eq_true rfl)) dX12_behindSum_210 ⟨Nat.le_of_ble_eq_true rfl, Nat.le_of_ble_eq_true rfl⟩) hS (fun q _ h => hFc q h) hFc (fun u t H1 locs ht hvm hw hB hz1 hk1 hS => ?_)
                                          obtain ⟨hP1, hD1⟩ := hB
                                          rw [ht] at hP1
                                          obtain ⟨z272, z273, z274, z275, i_268, i_269, i_270, i_271, rfl⟩ := hw
                                          have i_268 : 0 ≤ z272.toInt ∧ z272.toInt ≤ 400 := i_268
                                          have i_269 : 0 ≤ z273.toInt ∧ z273.toInt ≤ 400 := i_269
                                          have i_270 : u_to.toInt ≤ z272.toInt ∧ z272.toInt ≤ z273.toInt ∧ z273.toInt ≤ u_td.toInt := i_270
                                          have i_271 : TKs z274.toInt z272.toInt z273.toInt := i_271
                                          obtain ⟨hP, hD⟩ := va_join (wr := [(b_op, (arI G 400 v_op)), (b_ar, (arI G 400 v_ar)), (b_pa, (arI G 400 v_pa)), (b_pi, (arI G 400 v_pi))]) hP hD [5, 0] [1, 2, 3, 4] rfl rfl (by decide) (by decide) hk1 hFc hP1 hD1
                                          generalize H1 = H at hP hS ⊢
                                          refine g5_rs [(b_op, (arI G 400 v_op)), (b_ar, (arI G 400 v_ar)), (b_pa, (arI G 400 v_pa)), (b_pi, (arI G 400 v_pi)), (b_o, (oc12 u_th u_sa b_rf b_ro b_im b_ke u_fd b_tp u_td z272 z273 z274 z275 u_fa u_bd u_nc b_nl u_co b_op b_ar u_le b_pi b_pa u_pd u_od b_ws b_hw u_la b_se b_re u_bk u_va u_su u_ce u_ho u_wy u_bt u_ps b_pt u_tg u_sn b_ip u_ic b_ah b_be b_me u_wd b_tr b_ld u_st b_wn u_id)), (b_tp, (arI G 400 v_tp))] hP hD (fun hP hD => ?_)
                                          refine lv_aload_n hx hb dX12_behindSum_213 rfl (lv_at hl 2 rfl) ?_
                                          refine va_get (D := G.1) (ci := 12) (v := .int u_bd) (C := RX12) (T := TX12) (N := 52) hx hb hts inG_X12 hown hK hP 4 rfl rfl 14 (by decide) (hts _ fl_X12_205) (fun _ h9 => h9) rfl dX12_behindSum_214 ?_
                                          refine lv_if_ne (tgt := 231) hx hb dX12_behindSum_217 (by decide) (fun c_276 => ?_) (fun c_276 => ?_)
                                          ·
                                            have i_276 : u_bd.toInt ≠ 0 := by have z := g5_ne (a := u_bd.toInt) (b := 0) (by rfl) (by decide) c_276; omega
                                            omega
                                          ·
                                            have i_276 : u_bd.toInt = 0 := by have z := g5_neN (a := u_bd.toInt) (b := 0) (by rfl) (by decide) c_276; omega
                                            have hE_277 : HJ v_op v_ar v_pi v_pa g_a.toInt u_co.toInt u_pd.toInt 1 := tj_d1 e_j (by decide)
                                            refine lv_aload_n hx hb dX12_behindSum_220 rfl (lv_at hl 2 rfl) ?_
                                            refine lv_iconst (v := 5) hx hb dX12_behindSum_221 (by decide) ?_
                                            obtain ⟨hPc, hDc, hFc⟩ := g5_sub3 (wc := [(b_o, (oc12 u_th u_sa b_rf b_ro b_im b_ke u_fd b_tp u_td z272 z273 z274 z275 u_fa u_bd u_nc b_nl u_co b_op b_ar u_le b_pi b_pa u_pd u_od b_ws b_hw u_la b_se b_re u_bk u_va u_su u_ce u_ho u_wy u_bt u_ps b_pt u_tg u_sn b_ip u_ic b_ah b_be b_me u_wd b_tr b_ld u_st b_wn u_id)), (b_op, (arI G 400 v_op)), (b_ar, (arI G 400 v_ar)), (b_pi, (arI G 400 v_pi)), (b_pa, (arI G 400 v_pa))]) hP hD hS hA [4, 0, 1, 3, 2] (by decide) rfl
                                            refine va_callv (va_runV (As := [.int 5]) (rest := []) ⟨hx, hb, hml, hown, hts⟩ (n_settleH l G b_o b_op b_ar b_pi b_pa b_rf b_ro b_im b_ke b_tp b_nl b_ws b_hw b_se b_re b_pt b_ip b_ah b_be b_me b_tr b_ld b_wn H.size u_th u_sa u_fd u_td z272 z273 z274 u_fa u_bd u_nc u_co u_le u_pd u_od u_la u_bk u_ce u_ho u_wy u_bt u_ps u_tg u_sn u_ic u_wd u_id 5 g_a u_fr z275 u_va u_su u_st v_op v_ar v_pi v_pa g_op g_ar h_u_td i_268 i_269 ⟨by omega, by omega⟩ h_u_nc h_u_co h_u_pd h_u_la h_u_bk h_u_ce h_u_ho h_u_wy h_u_bt h_u_ps h_u_ic h_u_id ⟨by decide, by decide⟩ (by omega) (e_x) (hE_277)) (cwV 1 hts gV_X12_288 rfl rfl rfl hv_X12_settle ⟨Nat.le_of_ble_eq_true rfl, Nat.le_of_ble_eq_true rfl⟩) (g5_preV hPc hK hDc hN hT hS hFc (ci := 12) (q0 := 0) rfl rfl) rfl rfl hl.1 rfl (lv_room (Nat.le_of_ble_eq_true rfl)) dX12_behindSum_222 ⟨Nat.le_of_ble_eq_true rfl, Nat.le_of_ble_eq_true rfl⟩) hS (fun q _ h => hFc q h) hFc (fun u t H1 locs ht hvm hw hB hz1 hk1 hS => ?_)
                                            obtain ⟨hP1, hD1⟩ := hB
                                            rw [ht] at hP1
                                            obtain ⟨z285, z286, z287, z288, i_278, i_279, i_280, i_281, i_282, i_283, i_284, rfl⟩ := hw
                                            have i_278 : 0 ≤ z285.toInt ∧ z285.toInt ≤ 400 := i_278
                                            have i_279 : 0 ≤ z286.toInt ∧ z286.toInt ≤ 400 := i_279
                                            have i_280 : XJ g_op g_ar z287 z288 v_pi v_pa g_a.toInt z285.toInt z286.toInt u_fr.toInt := i_280
                                            have i_281 : HJ z287 z288 v_pi v_pa g_a.toInt z285.toInt z286.toInt 1 := i_281
                                            have i_282 : S1 v_pi u_pd.toInt z286.toInt := i_282
                                            have i_283 : S2 v_pi z286.toInt (5 : Int32).toInt := i_283
                                            have i_284 : z286.toInt ≤ u_pd.toInt := i_284
                                            obtain ⟨hP, hD⟩ := va_join (wr := [(b_tp, (arI G 400 v_tp))]) hP hD [4, 0, 1, 3, 2] [5] rfl rfl (by decide) (by decide) hk1 hFc hP1 hD1
                                            generalize H1 = H at hP hS ⊢
                                            refine g5_rs [(b_tp, (arI G 400 v_tp)), (b_o, (oc12 u_th u_sa b_rf b_ro b_im b_ke u_fd b_tp u_td z272 z273 z274 z275 u_fa u_bd u_nc b_nl z285 b_op b_ar u_le b_pi b_pa z286 u_od b_ws b_hw u_la b_se b_re u_bk u_va u_su u_ce u_ho u_wy u_bt u_ps b_pt u_tg u_sn b_ip u_ic b_ah b_be b_me u_wd b_tr b_ld u_st b_wn u_id)), (b_op, (arI G 400 z287)), (b_ar, (arI G 400 z288)), (b_pi, (arI G 400 v_pi)), (b_pa, (arI G 400 v_pa))] hP hD (fun hP hD => ?_)
                                            have hmf8 := xj_mf i_280
                                            refine lv_aload_n hx hb dX12_behindSum_225 rfl (lv_at hl 2 rfl) ?_
                                            refine lv_iload_n hx hb dX12_behindSum_226 rfl (lv_at hl 0 rfl) ?_
                                            refine lv_iconst (v := 0) hx hb dX12_behindSum_227 (by decide) ?_
                                            obtain ⟨hPc, hDc, hFc⟩ := g5_sub3 (wc := [(b_o, (oc12 u_th u_sa b_rf b_ro b_im b_ke u_fd b_tp u_td z272 z273 z274 z275 u_fa u_bd u_nc b_nl z285 b_op b_ar u_le b_pi b_pa z286 u_od b_ws b_hw u_la b_se b_re u_bk u_va u_su u_ce u_ho u_wy u_bt u_ps b_pt u_tg u_sn b_ip u_ic b_ah b_be b_me u_wd b_tr b_ld u_st b_wn u_id)), (b_pi, (arI G 400 v_pi)), (b_pa, (arI G 400 v_pa))]) hP hD hS hA [1, 4, 5] (by decide) rfl
                                            refine va_callv (va_runV (As := [.int 26, .int 0]) (rest := []) ⟨hx, hb, hml, hown, hts⟩ (n_push l G b_o b_pi b_pa b_rf b_ro b_im b_ke b_tp b_nl b_op b_ar b_ws b_hw b_se b_re b_pt b_ip b_ah b_be b_me b_tr b_ld b_wn H.size u_th u_sa u_fd u_td z272 z273 z274 u_fa u_bd u_nc z285 u_le z286 u_od u_la u_bk u_ce u_ho u_wy u_bt u_ps u_tg u_sn u_ic u_wd u_id 26 0 z275 u_va u_su u_st v_pi v_pa h_u_td i_268 i_269 ⟨by omega, by omega⟩ h_u_nc i_278 i_279 h_u_la h_u_bk h_u_ce h_u_ho h_u_wy h_u_bt h_u_ps h_u_ic h_u_id (by omega)) (cwV 2 hts gV_X12_261 rfl rfl rfl hv_X12_push ⟨Nat.le_of_ble_eq_true rfl, Nat.le_of_ble_eq_true rfl⟩) (g5_preV hPc hK hDc hN hT hS hFc (ci := 12) (q0 := 0) rfl rfl) rfl rfl hl.1 rfl (lv_room (Nat.le_of_ble_eq_true rfl)) dX12_behindSum_228 ⟨Nat.le_of_ble_eq_true rfl, Nat.le_of_ble_eq_true rfl⟩) hS (fun q _ h => hFc q h) hFc (fun u t H1 locs ht hvm hw hB hz1 hk1 hS => ?_)
                                            obtain ⟨hP1, hD1⟩ := hB
                                            rw [ht] at hP1
                                            obtain ⟨z291, i_289, i_290, rfl⟩ := hw
                                            have i_289 : 0 ≤ z291.toInt ∧ z291.toInt ≤ 400 := i_289
                                            have i_290 : z291.toInt = z286.toInt + 1 := i_290
                                            obtain ⟨hP, hD⟩ := va_join (wr := [(b_tp, (arI G 400 v_tp)), (b_op, (arI G 400 z287)), (b_ar, (arI G 400 z288))]) hP hD [1, 4, 5] [0, 2, 3] rfl rfl (by decide) (by decide) hk1 hFc hP1 hD1
                                            generalize H1 = H at hP hS ⊢
                                            refine g5_rs [(b_tp, (arI G 400 v_tp)), (b_op, (arI G 400 z287)), (b_ar, (arI G 400 z288)), (b_o, (oc12 u_th u_sa b_rf b_ro b_im b_ke u_fd b_tp u_td z272 z273 z274 z275 u_fa u_bd u_nc b_nl z285 b_op b_ar u_le b_pi b_pa z291 u_od b_ws b_hw u_la b_se b_re u_bk u_va u_su u_ce u_ho u_wy u_bt u_ps b_pt u_tg u_sn b_ip u_ic b_ah b_be b_me u_wd b_tr b_ld u_st b_wn u_id)), (b_pi, (arI G 400 (upd v_pi z286.toNatClampNeg 26))), (b_pa, (arI G 400 (upd v_pa z286.toNatClampNeg 0)))] hP hD (fun hP hD => ?_)
                                            refine lv_iconst (v := 1) hx hb dX12_behindSum_231 (by decide) ?_
                                            exact W.iret (v := 1) hx hb hr (fun t ht hW => ⟨⟨1, [(b_o, (oc12 u_th u_sa b_rf b_ro b_im b_ke u_fd b_tp u_td z272 z273 z274 z275 u_fa u_bd u_nc b_nl z285 b_op b_ar u_le b_pi b_pa z291 u_od b_ws b_hw u_la b_se b_re u_bk u_va u_su u_ce u_ho u_wy u_bt u_ps b_pt u_tg u_sn b_ip u_ic b_ah b_be b_me u_wd b_tr b_ld u_st b_wn u_id)), (b_tp, (arI G 400 v_tp)), (b_op, (arI G 400 z287)), (b_ar, (arI G 400 z288)), (b_pi, (arI G 400 (upd v_pi z286.toNatClampNeg 26))), (b_pa, (arI G 400 (upd v_pa z286.toNatClampNeg 0)))], rfl, Or.inr (⟨1, z272, z273, z274, z275, z285, z291, u_od, z287, z288, (upd v_pi z286.toNatClampNeg 26), (upd v_pa z286.toNatClampNeg 0), i_268, i_269, i_278, i_289, ⟨by have zc_o_r : (1 : Int32).toInt = 1 := (by decide); omega, by have zc_o_r : (1 : Int32).toInt = 1 := (by decide); omega⟩, by omega, i_271, xj_push i_280 (by omega) (by omega) ⟨by decide, by decide⟩ (Or.inl (by decide)), tj_1 (hj_push2 i_281 (by omega) (by omega) ⟨by decide, by decide⟩ (Or.inr (no31_le (inn_no31 i_110 (tj_d1 e_j (by decide)) n_113) (by omega)))) (by decide), by have w9 := (twt_0 (by decide) : twt (1 : Int32).toInt = 0); omega, rfl, rfl⟩), by rw [ht]; exact hP.sub [3, 0, 1, 2, 4, 5] rfl, hD.sub [3, 0, 1, 2, 4, 5] (by decide) rfl⟩, hS.F ht⟩) hS.2.2 dX12_behindSum_232
                                      ·
                                        obtain ⟨hP, hD⟩ := va_join (wr := [(b_tp, (arI G 400 v_tp)), (b_op, (arI G 400 v_op)), (b_ar, (arI G 400 v_ar)), (b_pa, (arI G 400 v_pa)), (b_pi, (arI G 400 v_pi))]) hP hD [5] [0, 1, 2, 3, 4] rfl rfl (by decide) (by decide) hk1 hFc hP1 hD1
                                        generalize H1 = H at hP hS ⊢
                                        refine g5_rs [(b_tp, (arI G 400 v_tp)), (b_op, (arI G 400 v_op)), (b_ar, (arI G 400 v_ar)), (b_pa, (arI G 400 v_pa)), (b_pi, (arI G 400 v_pi)), (b_o, (oc12 u_th u_sa b_rf b_ro b_im b_ke u_fd b_tp u_td u_fr u_to u_so u_wo u_fa u_bd u_nc b_nl u_co b_op b_ar u_le b_pi b_pa u_pd u_od b_ws b_hw u_la b_se b_re u_bk u_va u_su u_ce u_ho u_wy u_bt u_ps b_pt u_tg u_sn b_ip u_ic b_ah b_be b_me u_wd b_tr b_ld u_st b_wn u_id))] hP hD (fun hP hD => ?_)
                                        refine lv_if_eq (tgt := 209) hx hb dX12_behindSum_202 (by decide) (fun c_292 => ?_) (fun c_292 => ?_)
                                        ·
                                          refine lv_iconst (v := 0) hx hb dX12_behindSum_209 (by decide) ?_
                                          obtain ⟨hPc, hDc, hFc⟩ := g5_sub3 (wc := [(b_o, (oc12 u_th u_sa b_rf b_ro b_im b_ke u_fd b_tp u_td u_fr u_to u_so u_wo u_fa u_bd u_nc b_nl u_co b_op b_ar u_le b_pi b_pa u_pd u_od b_ws b_hw u_la b_se b_re u_bk u_va u_su u_ce u_ho u_wy u_bt u_ps b_pt u_tg u_sn b_ip u_ic b_ah b_be b_me u_wd b_tr b_ld u_st b_wn u_id)), (b_tp, (arI G 400 v_tp))]) hP hD hS hA [5, 0] (by decide) rfl
                                          refine va_callv (va_runV (As := [.int 0]) (rest := []) ⟨hx, hb, hml, hown, hts⟩ (n_must0 l G b_o b_tp b_rf b_ro b_im b_ke b_nl b_op b_ar b_pi b_pa b_ws b_hw b_se b_re b_pt b_ip b_ah b_be b_me b_tr b_ld b_wn H.size u_th u_sa u_fd u_td u_fr u_to u_so u_fa u_bd u_nc u_co u_le u_pd u_od u_la u_bk u_ce u_ho u_wy u_bt u_ps u_tg u_sn u_ic u_wd u_id u_wo u_va u_su u_st v_tp h_u_td h_u_fr h_u_to h_u_bd h_u_nc h_u_co h_u_pd h_u_la h_u_bk h_u_ce h_u_ho h_u_wy h_u_bt h_u_ps h_u_ic h_u_id) (cwV 1 hts gV_X12_233 rfl rfl rfl hv_X12_must ⟨Nat.le_of_ble_eq_true rfl, Nat.le_of_ble_eq_true rfl⟩) (g5_preV hPc hK hDc hN hT hS hFc (ci := 12) (q0 := 0) rfl rfl) rfl rfl hl.1 rfl (lv_room (Nat.le_of_ble_eq_true rfl)) dX12_behindSum_210 ⟨Nat.le_of_ble_eq_true rfl, Nat.le_of_ble_eq_true rfl⟩) hS (fun q _ h => hFc q h) hFc (fun u t H1 locs ht hvm hw hB hz1 hk1 hS => ?_)
                                          obtain ⟨hP1, hD1⟩ := hB
                                          rw [ht] at hP1
                                          obtain rfl := hw
                                          obtain ⟨hP, hD⟩ := va_join (wr := [(b_op, (arI G 400 v_op)), (b_ar, (arI G 400 v_ar)), (b_pa, (arI G 400 v_pa)), (b_pi, (arI G 400 v_pi))]) hP hD [5, 0] [1, 2, 3, 4] rfl rfl (by decide) (by decide) hk1 hFc hP1 hD1
                                          generalize H1 = H at hP hS ⊢
                                          refine g5_rs [(b_op, (arI G 400 v_op)), (b_ar, (arI G 400 v_ar)), (b_pa, (arI G 400 v_pa)), (b_pi, (arI G 400 v_pi)), (b_o, (oc12 u_th u_sa b_rf b_ro b_im b_ke u_fd b_tp u_td u_fr u_to u_so u_wo u_fr 1 u_nc b_nl u_co b_op b_ar u_le b_pi b_pa u_pd u_od b_ws b_hw u_la b_se b_re u_bk u_va u_su u_ce u_ho u_wy u_bt u_ps b_pt u_tg u_sn b_ip u_ic b_ah b_be b_me u_wd b_tr b_ld u_st b_wn u_id)), (b_tp, (arI G 400 v_tp))] hP hD (fun hP hD => ?_)
                                          refine lv_aload_n hx hb dX12_behindSum_213 rfl (lv_at hl 2 rfl) ?_
                                          refine va_get (D := G.1) (ci := 12) (v := .int 1) (C := RX12) (T := TX12) (N := 52) hx hb hts inG_X12 hown hK hP 4 rfl rfl 14 (by decide) (hts _ fl_X12_205) (fun _ h9 => h9) rfl dX12_behindSum_214 ?_
                                          refine lv_if_ne (tgt := 231) hx hb dX12_behindSum_217 (by decide) (fun c_293 => ?_) (fun c_293 => ?_)
                                          ·
                                            refine lv_iconst (v := 1) hx hb dX12_behindSum_231 (by decide) ?_
                                            exact W.iret (v := 1) hx hb hr (fun t ht hW => ⟨⟨1, [(b_o, (oc12 u_th u_sa b_rf b_ro b_im b_ke u_fd b_tp u_td u_fr u_to u_so u_wo u_fr 1 u_nc b_nl u_co b_op b_ar u_le b_pi b_pa u_pd u_od b_ws b_hw u_la b_se b_re u_bk u_va u_su u_ce u_ho u_wy u_bt u_ps b_pt u_tg u_sn b_ip u_ic b_ah b_be b_me u_wd b_tr b_ld u_st b_wn u_id)), (b_tp, (arI G 400 v_tp)), (b_op, (arI G 400 v_op)), (b_ar, (arI G 400 v_ar)), (b_pi, (arI G 400 v_pi)), (b_pa, (arI G 400 v_pa))], rfl, Or.inl (⟨1, ⟨by have zc_o_r : (1 : Int32).toInt = 1 := (by decide); omega, by have zc_o_r : (1 : Int32).toInt = 1 := (by decide); omega⟩, rfl, rfl⟩), by rw [ht]; exact hP.sub [4, 5, 0, 1, 3, 2] rfl, hD.sub [4, 5, 0, 1, 3, 2] (by decide) rfl⟩, hS.F ht⟩) hS.2.2 dX12_behindSum_232
                                          ·
                                            exact absurd c_293 (by decide)
                                        ·
                                          exact absurd c_292 (by decide)
                                  ·
                                    exact absurd c_264 (by decide)
                              ·
                                exact absurd c_236 (by decide)
                          ·
                            have n_208 : gNe (z206.toInt) (0) := by have z := g5_eqN (a := z206.toInt) (b := 0) (by rfl) (by decide) c_208; unfold gNe; omega
                            have i_208 : z206.toInt ≥ 1 := by have z := g5_eqN (a := z206.toInt) (b := 0) (by rfl) (by decide) c_208; omega
                            refine lv_iconst (v := 2) hx hb dX12_behindSum_156 (by decide) ?_
                            exact W.iret (v := 2) hx hb hr (fun t ht hW => ⟨⟨2, [(b_o, (oc12 u_th u_sa b_rf b_ro b_im b_ke u_fd b_tp u_td u_fr u_to u_so u_wo u_fa u_bd u_nc b_nl u_co b_op b_ar u_le b_pi b_pa u_pd u_od b_ws b_hw u_la b_se b_re u_bk u_va u_su u_ce u_ho u_wy u_bt u_ps b_pt u_tg u_sn b_ip u_ic b_ah b_be b_me u_wd b_tr b_ld u_st b_wn u_id)), (b_tp, (arI G 400 v_tp)), (b_op, (arI G 400 v_op)), (b_ar, (arI G 400 v_ar)), (b_pi, (arI G 400 v_pi)), (b_pa, (arI G 400 v_pa))], rfl, Or.inr (⟨2, u_fr, u_to, u_so, u_wo, u_co, u_pd, u_od, v_op, v_ar, v_pi, v_pa, h_u_fr, h_u_to, h_u_co, h_u_pd, ⟨by have zc_o_r : (2 : Int32).toInt = 2 := (by decide); omega, by have zc_o_r : (2 : Int32).toInt = 2 := (by decide); omega⟩, by omega, e_s, e_x, tj_2 (tj_d1 e_j (by decide)) (by decide) (inn_no31 i_110 (tj_d1 e_j (by decide)) n_113), by have w9 := (twt_2 (by decide) : twt (2 : Int32).toInt = 1); omega, rfl, rfl⟩), by rw [ht]; exact hP.sub [4, 0, 1, 2, 5, 3] rfl, hD.sub [4, 0, 1, 2, 5, 3] (by decide) rfl⟩, hS.F ht⟩) hS.2.2 dX12_behindSum_157
                        ·
                          have i_204 : p_1.toInt = 0 := by have z := g5_neN (a := p_1.toInt) (b := 0) (by rfl) (by decide) c_204; omega
                          refine lv_iconst (v := 4) hx hb dX12_behindSum_147 (by decide) ?_
                          exact W.iret (v := 4) hx hb hr (fun t ht hW => ⟨⟨4, [(b_o, (oc12 u_th u_sa b_rf b_ro b_im b_ke u_fd b_tp u_td u_fr u_to u_so u_wo u_fa u_bd u_nc b_nl u_co b_op b_ar u_le b_pi b_pa u_pd u_od b_ws b_hw u_la b_se b_re u_bk u_va u_su u_ce u_ho u_wy u_bt u_ps b_pt u_tg u_sn b_ip u_ic b_ah b_be b_me u_wd b_tr b_ld u_st b_wn u_id)), (b_tp, (arI G 400 v_tp)), (b_op, (arI G 400 v_op)), (b_ar, (arI G 400 v_ar)), (b_pi, (arI G 400 v_pi)), (b_pa, (arI G 400 v_pa))], rfl, Or.inr (⟨4, u_fr, u_to, u_so, u_wo, u_co, u_pd, u_od, v_op, v_ar, v_pi, v_pa, h_u_fr, h_u_to, h_u_co, h_u_pd, ⟨by have zc_o_r : (4 : Int32).toInt = 4 := (by decide); omega, by have zc_o_r : (4 : Int32).toInt = 4 := (by decide); omega⟩, by omega, e_s, e_x, tj_4 (tj_d1 e_j (by decide)) (by decide) (inn_no30 i_110 (by omega)), by have w9 := (twt_0 (by decide) : twt (4 : Int32).toInt = 0); omega, rfl, rfl⟩), by rw [ht]; exact hP.sub [4, 0, 1, 2, 5, 3] rfl, hD.sub [4, 0, 1, 2, 5, 3] (by decide) rfl⟩, hS.F ht⟩) hS.2.2 dX12_behindSum_148
                    ·
                      have i_113 : z111.toInt = 31 := by have z := g5_neN (a := z111.toInt) (b := 31) (by rfl) (by decide) c_113; omega
                      refine lv_aload_n hx hb dX12_behindSum_94 rfl (lv_at hl 2 rfl) ?_
                      refine lv_aload_n hx hb dX12_behindSum_95 rfl (lv_at hl 2 rfl) ?_
                      refine lv_bipush (v := 93) hx hb dX12_behindSum_96 (by decide) ?_
                      obtain ⟨hPc, hDc, hFc⟩ := g5_sub3 (wc := [(b_o, (oc12 u_th u_sa b_rf b_ro b_im b_ke u_fd b_tp u_td u_fr u_to u_so u_wo u_fa u_bd u_nc b_nl u_co b_op b_ar u_le b_pi b_pa u_pd u_od b_ws b_hw u_la b_se b_re u_bk u_va u_su u_ce u_ho u_wy u_bt u_ps b_pt u_tg u_sn b_ip u_ic b_ah b_be b_me u_wd b_tr b_ld u_st b_wn u_id))]) hP hD hS hA [4] (by decide) rfl
                      refine va_calli (va_runV (As := [.int 93]) (rest := [.ref b_o]) ⟨hx, hb, hml, hown, hts⟩ (n_isSign l G b_o b_rf b_ro b_im b_ke b_tp b_nl b_op b_ar b_pi b_pa b_ws b_hw b_se b_re b_pt b_ip b_ah b_be b_me b_tr b_ld b_wn H.size u_th u_sa u_fd u_td u_fr u_to u_so u_fa u_bd u_nc u_co u_le u_pd u_od u_la u_bk u_ce u_ho u_wy u_bt u_ps u_tg u_sn u_ic u_wd u_id 93 u_wo u_va u_su u_st h_u_td h_u_fr h_u_to ⟨by omega, by omega⟩ h_u_nc h_u_co h_u_pd h_u_la h_u_bk h_u_ce h_u_ho h_u_wy h_u_bt h_u_ps h_u_ic h_u_id) (cwV 1 hts gV_X12_267 rfl rfl rfl hv_X12_isSign ⟨Nat.le_of_ble_eq_true rfl, Nat.le_of_ble_eq_true rfl⟩) (g5_preV hPc hK hDc hN hT hS hFc (ci := 12) (q0 := 0) rfl rfl) rfl rfl hl.1 rfl (lv_room (Nat.le_of_ble_eq_true rfl)) dX12_behindSum_98 ⟨Nat.le_of_ble_eq_true rfl, Nat.le_of_ble_eq_true rfl⟩) hS (fun q _ h => hFc q h) hFc (fun r u t H1 locs ht hvm hw hB hz1 hk1 hS => ?_)
                      obtain ⟨hP1, hD1⟩ := hB
                      rw [ht] at hP1
                      rcases hw with ⟨i_294, rfl, rfl⟩ | ⟨rfl, rfl⟩
                      ·
                        have i_294 : u_so.toInt = 3 := i_294
                        obtain ⟨hP, hD⟩ := va_join (wr := [(b_tp, (arI G 400 v_tp)), (b_op, (arI G 400 v_op)), (b_ar, (arI G 400 v_ar)), (b_pa, (arI G 400 v_pa)), (b_pi, (arI G 400 v_pi))]) hP hD [4] [0, 1, 2, 3, 5] rfl rfl (by decide) (by decide) hk1 hFc hP1 hD1
                        generalize H1 = H at hP hS ⊢
                        refine g5_rs [(b_tp, (arI G 400 v_tp)), (b_op, (arI G 400 v_op)), (b_ar, (arI G 400 v_ar)), (b_pa, (arI G 400 v_pa)), (b_pi, (arI G 400 v_pi)), (b_o, (oc12 u_th u_sa b_rf b_ro b_im b_ke u_fd b_tp u_td u_fr u_to u_so u_wo u_fa u_bd u_nc b_nl u_co b_op b_ar u_le b_pi b_pa u_pd u_od b_ws b_hw u_la b_se b_re u_bk u_va u_su u_ce u_ho u_wy u_bt u_ps b_pt u_tg u_sn b_ip u_ic b_ah b_be b_me u_wd b_tr b_ld u_st b_wn u_id))] hP hD (fun hP hD => ?_)
                        have hlt9 : u_fr.toInt < u_to.toInt := tks_lt e_s (by omega)
                        obtain ⟨hPc, hDc, hFc⟩ := g5_sub3 (wc := [(b_o, (oc12 u_th u_sa b_rf b_ro b_im b_ke u_fd b_tp u_td u_fr u_to u_so u_wo u_fa u_bd u_nc b_nl u_co b_op b_ar u_le b_pi b_pa u_pd u_od b_ws b_hw u_la b_se b_re u_bk u_va u_su u_ce u_ho u_wy u_bt u_ps b_pt u_tg u_sn b_ip u_ic b_ah b_be b_me u_wd b_tr b_ld u_st b_wn u_id)), (b_tp, (arI G 400 v_tp))]) hP hD hS hA [5, 0] (by decide) rfl
                        refine va_callv (va_runV (As := [.int 1]) (rest := []) ⟨hx, hb, hml, hown, hts⟩ (n_must1 l G b_o b_tp b_rf b_ro b_im b_ke b_nl b_op b_ar b_pi b_pa b_ws b_hw b_se b_re b_pt b_ip b_ah b_be b_me b_tr b_ld b_wn H.size u_th u_sa u_fd u_td u_fr u_to u_so u_fa u_bd u_nc u_co u_le u_pd u_od u_la u_bk u_ce u_ho u_wy u_bt u_ps u_tg u_sn u_ic u_wd u_id u_wo u_va u_su u_st v_tp h_u_td h_u_fr h_u_to h_u_bd h_u_nc h_u_co h_u_pd h_u_la h_u_bk h_u_ce h_u_ho h_u_wy h_u_bt h_u_ps h_u_ic h_u_id (by omega)) (cwV 1 hts gV_X12_233 rfl rfl rfl hv_X12_must ⟨Nat.le_of_ble_eq_true rfl, Nat.le_of_ble_eq_true rfl⟩) (g5_preV hPc hK hDc hN hT hS hFc (ci := 12) (q0 := 0) rfl rfl) rfl rfl hl.1 rfl (lv_room (Nat.le_of_ble_eq_true rfl)) dX12_behindSum_101 ⟨Nat.le_of_ble_eq_true rfl, Nat.le_of_ble_eq_true rfl⟩) hS (fun q _ h => hFc q h) hFc (fun u t H1 locs ht hvm hw hB hz1 hk1 hS => ?_)
                        obtain ⟨hP1, hD1⟩ := hB
                        rw [ht] at hP1
                        obtain ⟨z299, z300, z301, z302, i_295, i_296, i_297, i_298, rfl⟩ := hw
                        have i_295 : 0 ≤ z299.toInt ∧ z299.toInt ≤ 400 := i_295
                        have i_296 : 0 ≤ z300.toInt ∧ z300.toInt ≤ 400 := i_296
                        have i_297 : u_to.toInt ≤ z299.toInt ∧ z299.toInt ≤ z300.toInt ∧ z300.toInt ≤ u_td.toInt := i_297
                        have i_298 : TKs z301.toInt z299.toInt z300.toInt := i_298
                        obtain ⟨hP, hD⟩ := va_join (wr := [(b_op, (arI G 400 v_op)), (b_ar, (arI G 400 v_ar)), (b_pa, (arI G 400 v_pa)), (b_pi, (arI G 400 v_pi))]) hP hD [5, 0] [1, 2, 3, 4] rfl rfl (by decide) (by decide) hk1 hFc hP1 hD1
                        generalize H1 = H at hP hS ⊢
                        refine g5_rs [(b_op, (arI G 400 v_op)), (b_ar, (arI G 400 v_ar)), (b_pa, (arI G 400 v_pa)), (b_pi, (arI G 400 v_pi)), (b_o, (oc12 u_th u_sa b_rf b_ro b_im b_ke u_fd b_tp u_td z299 z300 z301 z302 u_fa u_bd u_nc b_nl u_co b_op b_ar u_le b_pi b_pa u_pd u_od b_ws b_hw u_la b_se b_re u_bk u_va u_su u_ce u_ho u_wy u_bt u_ps b_pt u_tg u_sn b_ip u_ic b_ah b_be b_me u_wd b_tr b_ld u_st b_wn u_id)), (b_tp, (arI G 400 v_tp))] hP hD (fun hP hD => ?_)
                        refine lv_aload_n hx hb dX12_behindSum_104 rfl (lv_at hl 2 rfl) ?_
                        refine va_get (D := G.1) (ci := 12) (v := .int u_bd) (C := RX12) (T := TX12) (N := 52) hx hb hts inG_X12 hown hK hP 4 rfl rfl 14 (by decide) (hts _ fl_X12_205) (fun _ h9 => h9) rfl dX12_behindSum_105 ?_
                        refine lv_if_ne (tgt := 136) hx hb dX12_behindSum_108 (by decide) (fun c_303 => ?_) (fun c_303 => ?_)
                        ·
                          have i_303 : u_bd.toInt ≠ 0 := by have z := g5_ne (a := u_bd.toInt) (b := 0) (by rfl) (by decide) c_303; omega
                          omega
                        ·
                          have i_303 : u_bd.toInt = 0 := by have z := g5_neN (a := u_bd.toInt) (b := 0) (by rfl) (by decide) c_303; omega
                          have hE_304 : HJ v_op v_ar v_pi v_pa g_a.toInt u_co.toInt u_pd.toInt 1 := tj_d1 e_j (by decide)
                          refine lv_aload_n hx hb dX12_behindSum_111 rfl (lv_at hl 2 rfl) ?_
                          refine lv_iconst (v := 5) hx hb dX12_behindSum_112 (by decide) ?_
                          obtain ⟨hPc, hDc, hFc⟩ := g5_sub3 (wc := [(b_o, (oc12 u_th u_sa b_rf b_ro b_im b_ke u_fd b_tp u_td z299 z300 z301 z302 u_fa u_bd u_nc b_nl u_co b_op b_ar u_le b_pi b_pa u_pd u_od b_ws b_hw u_la b_se b_re u_bk u_va u_su u_ce u_ho u_wy u_bt u_ps b_pt u_tg u_sn b_ip u_ic b_ah b_be b_me u_wd b_tr b_ld u_st b_wn u_id)), (b_op, (arI G 400 v_op)), (b_ar, (arI G 400 v_ar)), (b_pi, (arI G 400 v_pi)), (b_pa, (arI G 400 v_pa))]) hP hD hS hA [4, 0, 1, 3, 2] (by decide) rfl
                          refine va_callv (va_runV (As := [.int 5]) (rest := []) ⟨hx, hb, hml, hown, hts⟩ (n_settleH l G b_o b_op b_ar b_pi b_pa b_rf b_ro b_im b_ke b_tp b_nl b_ws b_hw b_se b_re b_pt b_ip b_ah b_be b_me b_tr b_ld b_wn H.size u_th u_sa u_fd u_td z299 z300 z301 u_fa u_bd u_nc u_co u_le u_pd u_od u_la u_bk u_ce u_ho u_wy u_bt u_ps u_tg u_sn u_ic u_wd u_id 5 g_a u_fr z302 u_va u_su u_st v_op v_ar v_pi v_pa g_op g_ar h_u_td i_295 i_296 ⟨by omega, by omega⟩ h_u_nc h_u_co h_u_pd h_u_la h_u_bk h_u_ce h_u_ho h_u_wy h_u_bt h_u_ps h_u_ic h_u_id ⟨by decide, by decide⟩ (by omega) (e_x) (hE_304)) (cwV 1 hts gV_X12_288 rfl rfl rfl hv_X12_settle ⟨Nat.le_of_ble_eq_true rfl, Nat.le_of_ble_eq_true rfl⟩) (g5_preV hPc hK hDc hN hT hS hFc (ci := 12) (q0 := 0) rfl rfl) rfl rfl hl.1 rfl (lv_room (Nat.le_of_ble_eq_true rfl)) dX12_behindSum_113 ⟨Nat.le_of_ble_eq_true rfl, Nat.le_of_ble_eq_true rfl⟩) hS (fun q _ h => hFc q h) hFc (fun u t H1 locs ht hvm hw hB hz1 hk1 hS => ?_)
                          obtain ⟨hP1, hD1⟩ := hB
                          rw [ht] at hP1
                          obtain ⟨z312, z313, z314, z315, i_305, i_306, i_307, i_308, i_309, i_310, i_311, rfl⟩ := hw
                          have i_305 : 0 ≤ z312.toInt ∧ z312.toInt ≤ 400 := i_305
                          have i_306 : 0 ≤ z313.toInt ∧ z313.toInt ≤ 400 := i_306
                          have i_307 : XJ g_op g_ar z314 z315 v_pi v_pa g_a.toInt z312.toInt z313.toInt u_fr.toInt := i_307
                          have i_308 : HJ z314 z315 v_pi v_pa g_a.toInt z312.toInt z313.toInt 1 := i_308
                          have i_309 : S1 v_pi u_pd.toInt z313.toInt := i_309
                          have i_310 : S2 v_pi z313.toInt (5 : Int32).toInt := i_310
                          have i_311 : z313.toInt ≤ u_pd.toInt := i_311
                          obtain ⟨hP, hD⟩ := va_join (wr := [(b_tp, (arI G 400 v_tp))]) hP hD [4, 0, 1, 3, 2] [5] rfl rfl (by decide) (by decide) hk1 hFc hP1 hD1
                          generalize H1 = H at hP hS ⊢
                          refine g5_rs [(b_tp, (arI G 400 v_tp)), (b_o, (oc12 u_th u_sa b_rf b_ro b_im b_ke u_fd b_tp u_td z299 z300 z301 z302 u_fa u_bd u_nc b_nl z312 b_op b_ar u_le b_pi b_pa z313 u_od b_ws b_hw u_la b_se b_re u_bk u_va u_su u_ce u_ho u_wy u_bt u_ps b_pt u_tg u_sn b_ip u_ic b_ah b_be b_me u_wd b_tr b_ld u_st b_wn u_id)), (b_op, (arI G 400 z314)), (b_ar, (arI G 400 z315)), (b_pi, (arI G 400 v_pi)), (b_pa, (arI G 400 v_pa))] hP hD (fun hP hD => ?_)
                          have htp := top_sq (q' := (z313 - 1)) i_110 (by omega) i_308 (by decide) i_309 i_310
                          have htp1 := htp.1
                          refine lv_aload_n hx hb dX12_behindSum_116 rfl (lv_at hl 2 rfl) ?_
                          refine lv_dup hx hb dX12_behindSum_117 rfl ?_
                          refine va_get (D := G.1) (ci := 12) (v := .int z313) (C := RX12) (T := TX12) (N := 52) hx hb hts inG_X12 hown hK hP 1 rfl rfl 23 (by decide) (hts _ fl_X12_240) (fun _ h9 => h9) rfl dX12_behindSum_118 ?_
                          refine lv_iconst (v := 1) hx hb dX12_behindSum_121 (by decide) ?_
                          refine lv_isub hx hb dX12_behindSum_122 ?_
                          have t_317 : (z313 - 1).toInt = z313.toInt - 1 := g5_isub (a := z313.toInt) (b := 1) (by rfl) (by decide) (by omega) (by omega)
                          refine va_put (D := G.1) (ci := 12) (v := .int (z313 - 1)) (ty := .int) (C := RX12) (T := TX12) (N := 52) hx hb hts inG_X12 tyX12 tyX12_ok nmX12 hown hK hP hD hS 1 rfl rfl 23 (by decide) (hts _ fl_X12_240) (fun _ h9 => h9) rfl (by decide +kernel) rfl rfl (Nat.le_of_ble_eq_true rfl) dX12_behindSum_123 (fun H locs hP hD hS => ?_)
                          refine g5_rs [(b_tp, (arI G 400 v_tp)), (b_o, (oc12 u_th u_sa b_rf b_ro b_im b_ke u_fd b_tp u_td z299 z300 z301 z302 u_fa u_bd u_nc b_nl z312 b_op b_ar u_le b_pi b_pa (z313 - 1) u_od b_ws b_hw u_la b_se b_re u_bk u_va u_su u_ce u_ho u_wy u_bt u_ps b_pt u_tg u_sn b_ip u_ic b_ah b_be b_me u_wd b_tr b_ld u_st b_wn u_id)), (b_op, (arI G 400 z314)), (b_ar, (arI G 400 z315)), (b_pi, (arI G 400 v_pi)), (b_pa, (arI G 400 v_pa))] hP hD (fun hP hD => ?_)
                          refine lv_aload_n hx hb dX12_behindSum_126 rfl (lv_at hl 2 rfl) ?_
                          refine lv_dup hx hb dX12_behindSum_127 rfl ?_
                          refine va_get (D := G.1) (ci := 12) (v := .int u_od) (C := RX12) (T := TX12) (N := 52) hx hb hts inG_X12 hown hK hP 1 rfl rfl 24 (by decide) (hts _ fl_X12_258) (fun _ h9 => h9) rfl dX12_behindSum_128 ?_
                          refine lv_iconst (v := 1) hx hb dX12_behindSum_131 (by decide) ?_
                          refine lv_isub hx hb dX12_behindSum_132 ?_
                          refine va_put (D := G.1) (ci := 12) (v := .int (u_od - 1)) (ty := .int) (C := RX12) (T := TX12) (N := 52) hx hb hts inG_X12 tyX12 tyX12_ok nmX12 hown hK hP hD hS 1 rfl rfl 24 (by decide) (hts _ fl_X12_258) (fun _ h9 => h9) rfl (by decide +kernel) rfl rfl (Nat.le_of_ble_eq_true rfl) dX12_behindSum_133 (fun H locs hP hD hS => ?_)
                          refine g5_rs [(b_tp, (arI G 400 v_tp)), (b_o, (oc12 u_th u_sa b_rf b_ro b_im b_ke u_fd b_tp u_td z299 z300 z301 z302 u_fa u_bd u_nc b_nl z312 b_op b_ar u_le b_pi b_pa (z313 - 1) (u_od - 1) b_ws b_hw u_la b_se b_re u_bk u_va u_su u_ce u_ho u_wy u_bt u_ps b_pt u_tg u_sn b_ip u_ic b_ah b_be b_me u_wd b_tr b_ld u_st b_wn u_id)), (b_op, (arI G 400 z314)), (b_ar, (arI G 400 z315)), (b_pi, (arI G 400 v_pi)), (b_pa, (arI G 400 v_pa))] hP hD (fun hP hD => ?_)
                          refine lv_iconst (v := 3) hx hb dX12_behindSum_136 (by decide) ?_
                          exact W.iret (v := 3) hx hb hr (fun t ht hW => ⟨⟨3, [(b_o, (oc12 u_th u_sa b_rf b_ro b_im b_ke u_fd b_tp u_td z299 z300 z301 z302 u_fa u_bd u_nc b_nl z312 b_op b_ar u_le b_pi b_pa (z313 - 1) (u_od - 1) b_ws b_hw u_la b_se b_re u_bk u_va u_su u_ce u_ho u_wy u_bt u_ps b_pt u_tg u_sn b_ip u_ic b_ah b_be b_me u_wd b_tr b_ld u_st b_wn u_id)), (b_tp, (arI G 400 v_tp)), (b_op, (arI G 400 z314)), (b_ar, (arI G 400 z315)), (b_pi, (arI G 400 v_pi)), (b_pa, (arI G 400 v_pa))], rfl, Or.inr (⟨3, z299, z300, z301, z302, z312, (z313 - 1), (u_od - 1), z314, z315, v_pi, v_pa, i_295, i_296, i_305, ⟨by omega, by omega⟩, ⟨by have zc_o_r : (3 : Int32).toInt = 3 := (by decide); omega, by have zc_o_r : (3 : Int32).toInt = 3 := (by decide); omega⟩, by omega, i_298, xj_up (xj_popB i_307 htp1 (by omega)) (by omega), tj_3 (hj_popB i_308 htp1 (by omega) (htp.2 (by omega))) (by decide), by have w9 := (twt_3 (by decide) : twt (3 : Int32).toInt = 2); omega, rfl, rfl⟩), by rw [ht]; exact hP.sub [1, 0, 2, 3, 4, 5] rfl, hD.sub [1, 0, 2, 3, 4, 5] (by decide) rfl⟩, hS.F ht⟩) hS.2.2 dX12_behindSum_137
                      ·
                        obtain ⟨hP, hD⟩ := va_join (wr := [(b_tp, (arI G 400 v_tp)), (b_op, (arI G 400 v_op)), (b_ar, (arI G 400 v_ar)), (b_pa, (arI G 400 v_pa)), (b_pi, (arI G 400 v_pi))]) hP hD [4] [0, 1, 2, 3, 5] rfl rfl (by decide) (by decide) hk1 hFc hP1 hD1
                        generalize H1 = H at hP hS ⊢
                        refine g5_rs [(b_tp, (arI G 400 v_tp)), (b_op, (arI G 400 v_op)), (b_ar, (arI G 400 v_ar)), (b_pa, (arI G 400 v_pa)), (b_pi, (arI G 400 v_pi)), (b_o, (oc12 u_th u_sa b_rf b_ro b_im b_ke u_fd b_tp u_td u_fr u_to u_so u_wo u_fa u_bd u_nc b_nl u_co b_op b_ar u_le b_pi b_pa u_pd u_od b_ws b_hw u_la b_se b_re u_bk u_va u_su u_ce u_ho u_wy u_bt u_ps b_pt u_tg u_sn b_ip u_ic b_ah b_be b_me u_wd b_tr b_ld u_st b_wn u_id))] hP hD (fun hP hD => ?_)
                        obtain ⟨hPc, hDc, hFc⟩ := g5_sub3 (wc := [(b_o, (oc12 u_th u_sa b_rf b_ro b_im b_ke u_fd b_tp u_td u_fr u_to u_so u_wo u_fa u_bd u_nc b_nl u_co b_op b_ar u_le b_pi b_pa u_pd u_od b_ws b_hw u_la b_se b_re u_bk u_va u_su u_ce u_ho u_wy u_bt u_ps b_pt u_tg u_sn b_ip u_ic b_ah b_be b_me u_wd b_tr b_ld u_st b_wn u_id)), (b_tp, (arI G 400 v_tp))]) hP hD hS hA [5, 0] (by decide) rfl
                        refine va_callv (va_runV (As := [.int 0]) (rest := []) ⟨hx, hb, hml, hown, hts⟩ (n_must0 l G b_o b_tp b_rf b_ro b_im b_ke b_nl b_op b_ar b_pi b_pa b_ws b_hw b_se b_re b_pt b_ip b_ah b_be b_me b_tr b_ld b_wn H.size u_th u_sa u_fd u_td u_fr u_to u_so u_fa u_bd u_nc u_co u_le u_pd u_od u_la u_bk u_ce u_ho u_wy u_bt u_ps u_tg u_sn u_ic u_wd u_id u_wo u_va u_su u_st v_tp h_u_td h_u_fr h_u_to h_u_bd h_u_nc h_u_co h_u_pd h_u_la h_u_bk h_u_ce h_u_ho h_u_wy h_u_bt h_u_ps h_u_ic h_u_id) (cwV 1 hts gV_X12_233 rfl rfl rfl hv_X12_must ⟨Nat.le_of_ble_eq_true rfl, Nat.le_of_ble_eq_true rfl⟩) (g5_preV hPc hK hDc hN hT hS hFc (ci := 12) (q0 := 0) rfl rfl) rfl rfl hl.1 rfl (lv_room (Nat.le_of_ble_eq_true rfl)) dX12_behindSum_101 ⟨Nat.le_of_ble_eq_true rfl, Nat.le_of_ble_eq_true rfl⟩) hS (fun q _ h => hFc q h) hFc (fun u t H1 locs ht hvm hw hB hz1 hk1 hS => ?_)
                        obtain ⟨hP1, hD1⟩ := hB
                        rw [ht] at hP1
                        obtain rfl := hw
                        obtain ⟨hP, hD⟩ := va_join (wr := [(b_op, (arI G 400 v_op)), (b_ar, (arI G 400 v_ar)), (b_pa, (arI G 400 v_pa)), (b_pi, (arI G 400 v_pi))]) hP hD [5, 0] [1, 2, 3, 4] rfl rfl (by decide) (by decide) hk1 hFc hP1 hD1
                        generalize H1 = H at hP hS ⊢
                        refine g5_rs [(b_op, (arI G 400 v_op)), (b_ar, (arI G 400 v_ar)), (b_pa, (arI G 400 v_pa)), (b_pi, (arI G 400 v_pi)), (b_o, (oc12 u_th u_sa b_rf b_ro b_im b_ke u_fd b_tp u_td u_fr u_to u_so u_wo u_fr 1 u_nc b_nl u_co b_op b_ar u_le b_pi b_pa u_pd u_od b_ws b_hw u_la b_se b_re u_bk u_va u_su u_ce u_ho u_wy u_bt u_ps b_pt u_tg u_sn b_ip u_ic b_ah b_be b_me u_wd b_tr b_ld u_st b_wn u_id)), (b_tp, (arI G 400 v_tp))] hP hD (fun hP hD => ?_)
                        refine lv_aload_n hx hb dX12_behindSum_104 rfl (lv_at hl 2 rfl) ?_
                        refine va_get (D := G.1) (ci := 12) (v := .int 1) (C := RX12) (T := TX12) (N := 52) hx hb hts inG_X12 hown hK hP 4 rfl rfl 14 (by decide) (hts _ fl_X12_205) (fun _ h9 => h9) rfl dX12_behindSum_105 ?_
                        refine lv_if_ne (tgt := 136) hx hb dX12_behindSum_108 (by decide) (fun c_318 => ?_) (fun c_318 => ?_)
                        ·
                          refine lv_iconst (v := 3) hx hb dX12_behindSum_136 (by decide) ?_
                          exact W.iret (v := 3) hx hb hr (fun t ht hW => ⟨⟨3, [(b_o, (oc12 u_th u_sa b_rf b_ro b_im b_ke u_fd b_tp u_td u_fr u_to u_so u_wo u_fr 1 u_nc b_nl u_co b_op b_ar u_le b_pi b_pa u_pd u_od b_ws b_hw u_la b_se b_re u_bk u_va u_su u_ce u_ho u_wy u_bt u_ps b_pt u_tg u_sn b_ip u_ic b_ah b_be b_me u_wd b_tr b_ld u_st b_wn u_id)), (b_tp, (arI G 400 v_tp)), (b_op, (arI G 400 v_op)), (b_ar, (arI G 400 v_ar)), (b_pi, (arI G 400 v_pi)), (b_pa, (arI G 400 v_pa))], rfl, Or.inl (⟨3, ⟨by have zc_o_r : (3 : Int32).toInt = 3 := (by decide); omega, by have zc_o_r : (3 : Int32).toInt = 3 := (by decide); omega⟩, rfl, rfl⟩), by rw [ht]; exact hP.sub [4, 5, 0, 1, 3, 2] rfl, hD.sub [4, 5, 0, 1, 3, 2] (by decide) rfl⟩, hS.F ht⟩) hS.2.2 dX12_behindSum_137
                        ·
                          exact absurd c_318 (by decide)
                  ·
                    exact absurd c_109 (by decide)
                ·
                  exact absurd c_108 (by decide)
            ·
              exact absurd c_81 (by decide)
        ·
          exact absurd c_54 (by decide)
    ·
      exact absurd c_27 (by decide)
theorem dgX12_behindTest_0 : ∀ r ∈ ([(0, (.aload_n 0, 1)), (1, (.ldc2_w 298, 3)), (4, (.invokevirtual 254, 3)), (7, (.istore_n 1, 1)), (8, (.iload_n 1, 1)), (9, (.ifCond .ne 13, 3)), (12, (.aload_n 0, 1)), (13, (.ldc2_w 300, 3)), (16, (.invokevirtual 254, 3)), (19, (.ifCond .eq 57, 3)), (22, (.aload_n 0, 1)), (23, (.iload_n 1, 1)), (24, (.ifCond .eq 7, 3)), (27, (.iconst 2, 1)), (28, (.goto 4, 3)), (31, (.iconst 1, 1)), (32, (.invokevirtual 288, 3)), (35, (.aload_n 0, 1)), (36, (.iload_n 1, 1)), (37, (.ifCond .eq 8, 3)), (40, (.bipush 28, 2)), (42, (.goto 5, 3)), (45, (.bipush 29, 2)), (47, (.aload_n 0, 1)), (48, (.getfield 237, 3)), (51, (.invokevirtual 261, 3)), (54, (.aload_n 0, 1)), (55, (.iload_n 1, 1)), (56, (.ifCond .eq 8, 3)), (59, (.bipush 28, 2)), (61, (.goto 5, 3)), (64, (.bipush 29, 2)), (66, (.iconst 0, 1)), (67, (.invokevirtual 246, 3)), (70, (.aload_n 0, 1)), (71, (.invokevirtual 208, 3)), (74, (.iconst 0, 1)), (75, (.ireturn, 1)), (76, (.aload_n 0, 1)), (77, (.invokevirtual 291, 3))] : List (Nat × (Instr × Nat))), decode cX12_behindTest r.1 = .ok r.2 := by decide +kernel
theorem dX12_behindTest_0 : decode cX12_behindTest 0 = .ok (.aload_n 0, 1) := dgX12_behindTest_0 (0, (.aload_n 0, 1)) (List.mem_of_getElem? (i := 0) rfl)
theorem dX12_behindTest_1 : decode cX12_behindTest 1 = .ok (.ldc2_w 298, 3) := dgX12_behindTest_0 (1, (.ldc2_w 298, 3)) (List.mem_of_getElem? (i := 1) rfl)
theorem dX12_behindTest_4 : decode cX12_behindTest 4 = .ok (.invokevirtual 254, 3) := dgX12_behindTest_0 (4, (.invokevirtual 254, 3)) (List.mem_of_getElem? (i := 2) rfl)
theorem dX12_behindTest_7 : decode cX12_behindTest 7 = .ok (.istore_n 1, 1) := dgX12_behindTest_0 (7, (.istore_n 1, 1)) (List.mem_of_getElem? (i := 3) rfl)
theorem dX12_behindTest_8 : decode cX12_behindTest 8 = .ok (.iload_n 1, 1) := dgX12_behindTest_0 (8, (.iload_n 1, 1)) (List.mem_of_getElem? (i := 4) rfl)
theorem dX12_behindTest_9 : decode cX12_behindTest 9 = .ok (.ifCond .ne 13, 3) := dgX12_behindTest_0 (9, (.ifCond .ne 13, 3)) (List.mem_of_getElem? (i := 5) rfl)
theorem dX12_behindTest_12 : decode cX12_behindTest 12 = .ok (.aload_n 0, 1) := dgX12_behindTest_0 (12, (.aload_n 0, 1)) (List.mem_of_getElem? (i := 6) rfl)
theorem dX12_behindTest_13 : decode cX12_behindTest 13 = .ok (.ldc2_w 300, 3) := dgX12_behindTest_0 (13, (.ldc2_w 300, 3)) (List.mem_of_getElem? (i := 7) rfl)
theorem dX12_behindTest_16 : decode cX12_behindTest 16 = .ok (.invokevirtual 254, 3) := dgX12_behindTest_0 (16, (.invokevirtual 254, 3)) (List.mem_of_getElem? (i := 8) rfl)
theorem dX12_behindTest_19 : decode cX12_behindTest 19 = .ok (.ifCond .eq 57, 3) := dgX12_behindTest_0 (19, (.ifCond .eq 57, 3)) (List.mem_of_getElem? (i := 9) rfl)
theorem dX12_behindTest_22 : decode cX12_behindTest 22 = .ok (.aload_n 0, 1) := dgX12_behindTest_0 (22, (.aload_n 0, 1)) (List.mem_of_getElem? (i := 10) rfl)
theorem dX12_behindTest_23 : decode cX12_behindTest 23 = .ok (.iload_n 1, 1) := dgX12_behindTest_0 (23, (.iload_n 1, 1)) (List.mem_of_getElem? (i := 11) rfl)
theorem dX12_behindTest_24 : decode cX12_behindTest 24 = .ok (.ifCond .eq 7, 3) := dgX12_behindTest_0 (24, (.ifCond .eq 7, 3)) (List.mem_of_getElem? (i := 12) rfl)
theorem dX12_behindTest_27 : decode cX12_behindTest 27 = .ok (.iconst 2, 1) := dgX12_behindTest_0 (27, (.iconst 2, 1)) (List.mem_of_getElem? (i := 13) rfl)
theorem dX12_behindTest_28 : decode cX12_behindTest 28 = .ok (.goto 4, 3) := dgX12_behindTest_0 (28, (.goto 4, 3)) (List.mem_of_getElem? (i := 14) rfl)
theorem dX12_behindTest_31 : decode cX12_behindTest 31 = .ok (.iconst 1, 1) := dgX12_behindTest_0 (31, (.iconst 1, 1)) (List.mem_of_getElem? (i := 15) rfl)
theorem dX12_behindTest_32 : decode cX12_behindTest 32 = .ok (.invokevirtual 288, 3) := dgX12_behindTest_0 (32, (.invokevirtual 288, 3)) (List.mem_of_getElem? (i := 16) rfl)
theorem dX12_behindTest_35 : decode cX12_behindTest 35 = .ok (.aload_n 0, 1) := dgX12_behindTest_0 (35, (.aload_n 0, 1)) (List.mem_of_getElem? (i := 17) rfl)
theorem dX12_behindTest_36 : decode cX12_behindTest 36 = .ok (.iload_n 1, 1) := dgX12_behindTest_0 (36, (.iload_n 1, 1)) (List.mem_of_getElem? (i := 18) rfl)
theorem dX12_behindTest_37 : decode cX12_behindTest 37 = .ok (.ifCond .eq 8, 3) := dgX12_behindTest_0 (37, (.ifCond .eq 8, 3)) (List.mem_of_getElem? (i := 19) rfl)
theorem dX12_behindTest_40 : decode cX12_behindTest 40 = .ok (.bipush 28, 2) := dgX12_behindTest_0 (40, (.bipush 28, 2)) (List.mem_of_getElem? (i := 20) rfl)
theorem dX12_behindTest_42 : decode cX12_behindTest 42 = .ok (.goto 5, 3) := dgX12_behindTest_0 (42, (.goto 5, 3)) (List.mem_of_getElem? (i := 21) rfl)
theorem dX12_behindTest_45 : decode cX12_behindTest 45 = .ok (.bipush 29, 2) := dgX12_behindTest_0 (45, (.bipush 29, 2)) (List.mem_of_getElem? (i := 22) rfl)
theorem dX12_behindTest_47 : decode cX12_behindTest 47 = .ok (.aload_n 0, 1) := dgX12_behindTest_0 (47, (.aload_n 0, 1)) (List.mem_of_getElem? (i := 23) rfl)
theorem dX12_behindTest_48 : decode cX12_behindTest 48 = .ok (.getfield 237, 3) := dgX12_behindTest_0 (48, (.getfield 237, 3)) (List.mem_of_getElem? (i := 24) rfl)
theorem dX12_behindTest_51 : decode cX12_behindTest 51 = .ok (.invokevirtual 261, 3) := dgX12_behindTest_0 (51, (.invokevirtual 261, 3)) (List.mem_of_getElem? (i := 25) rfl)
theorem dX12_behindTest_54 : decode cX12_behindTest 54 = .ok (.aload_n 0, 1) := dgX12_behindTest_0 (54, (.aload_n 0, 1)) (List.mem_of_getElem? (i := 26) rfl)
theorem dX12_behindTest_55 : decode cX12_behindTest 55 = .ok (.iload_n 1, 1) := dgX12_behindTest_0 (55, (.iload_n 1, 1)) (List.mem_of_getElem? (i := 27) rfl)
theorem dX12_behindTest_56 : decode cX12_behindTest 56 = .ok (.ifCond .eq 8, 3) := dgX12_behindTest_0 (56, (.ifCond .eq 8, 3)) (List.mem_of_getElem? (i := 28) rfl)
theorem dX12_behindTest_59 : decode cX12_behindTest 59 = .ok (.bipush 28, 2) := dgX12_behindTest_0 (59, (.bipush 28, 2)) (List.mem_of_getElem? (i := 29) rfl)
theorem dX12_behindTest_61 : decode cX12_behindTest 61 = .ok (.goto 5, 3) := dgX12_behindTest_0 (61, (.goto 5, 3)) (List.mem_of_getElem? (i := 30) rfl)
theorem dX12_behindTest_64 : decode cX12_behindTest 64 = .ok (.bipush 29, 2) := dgX12_behindTest_0 (64, (.bipush 29, 2)) (List.mem_of_getElem? (i := 31) rfl)
theorem dX12_behindTest_66 : decode cX12_behindTest 66 = .ok (.iconst 0, 1) := dgX12_behindTest_0 (66, (.iconst 0, 1)) (List.mem_of_getElem? (i := 32) rfl)
theorem dX12_behindTest_67 : decode cX12_behindTest 67 = .ok (.invokevirtual 246, 3) := dgX12_behindTest_0 (67, (.invokevirtual 246, 3)) (List.mem_of_getElem? (i := 33) rfl)
theorem dX12_behindTest_70 : decode cX12_behindTest 70 = .ok (.aload_n 0, 1) := dgX12_behindTest_0 (70, (.aload_n 0, 1)) (List.mem_of_getElem? (i := 34) rfl)
theorem dX12_behindTest_71 : decode cX12_behindTest 71 = .ok (.invokevirtual 208, 3) := dgX12_behindTest_0 (71, (.invokevirtual 208, 3)) (List.mem_of_getElem? (i := 35) rfl)
theorem dX12_behindTest_74 : decode cX12_behindTest 74 = .ok (.iconst 0, 1) := dgX12_behindTest_0 (74, (.iconst 0, 1)) (List.mem_of_getElem? (i := 36) rfl)
theorem dX12_behindTest_75 : decode cX12_behindTest 75 = .ok (.ireturn, 1) := dgX12_behindTest_0 (75, (.ireturn, 1)) (List.mem_of_getElem? (i := 37) rfl)
theorem dX12_behindTest_76 : decode cX12_behindTest 76 = .ok (.aload_n 0, 1) := dgX12_behindTest_0 (76, (.aload_n 0, 1)) (List.mem_of_getElem? (i := 38) rfl)
theorem dX12_behindTest_77 : decode cX12_behindTest 77 = .ok (.invokevirtual 291, 3) := dgX12_behindTest_0 (77, (.invokevirtual 291, 3)) (List.mem_of_getElem? (i := 39) rfl)
theorem dgX12_behindTest_1 : ∀ r ∈ ([(80, (.iconst (-1), 1)), (81, (.if_icmp .ne 5, 3)), (84, (.iconst 4, 1)), (85, (.ireturn, 1)), (86, (.aload_n 0, 1)), (87, (.aload_n 0, 1)), (88, (.bipush 41, 2)), (90, (.invokevirtual 267, 3)), (93, (.invokevirtual 233, 3)), (96, (.aload_n 0, 1)), (97, (.getfield 205, 3)), (100, (.ifCond .ne 28, 3)), (103, (.aload_n 0, 1)), (104, (.iconst 1, 1)), (105, (.invokevirtual 288, 3)), (108, (.aload_n 0, 1)), (109, (.dup, 1)), (110, (.getfield 240, 3)), (113, (.iconst 1, 1)), (114, (.isub, 1)), (115, (.putfield 240, 3)), (118, (.aload_n 0, 1)), (119, (.dup, 1)), (120, (.getfield 258, 3)), (123, (.iconst 1, 1)), (124, (.isub, 1)), (125, (.putfield 258, 3)), (128, (.iconst 2, 1)), (129, (.ireturn, 1))] : List (Nat × (Instr × Nat))), decode cX12_behindTest r.1 = .ok r.2 := by decide +kernel
theorem dX12_behindTest_80 : decode cX12_behindTest 80 = .ok (.iconst (-1), 1) := dgX12_behindTest_1 (80, (.iconst (-1), 1)) (List.mem_of_getElem? (i := 0) rfl)
theorem dX12_behindTest_81 : decode cX12_behindTest 81 = .ok (.if_icmp .ne 5, 3) := dgX12_behindTest_1 (81, (.if_icmp .ne 5, 3)) (List.mem_of_getElem? (i := 1) rfl)
theorem dX12_behindTest_84 : decode cX12_behindTest 84 = .ok (.iconst 4, 1) := dgX12_behindTest_1 (84, (.iconst 4, 1)) (List.mem_of_getElem? (i := 2) rfl)
theorem dX12_behindTest_85 : decode cX12_behindTest 85 = .ok (.ireturn, 1) := dgX12_behindTest_1 (85, (.ireturn, 1)) (List.mem_of_getElem? (i := 3) rfl)
theorem dX12_behindTest_86 : decode cX12_behindTest 86 = .ok (.aload_n 0, 1) := dgX12_behindTest_1 (86, (.aload_n 0, 1)) (List.mem_of_getElem? (i := 4) rfl)
theorem dX12_behindTest_87 : decode cX12_behindTest 87 = .ok (.aload_n 0, 1) := dgX12_behindTest_1 (87, (.aload_n 0, 1)) (List.mem_of_getElem? (i := 5) rfl)
theorem dX12_behindTest_88 : decode cX12_behindTest 88 = .ok (.bipush 41, 2) := dgX12_behindTest_1 (88, (.bipush 41, 2)) (List.mem_of_getElem? (i := 6) rfl)
theorem dX12_behindTest_90 : decode cX12_behindTest 90 = .ok (.invokevirtual 267, 3) := dgX12_behindTest_1 (90, (.invokevirtual 267, 3)) (List.mem_of_getElem? (i := 7) rfl)
theorem dX12_behindTest_93 : decode cX12_behindTest 93 = .ok (.invokevirtual 233, 3) := dgX12_behindTest_1 (93, (.invokevirtual 233, 3)) (List.mem_of_getElem? (i := 8) rfl)
theorem dX12_behindTest_96 : decode cX12_behindTest 96 = .ok (.aload_n 0, 1) := dgX12_behindTest_1 (96, (.aload_n 0, 1)) (List.mem_of_getElem? (i := 9) rfl)
theorem dX12_behindTest_97 : decode cX12_behindTest 97 = .ok (.getfield 205, 3) := dgX12_behindTest_1 (97, (.getfield 205, 3)) (List.mem_of_getElem? (i := 10) rfl)
theorem dX12_behindTest_100 : decode cX12_behindTest 100 = .ok (.ifCond .ne 28, 3) := dgX12_behindTest_1 (100, (.ifCond .ne 28, 3)) (List.mem_of_getElem? (i := 11) rfl)
theorem dX12_behindTest_103 : decode cX12_behindTest 103 = .ok (.aload_n 0, 1) := dgX12_behindTest_1 (103, (.aload_n 0, 1)) (List.mem_of_getElem? (i := 12) rfl)
theorem dX12_behindTest_104 : decode cX12_behindTest 104 = .ok (.iconst 1, 1) := dgX12_behindTest_1 (104, (.iconst 1, 1)) (List.mem_of_getElem? (i := 13) rfl)
theorem dX12_behindTest_105 : decode cX12_behindTest 105 = .ok (.invokevirtual 288, 3) := dgX12_behindTest_1 (105, (.invokevirtual 288, 3)) (List.mem_of_getElem? (i := 14) rfl)
theorem dX12_behindTest_108 : decode cX12_behindTest 108 = .ok (.aload_n 0, 1) := dgX12_behindTest_1 (108, (.aload_n 0, 1)) (List.mem_of_getElem? (i := 15) rfl)
theorem dX12_behindTest_109 : decode cX12_behindTest 109 = .ok (.dup, 1) := dgX12_behindTest_1 (109, (.dup, 1)) (List.mem_of_getElem? (i := 16) rfl)
theorem dX12_behindTest_110 : decode cX12_behindTest 110 = .ok (.getfield 240, 3) := dgX12_behindTest_1 (110, (.getfield 240, 3)) (List.mem_of_getElem? (i := 17) rfl)
theorem dX12_behindTest_113 : decode cX12_behindTest 113 = .ok (.iconst 1, 1) := dgX12_behindTest_1 (113, (.iconst 1, 1)) (List.mem_of_getElem? (i := 18) rfl)
theorem dX12_behindTest_114 : decode cX12_behindTest 114 = .ok (.isub, 1) := dgX12_behindTest_1 (114, (.isub, 1)) (List.mem_of_getElem? (i := 19) rfl)
theorem dX12_behindTest_115 : decode cX12_behindTest 115 = .ok (.putfield 240, 3) := dgX12_behindTest_1 (115, (.putfield 240, 3)) (List.mem_of_getElem? (i := 20) rfl)
theorem dX12_behindTest_118 : decode cX12_behindTest 118 = .ok (.aload_n 0, 1) := dgX12_behindTest_1 (118, (.aload_n 0, 1)) (List.mem_of_getElem? (i := 21) rfl)
theorem dX12_behindTest_119 : decode cX12_behindTest 119 = .ok (.dup, 1) := dgX12_behindTest_1 (119, (.dup, 1)) (List.mem_of_getElem? (i := 22) rfl)
theorem dX12_behindTest_120 : decode cX12_behindTest 120 = .ok (.getfield 258, 3) := dgX12_behindTest_1 (120, (.getfield 258, 3)) (List.mem_of_getElem? (i := 23) rfl)
theorem dX12_behindTest_123 : decode cX12_behindTest 123 = .ok (.iconst 1, 1) := dgX12_behindTest_1 (123, (.iconst 1, 1)) (List.mem_of_getElem? (i := 24) rfl)
theorem dX12_behindTest_124 : decode cX12_behindTest 124 = .ok (.isub, 1) := dgX12_behindTest_1 (124, (.isub, 1)) (List.mem_of_getElem? (i := 25) rfl)
theorem dX12_behindTest_125 : decode cX12_behindTest 125 = .ok (.putfield 258, 3) := dgX12_behindTest_1 (125, (.putfield 258, 3)) (List.mem_of_getElem? (i := 26) rfl)
theorem dX12_behindTest_128 : decode cX12_behindTest 128 = .ok (.iconst 2, 1) := dgX12_behindTest_1 (128, (.iconst 2, 1)) (List.mem_of_getElem? (i := 27) rfl)
theorem dX12_behindTest_129 : decode cX12_behindTest 129 = .ok (.ireturn, 1) := dgX12_behindTest_1 (129, (.ireturn, 1)) (List.mem_of_getElem? (i := 28) rfl)
theorem kl_X12_298 : Cond.constantLong RX12 298 1476 ∈ tblG := tg 1592 (by decide +kernel) (by decide +kernel)
theorem kl_X12_300 : Cond.constantLong RX12 300 498 ∈ tblG := tg 1593 (by decide +kernel) (by decide +kernel)
set_option maxHeartbeats 4000000 in
set_option maxRecDepth 100000 in
theorem n_behindTest (l : Launch) (G : g5_G) (b_o b_tp b_op b_ar b_pi b_pa b_rf b_ro b_im b_ke b_nl b_ws b_hw b_se b_re b_pt b_ip b_ah b_be b_me b_tr b_ld b_wn : Nat) (sz : Nat) (u_th : Int32) (u_sa : Int32) (u_fd : Int32) (u_td : Int32) (u_fr : Int32) (u_to : Int32) (u_so : Int32) (u_fa : Int32) (u_bd : Int32) (u_nc : Int32) (u_co : Int32) (u_le : Int32) (u_pd : Int32) (u_od : Int32) (u_la : Int32) (u_bk : Int32) (u_ce : Int32) (u_ho : Int32) (u_wy : Int32) (u_bt : Int32) (u_ps : Int32) (u_tg : Int32) (u_sn : Int32) (u_ic : Int32) (u_wd : Int32) (u_id : Int32) (g_a : Int32) (u_wo : Int64) (u_va : Int64) (u_su : Int64) (u_st : Int64) (v_tp : Nat → Int32) (v_op : Nat → Int32) (v_ar : Nat → Int32) (v_pi : Nat → Int32) (v_pa : Nat → Int32) (g_op : Nat → Int32) (g_ar : Nat → Int32) (h_u_td : 0 ≤ u_td.toInt ∧ u_td.toInt ≤ 400) (h_u_fr : 0 ≤ u_fr.toInt ∧ u_fr.toInt ≤ 400) (h_u_to : 0 ≤ u_to.toInt ∧ u_to.toInt ≤ 400) (h_u_bd : 0 ≤ u_bd.toInt ∧ u_bd.toInt ≤ 0) (h_u_nc : 0 ≤ u_nc.toInt ∧ u_nc.toInt ≤ 12) (h_u_co : 0 ≤ u_co.toInt ∧ u_co.toInt ≤ 400) (h_u_pd : 0 ≤ u_pd.toInt ∧ u_pd.toInt ≤ 400) (h_u_la : 0 ≤ u_la.toInt ∧ u_la.toInt ≤ 4840) (h_u_bk : 0 ≤ u_bk.toInt ∧ u_bk.toInt ≤ 1) (h_u_ce : 0 ≤ u_ce.toInt ∧ u_ce.toInt ≤ 63) (h_u_ho : 0 ≤ u_ho.toInt ∧ u_ho.toInt ≤ 23) (h_u_wy : 0 ≤ u_wy.toInt ∧ u_wy.toInt ≤ 3) (h_u_bt : 0 ≤ u_bt.toInt ∧ u_bt.toInt ≤ 1000000) (h_u_ps : 0 ≤ u_ps.toInt ∧ u_ps.toInt ≤ 200) (h_u_ic : 0 ≤ u_ic.toInt ∧ u_ic.toInt ≤ 1) (h_u_id : 0 ≤ u_id.toInt ∧ u_id.toInt ≤ 1) (e_t : u_fr.toInt ≤ u_to.toInt ∧ u_to.toInt ≤ u_td.toInt) (e_s : TKs u_so.toInt u_fr.toInt u_to.toInt) (e_x : XJ g_op g_ar v_op v_ar v_pi v_pa g_a.toInt u_co.toInt u_pd.toInt u_fr.toInt) (e_j : TJ v_op v_ar v_pi v_pa g_a.toInt u_co.toInt u_pd.toInt 2) : Met l yX12_behindTest (wsG yX12_behindTest cX12_behindTest 2 (some .int)) ({ frames := 3, cells := 0, slots := 0, locals := 61 }) (va_Pc [.ref b_o] (g5_P G [(b_o, (oc12 u_th u_sa b_rf b_ro b_im b_ke u_fd b_tp u_td u_fr u_to u_so u_wo u_fa u_bd u_nc b_nl u_co b_op b_ar u_le b_pi b_pa u_pd u_od b_ws b_hw u_la b_se b_re u_bk u_va u_su u_ce u_ho u_wy u_bt u_ps b_pt u_tg u_sn b_ip u_ic b_ah b_be b_me u_wd b_tr b_ld u_st b_wn u_id)), (b_tp, (arI G 400 v_tp)), (b_op, (arI G 400 v_op)), (b_ar, (arI G 400 v_ar)), (b_pi, (arI G 400 v_pi)), (b_pa, (arI G 400 v_pa))] sz)) (va_Qi (fun (r : Int32) (u : va_W) => (∃ (o_r : Int32), (0 ≤ o_r.toInt ∧ o_r.toInt ≤ 4) ∧ (r = o_r) ∧ (u = [(b_o, (oc12 u_th u_sa b_rf b_ro b_im b_ke u_fd b_tp u_td u_fr u_to u_so u_wo u_fr 1 u_nc b_nl u_co b_op b_ar u_le b_pi b_pa u_pd u_od b_ws b_hw u_la b_se b_re u_bk u_va u_su u_ce u_ho u_wy u_bt u_ps b_pt u_tg u_sn b_ip u_ic b_ah b_be b_me u_wd b_tr b_ld u_st b_wn u_id)), (b_tp, (arI G 400 v_tp)), (b_op, (arI G 400 v_op)), (b_ar, (arI G 400 v_ar)), (b_pi, (arI G 400 v_pi)), (b_pa, (arI G 400 v_pa))])) ∨ (∃ (o_r : Int32) (o_fr : Int32) (o_to : Int32) (o_so : Int32) (o_wo : Int64) (o_co : Int32) (o_pd : Int32) (o_od : Int32) (o_op : Nat → Int32) (o_ar : Nat → Int32) (o_pi : Nat → Int32) (o_pa : Nat → Int32), (0 ≤ o_fr.toInt ∧ o_fr.toInt ≤ 400) ∧ (0 ≤ o_to.toInt ∧ o_to.toInt ≤ 400) ∧ (0 ≤ o_co.toInt ∧ o_co.toInt ≤ 400) ∧ (0 ≤ o_pd.toInt ∧ o_pd.toInt ≤ 400) ∧ (0 ≤ o_r.toInt ∧ o_r.toInt ≤ 4) ∧ (u_fr.toInt ≤ o_fr.toInt ∧ o_fr.toInt ≤ o_to.toInt ∧ o_to.toInt ≤ u_td.toInt) ∧ (TKs o_so.toInt o_fr.toInt o_to.toInt) ∧ (XJ g_op g_ar o_op o_ar o_pi o_pa g_a.toInt o_co.toInt o_pd.toInt o_fr.toInt) ∧ (TJ o_op o_ar o_pi o_pa g_a.toInt o_co.toInt o_pd.toInt o_r.toInt) ∧ (twt o_r.toInt + 1 ≤ 1 + 3 * (o_fr.toInt - u_fr.toInt)) ∧ (r = o_r) ∧ (u = [(b_o, (oc12 u_th u_sa b_rf b_ro b_im b_ke u_fd b_tp u_td o_fr o_to o_so o_wo u_fa u_bd u_nc b_nl o_co b_op b_ar u_le b_pi b_pa o_pd o_od b_ws b_hw u_la b_se b_re u_bk u_va u_su u_ce u_ho u_wy u_bt u_ps b_pt u_tg u_sn b_ip u_ic b_ah b_be b_me u_wd b_tr b_ld u_st b_wn u_id)), (b_tp, (arI G 400 v_tp)), (b_op, (arI G 400 o_op)), (b_ar, (arI G 400 o_ar)), (b_pi, (arI G 400 o_pi)), (b_pa, (arI G 400 o_pa))]))) (g5_B G (va_A [(b_o, (oc12 u_th u_sa b_rf b_ro b_im b_ke u_fd b_tp u_td u_fr u_to u_so u_wo u_fa u_bd u_nc b_nl u_co b_op b_ar u_le b_pi b_pa u_pd u_od b_ws b_hw u_la b_se b_re u_bk u_va u_su u_ce u_ho u_wy u_bt u_ps b_pt u_tg u_sn b_ip u_ic b_ah b_be b_me u_wd b_tr b_ld u_st b_wn u_id)), (b_tp, (arI G 400 v_tp)), (b_op, (arI G 400 v_op)), (b_ar, (arI G 400 v_ar)), (b_pi, (arI G 400 v_pi)), (b_pa, (arI G 400 v_pa))] sz)) (va_A [(b_o, (oc12 u_th u_sa b_rf b_ro b_im b_ke u_fd b_tp u_td u_fr u_to u_so u_wo u_fa u_bd u_nc b_nl u_co b_op b_ar u_le b_pi b_pa u_pd u_od b_ws b_hw u_la b_se b_re u_bk u_va u_su u_ce u_ho u_wy u_bt u_ps b_pt u_tg u_sn b_ip u_ic b_ah b_be b_me u_wd b_tr b_ld u_st b_wn u_id)), (b_tp, (arI G 400 v_tp)), (b_op, (arI G 400 v_op)), (b_ar, (arI G 400 v_ar)), (b_pi, (arI G 400 v_pi)), (b_pa, (arI G 400 v_pa))] sz)) 0 0 (va_A [(b_o, (oc12 u_th u_sa b_rf b_ro b_im b_ke u_fd b_tp u_td u_fr u_to u_so u_wo u_fa u_bd u_nc b_nl u_co b_op b_ar u_le b_pi b_pa u_pd u_od b_ws b_hw u_la b_se b_re u_bk u_va u_su u_ce u_ho u_wy u_bt u_ps b_pt u_tg u_sn b_ip u_ic b_ah b_be b_me u_wd b_tr b_ld u_st b_wn u_id)), (b_tp, (arI G 400 v_tp)), (b_op, (arI G 400 v_op)), (b_ar, (arI G 400 v_ar)), (b_pi, (arI G 400 v_pi)), (b_pa, (arI G 400 v_pa))] sz) := by
  refine Met.ofW (cc := cX12_behindTest) (maxL := 2) (ret := (some .int)) (by decide) rfl ?_
  intro p e s m args below meth c s₁ B hml hv
  obtain ⟨rfl, hsz, hP, hK, hD0, hN, hT⟩ := hv
  have hx := B.exec
  have hb := B.bytes
  have hr := B.returns
  have hts : ∀ w ∈ tblG, w.before _ s = true := fun w h => atoms_spec (ws := (wsG yX12_behindTest cX12_behindTest 2 (some .int))) B.pre w (List.mem_cons_of_mem _ h)
  have hown : s.vm.findClass RX12 = some m.cls := findClass_of_methodNamed B.named
  have hlocks := B.notSynchronized
  subst hsz
  have hD := hD0.self (sz := s.heap.size)
  generalize hAe : va_A [(b_o, (oc12 u_th u_sa b_rf b_ro b_im b_ke u_fd b_tp u_td u_fr u_to u_so u_wo u_fa u_bd u_nc b_nl u_co b_op b_ar u_le b_pi b_pa u_pd u_od b_ws b_hw u_la b_se b_re u_bk u_va u_su u_ce u_ho u_wy u_bt u_ps b_pt u_tg u_sn b_ip u_ic b_ah b_be b_me u_wd b_tr b_ld u_st b_wn u_id)), (b_tp, (arI G 400 v_tp)), (b_op, (arI G 400 v_op)), (b_ar, (arI G 400 v_ar)), (b_pi, (arI G 400 v_pi)), (b_pa, (arI G 400 v_pa))] s.heap.size = A at hD hT ⊢
  have hA : ∀ q : Nat, s.heap.size ≤ q → A q := fun q h => by rw [← hAe]; exact Or.inr h
  have hS : va_S A s.heap s.heap [] := va_S.rf
  have hP : va_P G.1 vwCl [(b_o, (oc12 u_th u_sa b_rf b_ro b_im b_ke u_fd b_tp u_td u_fr u_to u_so u_wo u_fa u_bd u_nc b_nl u_co b_op b_ar u_le b_pi b_pa u_pd u_od b_ws b_hw u_la b_se b_re u_bk u_va u_su u_ce u_ho u_wy u_bt u_ps b_pt u_tg u_sn b_ip u_ic b_ah b_be b_me u_wd b_tr b_ld u_st b_wn u_id)), (b_tp, (arI G 400 v_tp)), (b_op, (arI G 400 v_op)), (b_ar, (arI G 400 v_ar)), (b_pi, (arI G 400 v_pi)), (b_pa, (arI G 400 v_pa))] s.heap := hP
  have hl := lv_entry ([.ref b_o]) (n := 2) (Nat.le_of_ble_eq_true rfl)
  rw [lg_entry_eq]
  generalize (lg_sl ([.ref b_o]) ++ List.replicate (2 - (lg_sl ([.ref b_o])).length) Slot.unset).toArray = ls at hl ⊢
  have hl : lv_has ls 2 [(0, .ref b_o)] := hl
  have hmf9 := xj_mf e_x
  refine lv_aload_n hx hb dX12_behindTest_0 rfl (lv_at hl 0 rfl) ?_
  refine lv_ldc2 (v := 1476) hx hb hown (hts _ kl_X12_298) dX12_behindTest_1 ?_
  obtain ⟨hPc, hDc, hFc⟩ := g5_sub3 (wc := [(b_o, (oc12 u_th u_sa b_rf b_ro b_im b_ke u_fd b_tp u_td u_fr u_to u_so u_wo u_fa u_bd u_nc b_nl u_co b_op b_ar u_le b_pi b_pa u_pd u_od b_ws b_hw u_la b_se b_re u_bk u_va u_su u_ce u_ho u_wy u_bt u_ps b_pt u_tg u_sn b_ip u_ic b_ah b_be b_me u_wd b_tr b_ld u_st b_wn u_id))]) hP hD hS hA [0] (by decide) rfl
  refine va_calli (va_runV (As := [.long 1476]) (rest := []) ⟨hx, hb, hml, hown, hts⟩ (n_isWord l G b_o b_rf b_ro b_im b_ke b_tp b_nl b_op b_ar b_pi b_pa b_ws b_hw b_se b_re b_pt b_ip b_ah b_be b_me b_tr b_ld b_wn s.heap.size u_th u_sa u_fd u_td u_fr u_to u_so u_fa u_bd u_nc u_co u_le u_pd u_od u_la u_bk u_ce u_ho u_wy u_bt u_ps u_tg u_sn u_ic u_wd u_id u_wo u_va u_su u_st 1476 h_u_td h_u_fr h_u_to ⟨by omega, by omega⟩ h_u_nc h_u_co h_u_pd h_u_la h_u_bk h_u_ce h_u_ho h_u_wy h_u_bt h_u_ps h_u_ic h_u_id) (cwV 1 hts gV_X12_254 rfl rfl rfl hv_X12_isWord ⟨Nat.le_of_ble_eq_true rfl, Nat.le_of_ble_eq_true rfl⟩) (g5_preV hPc hK hDc hN hT hS hFc (ci := 12) (q0 := 0) rfl rfl) rfl rfl hl.1 rfl (lv_room (Nat.le_of_ble_eq_true rfl)) dX12_behindTest_4 ⟨Nat.le_of_ble_eq_true rfl, Nat.le_of_ble_eq_true rfl⟩) hS (fun q _ h => hFc q h) hFc (fun r u t H1 locs ht hvm hw hB hz1 hk1 hS => ?_)
  obtain ⟨hP1, hD1⟩ := hB
  rw [ht] at hP1
  rcases hw with ⟨i_1, rfl, rfl⟩ | ⟨rfl, rfl⟩
  ·
    have i_1 : u_so.toInt = 1 := i_1
    obtain ⟨hP, hD⟩ := va_join (wr := [(b_tp, (arI G 400 v_tp)), (b_op, (arI G 400 v_op)), (b_ar, (arI G 400 v_ar)), (b_pi, (arI G 400 v_pi)), (b_pa, (arI G 400 v_pa))]) hP hD [0] [1, 2, 3, 4, 5] rfl rfl (by decide) (by decide) hk1 hFc hP1 hD1
    generalize H1 = H at hP hS ⊢
    refine g5_rs [(b_tp, (arI G 400 v_tp)), (b_op, (arI G 400 v_op)), (b_ar, (arI G 400 v_ar)), (b_pi, (arI G 400 v_pi)), (b_pa, (arI G 400 v_pa)), (b_o, (oc12 u_th u_sa b_rf b_ro b_im b_ke u_fd b_tp u_td u_fr u_to u_so u_wo u_fa u_bd u_nc b_nl u_co b_op b_ar u_le b_pi b_pa u_pd u_od b_ws b_hw u_la b_se b_re u_bk u_va u_su u_ce u_ho u_wy u_bt u_ps b_pt u_tg u_sn b_ip u_ic b_ah b_be b_me u_wd b_tr b_ld u_st b_wn u_id))] hP hD (fun hP hD => ?_)
    refine lv_istore_n (lv' := [(1, .int 1), (0, .ref b_o)]) hx hb dX12_behindTest_7 rfl hl (by decide) rfl (fun ls hl => ?_)
    refine lv_iload_n hx hb dX12_behindTest_8 rfl (lv_at hl 0 rfl) ?_
    refine lv_if_ne (tgt := 22) hx hb dX12_behindTest_9 (by decide) (fun c_2 => ?_) (fun c_2 => ?_)
    ·
      have hlt9 : u_fr.toInt < u_to.toInt := tks_lt e_s (by omega)
      have hE_3 : HJ v_op v_ar v_pi v_pa g_a.toInt u_co.toInt u_pd.toInt 1 := tj_d1 e_j (by decide)
      refine lv_aload_n hx hb dX12_behindTest_22 rfl (lv_at hl 1 rfl) ?_
      refine lv_iload_n hx hb dX12_behindTest_23 rfl (lv_at hl 0 rfl) ?_
      refine lv_if_eq (tgt := 31) hx hb dX12_behindTest_24 (by decide) (fun c_4 => ?_) (fun c_4 => ?_)
      ·
        exact absurd c_4 (by decide)
      ·
        refine lv_iconst (v := 2) hx hb dX12_behindTest_27 (by decide) ?_
        refine lv_goto (tgt := 32) hx hb dX12_behindTest_28 (by decide) ?_
        obtain ⟨hPc, hDc, hFc⟩ := g5_sub3 (wc := [(b_o, (oc12 u_th u_sa b_rf b_ro b_im b_ke u_fd b_tp u_td u_fr u_to u_so u_wo u_fa u_bd u_nc b_nl u_co b_op b_ar u_le b_pi b_pa u_pd u_od b_ws b_hw u_la b_se b_re u_bk u_va u_su u_ce u_ho u_wy u_bt u_ps b_pt u_tg u_sn b_ip u_ic b_ah b_be b_me u_wd b_tr b_ld u_st b_wn u_id)), (b_op, (arI G 400 v_op)), (b_ar, (arI G 400 v_ar)), (b_pi, (arI G 400 v_pi)), (b_pa, (arI G 400 v_pa))]) hP hD hS hA [5, 1, 2, 3, 4] (by decide) rfl
        refine va_callv (va_runV (As := [.int 2]) (rest := []) ⟨hx, hb, hml, hown, hts⟩ (n_settleH l G b_o b_op b_ar b_pi b_pa b_rf b_ro b_im b_ke b_tp b_nl b_ws b_hw b_se b_re b_pt b_ip b_ah b_be b_me b_tr b_ld b_wn H.size u_th u_sa u_fd u_td u_fr u_to u_so u_fa u_bd u_nc u_co u_le u_pd u_od u_la u_bk u_ce u_ho u_wy u_bt u_ps u_tg u_sn u_ic u_wd u_id 2 g_a u_fr u_wo u_va u_su u_st v_op v_ar v_pi v_pa g_op g_ar h_u_td h_u_fr h_u_to ⟨by omega, by omega⟩ h_u_nc h_u_co h_u_pd h_u_la h_u_bk h_u_ce h_u_ho h_u_wy h_u_bt h_u_ps h_u_ic h_u_id ⟨by decide, by decide⟩ (by omega) (e_x) (hE_3)) (cwV 1 hts gV_X12_288 rfl rfl rfl hv_X12_settle ⟨Nat.le_of_ble_eq_true rfl, Nat.le_of_ble_eq_true rfl⟩) (g5_preV hPc hK hDc hN hT hS hFc (ci := 12) (q0 := 0) rfl rfl) rfl rfl hl.1 rfl (lv_room (Nat.le_of_ble_eq_true rfl)) dX12_behindTest_32 ⟨Nat.le_of_ble_eq_true rfl, Nat.le_of_ble_eq_true rfl⟩) hS (fun q _ h => hFc q h) hFc (fun u t H1 locs ht hvm hw hB hz1 hk1 hS => ?_)
        obtain ⟨hP1, hD1⟩ := hB
        rw [ht] at hP1
        obtain ⟨z12, z13, z14, z15, i_5, i_6, i_7, i_8, i_9, i_10, i_11, rfl⟩ := hw
        have i_5 : 0 ≤ z12.toInt ∧ z12.toInt ≤ 400 := i_5
        have i_6 : 0 ≤ z13.toInt ∧ z13.toInt ≤ 400 := i_6
        have i_7 : XJ g_op g_ar z14 z15 v_pi v_pa g_a.toInt z12.toInt z13.toInt u_fr.toInt := i_7
        have i_8 : HJ z14 z15 v_pi v_pa g_a.toInt z12.toInt z13.toInt 1 := i_8
        have i_9 : S1 v_pi u_pd.toInt z13.toInt := i_9
        have i_10 : S2 v_pi z13.toInt (2 : Int32).toInt := i_10
        have i_11 : z13.toInt ≤ u_pd.toInt := i_11
        obtain ⟨hP, hD⟩ := va_join (wr := [(b_tp, (arI G 400 v_tp))]) hP hD [5, 1, 2, 3, 4] [0] rfl rfl (by decide) (by decide) hk1 hFc hP1 hD1
        generalize H1 = H at hP hS ⊢
        refine g5_rs [(b_tp, (arI G 400 v_tp)), (b_o, (oc12 u_th u_sa b_rf b_ro b_im b_ke u_fd b_tp u_td u_fr u_to u_so u_wo u_fa u_bd u_nc b_nl z12 b_op b_ar u_le b_pi b_pa z13 u_od b_ws b_hw u_la b_se b_re u_bk u_va u_su u_ce u_ho u_wy u_bt u_ps b_pt u_tg u_sn b_ip u_ic b_ah b_be b_me u_wd b_tr b_ld u_st b_wn u_id)), (b_op, (arI G 400 z14)), (b_ar, (arI G 400 z15)), (b_pi, (arI G 400 v_pi)), (b_pa, (arI G 400 v_pa))] hP hD (fun hP hD => ?_)
        have hmf8 := xj_mf i_7
        refine lv_aload_n hx hb dX12_behindTest_35 rfl (lv_at hl 1 rfl) ?_
        refine lv_iload_n hx hb dX12_behindTest_36 rfl (lv_at hl 0 rfl) ?_
        refine lv_if_eq (tgt := 45) hx hb dX12_behindTest_37 (by decide) (fun c_16 => ?_) (fun c_16 => ?_)
        ·
          exact absurd c_16 (by decide)
        ·
          refine lv_bipush (v := 28) hx hb dX12_behindTest_40 (by decide) ?_
          refine lv_goto (tgt := 47) hx hb dX12_behindTest_42 (by decide) ?_
          refine lv_aload_n hx hb dX12_behindTest_47 rfl (lv_at hl 1 rfl) ?_
          refine va_get (D := G.1) (ci := 12) (v := .int z12) (C := RX12) (T := TX12) (N := 52) hx hb hts inG_X12 hown hK hP 1 rfl rfl 17 (by decide) (hts _ fl_X12_237) (fun _ h9 => h9) rfl dX12_behindTest_48 ?_
          obtain ⟨hPc, hDc, hFc⟩ := g5_sub3 (wc := [(b_o, (oc12 u_th u_sa b_rf b_ro b_im b_ke u_fd b_tp u_td u_fr u_to u_so u_wo u_fa u_bd u_nc b_nl z12 b_op b_ar u_le b_pi b_pa z13 u_od b_ws b_hw u_la b_se b_re u_bk u_va u_su u_ce u_ho u_wy u_bt u_ps b_pt u_tg u_sn b_ip u_ic b_ah b_be b_me u_wd b_tr b_ld u_st b_wn u_id)), (b_pi, (arI G 400 v_pi)), (b_pa, (arI G 400 v_pa))]) hP hD hS hA [1, 4, 5] (by decide) rfl
          refine va_callv (va_runV (As := [.int 28, .int z12]) (rest := []) ⟨hx, hb, hml, hown, hts⟩ (n_push l G b_o b_pi b_pa b_rf b_ro b_im b_ke b_tp b_nl b_op b_ar b_ws b_hw b_se b_re b_pt b_ip b_ah b_be b_me b_tr b_ld b_wn H.size u_th u_sa u_fd u_td u_fr u_to u_so u_fa u_bd u_nc z12 u_le z13 u_od u_la u_bk u_ce u_ho u_wy u_bt u_ps u_tg u_sn u_ic u_wd u_id 28 z12 u_wo u_va u_su u_st v_pi v_pa h_u_td h_u_fr h_u_to ⟨by omega, by omega⟩ h_u_nc i_5 i_6 h_u_la h_u_bk h_u_ce h_u_ho h_u_wy h_u_bt h_u_ps h_u_ic h_u_id (by omega)) (cwV 2 hts gV_X12_261 rfl rfl rfl hv_X12_push ⟨Nat.le_of_ble_eq_true rfl, Nat.le_of_ble_eq_true rfl⟩) (g5_preV hPc hK hDc hN hT hS hFc (ci := 12) (q0 := 0) rfl rfl) rfl rfl hl.1 rfl (lv_room (Nat.le_of_ble_eq_true rfl)) dX12_behindTest_51 ⟨Nat.le_of_ble_eq_true rfl, Nat.le_of_ble_eq_true rfl⟩) hS (fun q _ h => hFc q h) hFc (fun u t H1 locs ht hvm hw hB hz1 hk1 hS => ?_)
          obtain ⟨hP1, hD1⟩ := hB
          rw [ht] at hP1
          obtain ⟨z19, i_17, i_18, rfl⟩ := hw
          have i_17 : 0 ≤ z19.toInt ∧ z19.toInt ≤ 400 := i_17
          have i_18 : z19.toInt = z13.toInt + 1 := i_18
          obtain ⟨hP, hD⟩ := va_join (wr := [(b_tp, (arI G 400 v_tp)), (b_op, (arI G 400 z14)), (b_ar, (arI G 400 z15))]) hP hD [1, 4, 5] [0, 2, 3] rfl rfl (by decide) (by decide) hk1 hFc hP1 hD1
          generalize H1 = H at hP hS ⊢
          refine g5_rs [(b_tp, (arI G 400 v_tp)), (b_op, (arI G 400 z14)), (b_ar, (arI G 400 z15)), (b_o, (oc12 u_th u_sa b_rf b_ro b_im b_ke u_fd b_tp u_td u_fr u_to u_so u_wo u_fa u_bd u_nc b_nl z12 b_op b_ar u_le b_pi b_pa z19 u_od b_ws b_hw u_la b_se b_re u_bk u_va u_su u_ce u_ho u_wy u_bt u_ps b_pt u_tg u_sn b_ip u_ic b_ah b_be b_me u_wd b_tr b_ld u_st b_wn u_id)), (b_pi, (arI G 400 (upd v_pi z13.toNatClampNeg 28))), (b_pa, (arI G 400 (upd v_pa z13.toNatClampNeg z12)))] hP hD (fun hP hD => ?_)
          refine lv_aload_n hx hb dX12_behindTest_54 rfl (lv_at hl 1 rfl) ?_
          refine lv_iload_n hx hb dX12_behindTest_55 rfl (lv_at hl 0 rfl) ?_
          refine lv_if_eq (tgt := 64) hx hb dX12_behindTest_56 (by decide) (fun c_20 => ?_) (fun c_20 => ?_)
          ·
            exact absurd c_20 (by decide)
          ·
            refine lv_bipush (v := 28) hx hb dX12_behindTest_59 (by decide) ?_
            refine lv_goto (tgt := 66) hx hb dX12_behindTest_61 (by decide) ?_
            refine lv_iconst (v := 0) hx hb dX12_behindTest_66 (by decide) ?_
            obtain ⟨hPc, hDc, hFc⟩ := g5_sub3 (wc := [(b_o, (oc12 u_th u_sa b_rf b_ro b_im b_ke u_fd b_tp u_td u_fr u_to u_so u_wo u_fa u_bd u_nc b_nl z12 b_op b_ar u_le b_pi b_pa z19 u_od b_ws b_hw u_la b_se b_re u_bk u_va u_su u_ce u_ho u_wy u_bt u_ps b_pt u_tg u_sn b_ip u_ic b_ah b_be b_me u_wd b_tr b_ld u_st b_wn u_id)), (b_op, (arI G 400 z14)), (b_ar, (arI G 400 z15))]) hP hD hS hA [3, 1, 2] (by decide) rfl
            refine va_callv (va_runV (As := [.int 28, .int 0]) (rest := []) ⟨hx, hb, hml, hown, hts⟩ (n_emit l G b_o b_op b_ar b_rf b_ro b_im b_ke b_tp b_nl b_pi b_pa b_ws b_hw b_se b_re b_pt b_ip b_ah b_be b_me b_tr b_ld b_wn H.size u_th u_sa u_fd u_td u_fr u_to u_so u_fa u_bd u_nc z12 u_le z19 u_od u_la u_bk u_ce u_ho u_wy u_bt u_ps u_tg u_sn u_ic u_wd u_id 28 0 u_wo u_va u_su u_st z14 z15 h_u_td h_u_fr h_u_to ⟨by omega, by omega⟩ h_u_nc i_5 i_17 h_u_la h_u_bk h_u_ce h_u_ho h_u_wy h_u_bt h_u_ps h_u_ic h_u_id (by omega)) (cwV 2 hts gV_X12_246 rfl rfl rfl hv_X12_emit ⟨Nat.le_of_ble_eq_true rfl, Nat.le_of_ble_eq_true rfl⟩) (g5_preV hPc hK hDc hN hT hS hFc (ci := 12) (q0 := 0) rfl rfl) rfl rfl hl.1 rfl (lv_room (Nat.le_of_ble_eq_true rfl)) dX12_behindTest_67 ⟨Nat.le_of_ble_eq_true rfl, Nat.le_of_ble_eq_true rfl⟩) hS (fun q _ h => hFc q h) hFc (fun u t H1 locs ht hvm hw hB hz1 hk1 hS => ?_)
            obtain ⟨hP1, hD1⟩ := hB
            rw [ht] at hP1
            obtain ⟨z23, i_21, i_22, rfl⟩ := hw
            have i_21 : 0 ≤ z23.toInt ∧ z23.toInt ≤ 400 := i_21
            have i_22 : z23.toInt = z12.toInt + 1 := i_22
            obtain ⟨hP, hD⟩ := va_join (wr := [(b_tp, (arI G 400 v_tp)), (b_pi, (arI G 400 (upd v_pi z13.toNatClampNeg 28))), (b_pa, (arI G 400 (upd v_pa z13.toNatClampNeg z12)))]) hP hD [3, 1, 2] [0, 4, 5] rfl rfl (by decide) (by decide) hk1 hFc hP1 hD1
            generalize H1 = H at hP hS ⊢
            refine g5_rs [(b_tp, (arI G 400 v_tp)), (b_pi, (arI G 400 (upd v_pi z13.toNatClampNeg 28))), (b_pa, (arI G 400 (upd v_pa z13.toNatClampNeg z12))), (b_o, (oc12 u_th u_sa b_rf b_ro b_im b_ke u_fd b_tp u_td u_fr u_to u_so u_wo u_fa u_bd u_nc b_nl z23 b_op b_ar u_le b_pi b_pa z19 u_od b_ws b_hw u_la b_se b_re u_bk u_va u_su u_ce u_ho u_wy u_bt u_ps b_pt u_tg u_sn b_ip u_ic b_ah b_be b_me u_wd b_tr b_ld u_st b_wn u_id)), (b_op, (arI G 400 (upd z14 z12.toNatClampNeg 28))), (b_ar, (arI G 400 (upd z15 z12.toNatClampNeg 0)))] hP hD (fun hP hD => ?_)
            refine lv_aload_n hx hb dX12_behindTest_70 rfl (lv_at hl 1 rfl) ?_
            obtain ⟨hPc, hDc, hFc⟩ := g5_sub3 (wc := [(b_o, (oc12 u_th u_sa b_rf b_ro b_im b_ke u_fd b_tp u_td u_fr u_to u_so u_wo u_fa u_bd u_nc b_nl z23 b_op b_ar u_le b_pi b_pa z19 u_od b_ws b_hw u_la b_se b_re u_bk u_va u_su u_ce u_ho u_wy u_bt u_ps b_pt u_tg u_sn b_ip u_ic b_ah b_be b_me u_wd b_tr b_ld u_st b_wn u_id)), (b_tp, (arI G 400 v_tp))]) hP hD hS hA [3, 0] (by decide) rfl
            refine va_callv (va_runV (As := []) (rest := []) ⟨hx, hb, hml, hown, hts⟩ (n_next l G b_o b_tp b_rf b_ro b_im b_ke b_nl b_op b_ar b_pi b_pa b_ws b_hw b_se b_re b_pt b_ip b_ah b_be b_me b_tr b_ld b_wn H.size u_th u_sa u_fd u_td u_fr u_to u_so u_fa u_bd u_nc z23 u_le z19 u_od u_la u_bk u_ce u_ho u_wy u_bt u_ps u_tg u_sn u_ic u_wd u_id u_wo u_va u_su u_st v_tp h_u_td h_u_fr h_u_to ⟨by omega, by omega⟩ h_u_nc i_21 i_17 h_u_la h_u_bk h_u_ce h_u_ho h_u_wy h_u_bt h_u_ps h_u_ic h_u_id (by omega)) (cwV 0 hts gV_X12_208 rfl rfl rfl hv_X12_next ⟨Nat.le_of_ble_eq_true rfl, Nat.le_of_ble_eq_true rfl⟩) (g5_preV hPc hK hDc hN hT hS hFc (ci := 12) (q0 := 0) rfl rfl) rfl rfl hl.1 rfl (lv_room (Nat.le_of_ble_eq_true rfl)) dX12_behindTest_71 ⟨Nat.le_of_ble_eq_true rfl, Nat.le_of_ble_eq_true rfl⟩) hS (fun q _ h => hFc q h) hFc (fun u t H1 locs ht hvm hw hB hz1 hk1 hS => ?_)
            obtain ⟨hP1, hD1⟩ := hB
            rw [ht] at hP1
            obtain ⟨z28, z29, z30, z31, i_24, i_25, i_26, i_27, rfl⟩ := hw
            have i_24 : 0 ≤ z28.toInt ∧ z28.toInt ≤ 400 := i_24
            have i_25 : 0 ≤ z29.toInt ∧ z29.toInt ≤ 400 := i_25
            have i_26 : u_to.toInt ≤ z28.toInt ∧ z28.toInt ≤ z29.toInt ∧ z29.toInt ≤ u_td.toInt := i_26
            have i_27 : TKs z30.toInt z28.toInt z29.toInt := i_27
            obtain ⟨hP, hD⟩ := va_join (wr := [(b_pi, (arI G 400 (upd v_pi z13.toNatClampNeg 28))), (b_pa, (arI G 400 (upd v_pa z13.toNatClampNeg z12))), (b_op, (arI G 400 (upd z14 z12.toNatClampNeg 28))), (b_ar, (arI G 400 (upd z15 z12.toNatClampNeg 0)))]) hP hD [3, 0] [1, 2, 4, 5] rfl rfl (by decide) (by decide) hk1 hFc hP1 hD1
            generalize H1 = H at hP hS ⊢
            refine g5_rs [(b_pi, (arI G 400 (upd v_pi z13.toNatClampNeg 28))), (b_pa, (arI G 400 (upd v_pa z13.toNatClampNeg z12))), (b_op, (arI G 400 (upd z14 z12.toNatClampNeg 28))), (b_ar, (arI G 400 (upd z15 z12.toNatClampNeg 0))), (b_o, (oc12 u_th u_sa b_rf b_ro b_im b_ke u_fd b_tp u_td z28 z29 z30 z31 u_fa u_bd u_nc b_nl z23 b_op b_ar u_le b_pi b_pa z19 u_od b_ws b_hw u_la b_se b_re u_bk u_va u_su u_ce u_ho u_wy u_bt u_ps b_pt u_tg u_sn b_ip u_ic b_ah b_be b_me u_wd b_tr b_ld u_st b_wn u_id)), (b_tp, (arI G 400 v_tp))] hP hD (fun hP hD => ?_)
            refine lv_iconst (v := 0) hx hb dX12_behindTest_74 (by decide) ?_
            exact W.iret (v := 0) hx hb hr (fun t ht hW => ⟨⟨0, [(b_o, (oc12 u_th u_sa b_rf b_ro b_im b_ke u_fd b_tp u_td z28 z29 z30 z31 u_fa u_bd u_nc b_nl z23 b_op b_ar u_le b_pi b_pa z19 u_od b_ws b_hw u_la b_se b_re u_bk u_va u_su u_ce u_ho u_wy u_bt u_ps b_pt u_tg u_sn b_ip u_ic b_ah b_be b_me u_wd b_tr b_ld u_st b_wn u_id)), (b_tp, (arI G 400 v_tp)), (b_op, (arI G 400 (upd z14 z12.toNatClampNeg 28))), (b_ar, (arI G 400 (upd z15 z12.toNatClampNeg 0))), (b_pi, (arI G 400 (upd v_pi z13.toNatClampNeg 28))), (b_pa, (arI G 400 (upd v_pa z13.toNatClampNeg z12)))], rfl, Or.inr (⟨0, z28, z29, z30, z31, z23, z19, u_od, (upd z14 z12.toNatClampNeg 28), (upd z15 z12.toNatClampNeg 0), (upd v_pi z13.toNatClampNeg 28), (upd v_pa z13.toNatClampNeg z12), i_24, i_25, i_21, i_17, ⟨by have zc_o_r : (0 : Int32).toInt = 0 := (by decide); omega, by have zc_o_r : (0 : Int32).toInt = 0 := (by decide); omega⟩, by omega, i_27, xj_pushJ i_7 (by omega) (by omega) (by omega) (Or.inl (by decide)), tj_0 (hj_pushJ i_7 i_8 (by omega) (by omega) (Or.inl (by decide)) (no31_le (e_j.2.1 (Or.inr rfl)) (by omega))) (by decide) (no31_push (no31_le (e_j.2.1 (Or.inr rfl)) (by omega)) (by omega) (by omega) (by decide)), by have w9 := (twt_0 (by decide) : twt (0 : Int32).toInt = 0); omega, rfl, rfl⟩), by rw [ht]; exact hP.sub [4, 5, 2, 3, 0, 1] rfl, hD.sub [4, 5, 2, 3, 0, 1] (by decide) rfl⟩, hS.F ht⟩) hS.2.2 dX12_behindTest_75
    ·
      exact absurd c_2 (by decide)
  ·
    obtain ⟨hP, hD⟩ := va_join (wr := [(b_tp, (arI G 400 v_tp)), (b_op, (arI G 400 v_op)), (b_ar, (arI G 400 v_ar)), (b_pi, (arI G 400 v_pi)), (b_pa, (arI G 400 v_pa))]) hP hD [0] [1, 2, 3, 4, 5] rfl rfl (by decide) (by decide) hk1 hFc hP1 hD1
    generalize H1 = H at hP hS ⊢
    refine g5_rs [(b_tp, (arI G 400 v_tp)), (b_op, (arI G 400 v_op)), (b_ar, (arI G 400 v_ar)), (b_pi, (arI G 400 v_pi)), (b_pa, (arI G 400 v_pa)), (b_o, (oc12 u_th u_sa b_rf b_ro b_im b_ke u_fd b_tp u_td u_fr u_to u_so u_wo u_fa u_bd u_nc b_nl u_co b_op b_ar u_le b_pi b_pa u_pd u_od b_ws b_hw u_la b_se b_re u_bk u_va u_su u_ce u_ho u_wy u_bt u_ps b_pt u_tg u_sn b_ip u_ic b_ah b_be b_me u_wd b_tr b_ld u_st b_wn u_id))] hP hD (fun hP hD => ?_)
    refine lv_istore_n (lv' := [(1, .int 0), (0, .ref b_o)]) hx hb dX12_behindTest_7 rfl hl (by decide) rfl (fun ls hl => ?_)
    refine lv_iload_n hx hb dX12_behindTest_8 rfl (lv_at hl 0 rfl) ?_
    refine lv_if_ne (tgt := 22) hx hb dX12_behindTest_9 (by decide) (fun c_32 => ?_) (fun c_32 => ?_)
    ·
      exact absurd c_32 (by decide)
    ·
      refine lv_aload_n hx hb dX12_behindTest_12 rfl (lv_at hl 1 rfl) ?_
      refine lv_ldc2 (v := 498) hx hb hown (hts _ kl_X12_300) dX12_behindTest_13 ?_
      obtain ⟨hPc, hDc, hFc⟩ := g5_sub3 (wc := [(b_o, (oc12 u_th u_sa b_rf b_ro b_im b_ke u_fd b_tp u_td u_fr u_to u_so u_wo u_fa u_bd u_nc b_nl u_co b_op b_ar u_le b_pi b_pa u_pd u_od b_ws b_hw u_la b_se b_re u_bk u_va u_su u_ce u_ho u_wy u_bt u_ps b_pt u_tg u_sn b_ip u_ic b_ah b_be b_me u_wd b_tr b_ld u_st b_wn u_id))]) hP hD hS hA [5] (by decide) rfl
      refine va_calli (va_runV (As := [.long 498]) (rest := []) ⟨hx, hb, hml, hown, hts⟩ (n_isWord l G b_o b_rf b_ro b_im b_ke b_tp b_nl b_op b_ar b_pi b_pa b_ws b_hw b_se b_re b_pt b_ip b_ah b_be b_me b_tr b_ld b_wn H.size u_th u_sa u_fd u_td u_fr u_to u_so u_fa u_bd u_nc u_co u_le u_pd u_od u_la u_bk u_ce u_ho u_wy u_bt u_ps u_tg u_sn u_ic u_wd u_id u_wo u_va u_su u_st 498 h_u_td h_u_fr h_u_to ⟨by omega, by omega⟩ h_u_nc h_u_co h_u_pd h_u_la h_u_bk h_u_ce h_u_ho h_u_wy h_u_bt h_u_ps h_u_ic h_u_id) (cwV 1 hts gV_X12_254 rfl rfl rfl hv_X12_isWord ⟨Nat.le_of_ble_eq_true rfl, Nat.le_of_ble_eq_true rfl⟩) (g5_preV hPc hK hDc hN hT hS hFc (ci := 12) (q0 := 0) rfl rfl) rfl rfl hl.1 rfl (lv_room (Nat.le_of_ble_eq_true rfl)) dX12_behindTest_16 ⟨Nat.le_of_ble_eq_true rfl, Nat.le_of_ble_eq_true rfl⟩) hS (fun q _ h => hFc q h) hFc (fun r u t H1 locs ht hvm hw hB hz1 hk1 hS => ?_)
      obtain ⟨hP1, hD1⟩ := hB
      rw [ht] at hP1
      rcases hw with ⟨i_33, rfl, rfl⟩ | ⟨rfl, rfl⟩
      ·
        have i_33 : u_so.toInt = 1 := i_33
        obtain ⟨hP, hD⟩ := va_join (wr := [(b_tp, (arI G 400 v_tp)), (b_op, (arI G 400 v_op)), (b_ar, (arI G 400 v_ar)), (b_pi, (arI G 400 v_pi)), (b_pa, (arI G 400 v_pa))]) hP hD [5] [0, 1, 2, 3, 4] rfl rfl (by decide) (by decide) hk1 hFc hP1 hD1
        generalize H1 = H at hP hS ⊢
        refine g5_rs [(b_tp, (arI G 400 v_tp)), (b_op, (arI G 400 v_op)), (b_ar, (arI G 400 v_ar)), (b_pi, (arI G 400 v_pi)), (b_pa, (arI G 400 v_pa)), (b_o, (oc12 u_th u_sa b_rf b_ro b_im b_ke u_fd b_tp u_td u_fr u_to u_so u_wo u_fa u_bd u_nc b_nl u_co b_op b_ar u_le b_pi b_pa u_pd u_od b_ws b_hw u_la b_se b_re u_bk u_va u_su u_ce u_ho u_wy u_bt u_ps b_pt u_tg u_sn b_ip u_ic b_ah b_be b_me u_wd b_tr b_ld u_st b_wn u_id))] hP hD (fun hP hD => ?_)
        refine lv_if_eq (tgt := 76) hx hb dX12_behindTest_19 (by decide) (fun c_34 => ?_) (fun c_34 => ?_)
        ·
          exact absurd c_34 (by decide)
        ·
          have hlt9 : u_fr.toInt < u_to.toInt := tks_lt e_s (by omega)
          have hE_35 : HJ v_op v_ar v_pi v_pa g_a.toInt u_co.toInt u_pd.toInt 1 := tj_d1 e_j (by decide)
          refine lv_aload_n hx hb dX12_behindTest_22 rfl (lv_at hl 1 rfl) ?_
          refine lv_iload_n hx hb dX12_behindTest_23 rfl (lv_at hl 0 rfl) ?_
          refine lv_if_eq (tgt := 31) hx hb dX12_behindTest_24 (by decide) (fun c_36 => ?_) (fun c_36 => ?_)
          ·
            refine lv_iconst (v := 1) hx hb dX12_behindTest_31 (by decide) ?_
            obtain ⟨hPc, hDc, hFc⟩ := g5_sub3 (wc := [(b_o, (oc12 u_th u_sa b_rf b_ro b_im b_ke u_fd b_tp u_td u_fr u_to u_so u_wo u_fa u_bd u_nc b_nl u_co b_op b_ar u_le b_pi b_pa u_pd u_od b_ws b_hw u_la b_se b_re u_bk u_va u_su u_ce u_ho u_wy u_bt u_ps b_pt u_tg u_sn b_ip u_ic b_ah b_be b_me u_wd b_tr b_ld u_st b_wn u_id)), (b_op, (arI G 400 v_op)), (b_ar, (arI G 400 v_ar)), (b_pi, (arI G 400 v_pi)), (b_pa, (arI G 400 v_pa))]) hP hD hS hA [5, 1, 2, 3, 4] (by decide) rfl
            refine va_callv (va_runV (As := [.int 1]) (rest := []) ⟨hx, hb, hml, hown, hts⟩ (n_settleH l G b_o b_op b_ar b_pi b_pa b_rf b_ro b_im b_ke b_tp b_nl b_ws b_hw b_se b_re b_pt b_ip b_ah b_be b_me b_tr b_ld b_wn H.size u_th u_sa u_fd u_td u_fr u_to u_so u_fa u_bd u_nc u_co u_le u_pd u_od u_la u_bk u_ce u_ho u_wy u_bt u_ps u_tg u_sn u_ic u_wd u_id 1 g_a u_fr u_wo u_va u_su u_st v_op v_ar v_pi v_pa g_op g_ar h_u_td h_u_fr h_u_to ⟨by omega, by omega⟩ h_u_nc h_u_co h_u_pd h_u_la h_u_bk h_u_ce h_u_ho h_u_wy h_u_bt h_u_ps h_u_ic h_u_id ⟨by decide, by decide⟩ (by omega) (e_x) (hE_35)) (cwV 1 hts gV_X12_288 rfl rfl rfl hv_X12_settle ⟨Nat.le_of_ble_eq_true rfl, Nat.le_of_ble_eq_true rfl⟩) (g5_preV hPc hK hDc hN hT hS hFc (ci := 12) (q0 := 0) rfl rfl) rfl rfl hl.1 rfl (lv_room (Nat.le_of_ble_eq_true rfl)) dX12_behindTest_32 ⟨Nat.le_of_ble_eq_true rfl, Nat.le_of_ble_eq_true rfl⟩) hS (fun q _ h => hFc q h) hFc (fun u t H1 locs ht hvm hw hB hz1 hk1 hS => ?_)
            obtain ⟨hP1, hD1⟩ := hB
            rw [ht] at hP1
            obtain ⟨z44, z45, z46, z47, i_37, i_38, i_39, i_40, i_41, i_42, i_43, rfl⟩ := hw
            have i_37 : 0 ≤ z44.toInt ∧ z44.toInt ≤ 400 := i_37
            have i_38 : 0 ≤ z45.toInt ∧ z45.toInt ≤ 400 := i_38
            have i_39 : XJ g_op g_ar z46 z47 v_pi v_pa g_a.toInt z44.toInt z45.toInt u_fr.toInt := i_39
            have i_40 : HJ z46 z47 v_pi v_pa g_a.toInt z44.toInt z45.toInt 1 := i_40
            have i_41 : S1 v_pi u_pd.toInt z45.toInt := i_41
            have i_42 : S2 v_pi z45.toInt (1 : Int32).toInt := i_42
            have i_43 : z45.toInt ≤ u_pd.toInt := i_43
            obtain ⟨hP, hD⟩ := va_join (wr := [(b_tp, (arI G 400 v_tp))]) hP hD [5, 1, 2, 3, 4] [0] rfl rfl (by decide) (by decide) hk1 hFc hP1 hD1
            generalize H1 = H at hP hS ⊢
            refine g5_rs [(b_tp, (arI G 400 v_tp)), (b_o, (oc12 u_th u_sa b_rf b_ro b_im b_ke u_fd b_tp u_td u_fr u_to u_so u_wo u_fa u_bd u_nc b_nl z44 b_op b_ar u_le b_pi b_pa z45 u_od b_ws b_hw u_la b_se b_re u_bk u_va u_su u_ce u_ho u_wy u_bt u_ps b_pt u_tg u_sn b_ip u_ic b_ah b_be b_me u_wd b_tr b_ld u_st b_wn u_id)), (b_op, (arI G 400 z46)), (b_ar, (arI G 400 z47)), (b_pi, (arI G 400 v_pi)), (b_pa, (arI G 400 v_pa))] hP hD (fun hP hD => ?_)
            have hmf8 := xj_mf i_39
            refine lv_aload_n hx hb dX12_behindTest_35 rfl (lv_at hl 1 rfl) ?_
            refine lv_iload_n hx hb dX12_behindTest_36 rfl (lv_at hl 0 rfl) ?_
            refine lv_if_eq (tgt := 45) hx hb dX12_behindTest_37 (by decide) (fun c_48 => ?_) (fun c_48 => ?_)
            ·
              refine lv_bipush (v := 29) hx hb dX12_behindTest_45 (by decide) ?_
              refine lv_aload_n hx hb dX12_behindTest_47 rfl (lv_at hl 1 rfl) ?_
              refine va_get (D := G.1) (ci := 12) (v := .int z44) (C := RX12) (T := TX12) (N := 52) hx hb hts inG_X12 hown hK hP 1 rfl rfl 17 (by decide) (hts _ fl_X12_237) (fun _ h9 => h9) rfl dX12_behindTest_48 ?_
              obtain ⟨hPc, hDc, hFc⟩ := g5_sub3 (wc := [(b_o, (oc12 u_th u_sa b_rf b_ro b_im b_ke u_fd b_tp u_td u_fr u_to u_so u_wo u_fa u_bd u_nc b_nl z44 b_op b_ar u_le b_pi b_pa z45 u_od b_ws b_hw u_la b_se b_re u_bk u_va u_su u_ce u_ho u_wy u_bt u_ps b_pt u_tg u_sn b_ip u_ic b_ah b_be b_me u_wd b_tr b_ld u_st b_wn u_id)), (b_pi, (arI G 400 v_pi)), (b_pa, (arI G 400 v_pa))]) hP hD hS hA [1, 4, 5] (by decide) rfl
              refine va_callv (va_runV (As := [.int 29, .int z44]) (rest := []) ⟨hx, hb, hml, hown, hts⟩ (n_push l G b_o b_pi b_pa b_rf b_ro b_im b_ke b_tp b_nl b_op b_ar b_ws b_hw b_se b_re b_pt b_ip b_ah b_be b_me b_tr b_ld b_wn H.size u_th u_sa u_fd u_td u_fr u_to u_so u_fa u_bd u_nc z44 u_le z45 u_od u_la u_bk u_ce u_ho u_wy u_bt u_ps u_tg u_sn u_ic u_wd u_id 29 z44 u_wo u_va u_su u_st v_pi v_pa h_u_td h_u_fr h_u_to ⟨by omega, by omega⟩ h_u_nc i_37 i_38 h_u_la h_u_bk h_u_ce h_u_ho h_u_wy h_u_bt h_u_ps h_u_ic h_u_id (by omega)) (cwV 2 hts gV_X12_261 rfl rfl rfl hv_X12_push ⟨Nat.le_of_ble_eq_true rfl, Nat.le_of_ble_eq_true rfl⟩) (g5_preV hPc hK hDc hN hT hS hFc (ci := 12) (q0 := 0) rfl rfl) rfl rfl hl.1 rfl (lv_room (Nat.le_of_ble_eq_true rfl)) dX12_behindTest_51 ⟨Nat.le_of_ble_eq_true rfl, Nat.le_of_ble_eq_true rfl⟩) hS (fun q _ h => hFc q h) hFc (fun u t H1 locs ht hvm hw hB hz1 hk1 hS => ?_)
              obtain ⟨hP1, hD1⟩ := hB
              rw [ht] at hP1
              obtain ⟨z51, i_49, i_50, rfl⟩ := hw
              have i_49 : 0 ≤ z51.toInt ∧ z51.toInt ≤ 400 := i_49
              have i_50 : z51.toInt = z45.toInt + 1 := i_50
              obtain ⟨hP, hD⟩ := va_join (wr := [(b_tp, (arI G 400 v_tp)), (b_op, (arI G 400 z46)), (b_ar, (arI G 400 z47))]) hP hD [1, 4, 5] [0, 2, 3] rfl rfl (by decide) (by decide) hk1 hFc hP1 hD1
              generalize H1 = H at hP hS ⊢
              refine g5_rs [(b_tp, (arI G 400 v_tp)), (b_op, (arI G 400 z46)), (b_ar, (arI G 400 z47)), (b_o, (oc12 u_th u_sa b_rf b_ro b_im b_ke u_fd b_tp u_td u_fr u_to u_so u_wo u_fa u_bd u_nc b_nl z44 b_op b_ar u_le b_pi b_pa z51 u_od b_ws b_hw u_la b_se b_re u_bk u_va u_su u_ce u_ho u_wy u_bt u_ps b_pt u_tg u_sn b_ip u_ic b_ah b_be b_me u_wd b_tr b_ld u_st b_wn u_id)), (b_pi, (arI G 400 (upd v_pi z45.toNatClampNeg 29))), (b_pa, (arI G 400 (upd v_pa z45.toNatClampNeg z44)))] hP hD (fun hP hD => ?_)
              refine lv_aload_n hx hb dX12_behindTest_54 rfl (lv_at hl 1 rfl) ?_
              refine lv_iload_n hx hb dX12_behindTest_55 rfl (lv_at hl 0 rfl) ?_
              refine lv_if_eq (tgt := 64) hx hb dX12_behindTest_56 (by decide) (fun c_52 => ?_) (fun c_52 => ?_)
              ·
                refine lv_bipush (v := 29) hx hb dX12_behindTest_64 (by decide) ?_
                refine lv_iconst (v := 0) hx hb dX12_behindTest_66 (by decide) ?_
                obtain ⟨hPc, hDc, hFc⟩ := g5_sub3 (wc := [(b_o, (oc12 u_th u_sa b_rf b_ro b_im b_ke u_fd b_tp u_td u_fr u_to u_so u_wo u_fa u_bd u_nc b_nl z44 b_op b_ar u_le b_pi b_pa z51 u_od b_ws b_hw u_la b_se b_re u_bk u_va u_su u_ce u_ho u_wy u_bt u_ps b_pt u_tg u_sn b_ip u_ic b_ah b_be b_me u_wd b_tr b_ld u_st b_wn u_id)), (b_op, (arI G 400 z46)), (b_ar, (arI G 400 z47))]) hP hD hS hA [3, 1, 2] (by decide) rfl
                refine va_callv (va_runV (As := [.int 29, .int 0]) (rest := []) ⟨hx, hb, hml, hown, hts⟩ (n_emit l G b_o b_op b_ar b_rf b_ro b_im b_ke b_tp b_nl b_pi b_pa b_ws b_hw b_se b_re b_pt b_ip b_ah b_be b_me b_tr b_ld b_wn H.size u_th u_sa u_fd u_td u_fr u_to u_so u_fa u_bd u_nc z44 u_le z51 u_od u_la u_bk u_ce u_ho u_wy u_bt u_ps u_tg u_sn u_ic u_wd u_id 29 0 u_wo u_va u_su u_st z46 z47 h_u_td h_u_fr h_u_to ⟨by omega, by omega⟩ h_u_nc i_37 i_49 h_u_la h_u_bk h_u_ce h_u_ho h_u_wy h_u_bt h_u_ps h_u_ic h_u_id (by omega)) (cwV 2 hts gV_X12_246 rfl rfl rfl hv_X12_emit ⟨Nat.le_of_ble_eq_true rfl, Nat.le_of_ble_eq_true rfl⟩) (g5_preV hPc hK hDc hN hT hS hFc (ci := 12) (q0 := 0) rfl rfl) rfl rfl hl.1 rfl (lv_room (Nat.le_of_ble_eq_true rfl)) dX12_behindTest_67 ⟨Nat.le_of_ble_eq_true rfl, Nat.le_of_ble_eq_true rfl⟩) hS (fun q _ h => hFc q h) hFc (fun u t H1 locs ht hvm hw hB hz1 hk1 hS => ?_)
                obtain ⟨hP1, hD1⟩ := hB
                rw [ht] at hP1
                obtain ⟨z55, i_53, i_54, rfl⟩ := hw
                have i_53 : 0 ≤ z55.toInt ∧ z55.toInt ≤ 400 := i_53
                have i_54 : z55.toInt = z44.toInt + 1 := i_54
                obtain ⟨hP, hD⟩ := va_join (wr := [(b_tp, (arI G 400 v_tp)), (b_pi, (arI G 400 (upd v_pi z45.toNatClampNeg 29))), (b_pa, (arI G 400 (upd v_pa z45.toNatClampNeg z44)))]) hP hD [3, 1, 2] [0, 4, 5] rfl rfl (by decide) (by decide) hk1 hFc hP1 hD1
                generalize H1 = H at hP hS ⊢
                refine g5_rs [(b_tp, (arI G 400 v_tp)), (b_pi, (arI G 400 (upd v_pi z45.toNatClampNeg 29))), (b_pa, (arI G 400 (upd v_pa z45.toNatClampNeg z44))), (b_o, (oc12 u_th u_sa b_rf b_ro b_im b_ke u_fd b_tp u_td u_fr u_to u_so u_wo u_fa u_bd u_nc b_nl z55 b_op b_ar u_le b_pi b_pa z51 u_od b_ws b_hw u_la b_se b_re u_bk u_va u_su u_ce u_ho u_wy u_bt u_ps b_pt u_tg u_sn b_ip u_ic b_ah b_be b_me u_wd b_tr b_ld u_st b_wn u_id)), (b_op, (arI G 400 (upd z46 z44.toNatClampNeg 29))), (b_ar, (arI G 400 (upd z47 z44.toNatClampNeg 0)))] hP hD (fun hP hD => ?_)
                refine lv_aload_n hx hb dX12_behindTest_70 rfl (lv_at hl 1 rfl) ?_
                obtain ⟨hPc, hDc, hFc⟩ := g5_sub3 (wc := [(b_o, (oc12 u_th u_sa b_rf b_ro b_im b_ke u_fd b_tp u_td u_fr u_to u_so u_wo u_fa u_bd u_nc b_nl z55 b_op b_ar u_le b_pi b_pa z51 u_od b_ws b_hw u_la b_se b_re u_bk u_va u_su u_ce u_ho u_wy u_bt u_ps b_pt u_tg u_sn b_ip u_ic b_ah b_be b_me u_wd b_tr b_ld u_st b_wn u_id)), (b_tp, (arI G 400 v_tp))]) hP hD hS hA [3, 0] (by decide) rfl
                refine va_callv (va_runV (As := []) (rest := []) ⟨hx, hb, hml, hown, hts⟩ (n_next l G b_o b_tp b_rf b_ro b_im b_ke b_nl b_op b_ar b_pi b_pa b_ws b_hw b_se b_re b_pt b_ip b_ah b_be b_me b_tr b_ld b_wn H.size u_th u_sa u_fd u_td u_fr u_to u_so u_fa u_bd u_nc z55 u_le z51 u_od u_la u_bk u_ce u_ho u_wy u_bt u_ps u_tg u_sn u_ic u_wd u_id u_wo u_va u_su u_st v_tp h_u_td h_u_fr h_u_to ⟨by omega, by omega⟩ h_u_nc i_53 i_49 h_u_la h_u_bk h_u_ce h_u_ho h_u_wy h_u_bt h_u_ps h_u_ic h_u_id (by omega)) (cwV 0 hts gV_X12_208 rfl rfl rfl hv_X12_next ⟨Nat.le_of_ble_eq_true rfl, Nat.le_of_ble_eq_true rfl⟩) (g5_preV hPc hK hDc hN hT hS hFc (ci := 12) (q0 := 0) rfl rfl) rfl rfl hl.1 rfl (lv_room (Nat.le_of_ble_eq_true rfl)) dX12_behindTest_71 ⟨Nat.le_of_ble_eq_true rfl, Nat.le_of_ble_eq_true rfl⟩) hS (fun q _ h => hFc q h) hFc (fun u t H1 locs ht hvm hw hB hz1 hk1 hS => ?_)
                obtain ⟨hP1, hD1⟩ := hB
                rw [ht] at hP1
                obtain ⟨z60, z61, z62, z63, i_56, i_57, i_58, i_59, rfl⟩ := hw
                have i_56 : 0 ≤ z60.toInt ∧ z60.toInt ≤ 400 := i_56
                have i_57 : 0 ≤ z61.toInt ∧ z61.toInt ≤ 400 := i_57
                have i_58 : u_to.toInt ≤ z60.toInt ∧ z60.toInt ≤ z61.toInt ∧ z61.toInt ≤ u_td.toInt := i_58
                have i_59 : TKs z62.toInt z60.toInt z61.toInt := i_59
                obtain ⟨hP, hD⟩ := va_join (wr := [(b_pi, (arI G 400 (upd v_pi z45.toNatClampNeg 29))), (b_pa, (arI G 400 (upd v_pa z45.toNatClampNeg z44))), (b_op, (arI G 400 (upd z46 z44.toNatClampNeg 29))), (b_ar, (arI G 400 (upd z47 z44.toNatClampNeg 0)))]) hP hD [3, 0] [1, 2, 4, 5] rfl rfl (by decide) (by decide) hk1 hFc hP1 hD1
                generalize H1 = H at hP hS ⊢
                refine g5_rs [(b_pi, (arI G 400 (upd v_pi z45.toNatClampNeg 29))), (b_pa, (arI G 400 (upd v_pa z45.toNatClampNeg z44))), (b_op, (arI G 400 (upd z46 z44.toNatClampNeg 29))), (b_ar, (arI G 400 (upd z47 z44.toNatClampNeg 0))), (b_o, (oc12 u_th u_sa b_rf b_ro b_im b_ke u_fd b_tp u_td z60 z61 z62 z63 u_fa u_bd u_nc b_nl z55 b_op b_ar u_le b_pi b_pa z51 u_od b_ws b_hw u_la b_se b_re u_bk u_va u_su u_ce u_ho u_wy u_bt u_ps b_pt u_tg u_sn b_ip u_ic b_ah b_be b_me u_wd b_tr b_ld u_st b_wn u_id)), (b_tp, (arI G 400 v_tp))] hP hD (fun hP hD => ?_)
                refine lv_iconst (v := 0) hx hb dX12_behindTest_74 (by decide) ?_
                exact W.iret (v := 0) hx hb hr (fun t ht hW => ⟨⟨0, [(b_o, (oc12 u_th u_sa b_rf b_ro b_im b_ke u_fd b_tp u_td z60 z61 z62 z63 u_fa u_bd u_nc b_nl z55 b_op b_ar u_le b_pi b_pa z51 u_od b_ws b_hw u_la b_se b_re u_bk u_va u_su u_ce u_ho u_wy u_bt u_ps b_pt u_tg u_sn b_ip u_ic b_ah b_be b_me u_wd b_tr b_ld u_st b_wn u_id)), (b_tp, (arI G 400 v_tp)), (b_op, (arI G 400 (upd z46 z44.toNatClampNeg 29))), (b_ar, (arI G 400 (upd z47 z44.toNatClampNeg 0))), (b_pi, (arI G 400 (upd v_pi z45.toNatClampNeg 29))), (b_pa, (arI G 400 (upd v_pa z45.toNatClampNeg z44)))], rfl, Or.inr (⟨0, z60, z61, z62, z63, z55, z51, u_od, (upd z46 z44.toNatClampNeg 29), (upd z47 z44.toNatClampNeg 0), (upd v_pi z45.toNatClampNeg 29), (upd v_pa z45.toNatClampNeg z44), i_56, i_57, i_53, i_49, ⟨by have zc_o_r : (0 : Int32).toInt = 0 := (by decide); omega, by have zc_o_r : (0 : Int32).toInt = 0 := (by decide); omega⟩, by omega, i_59, xj_pushJ i_39 (by omega) (by omega) (by omega) (Or.inr (by decide)), tj_0 (hj_pushJ i_39 i_40 (by omega) (by omega) (Or.inr (by decide)) (no31_le (e_j.2.1 (Or.inr rfl)) (by omega))) (by decide) (no31_push (no31_le (e_j.2.1 (Or.inr rfl)) (by omega)) (by omega) (by omega) (by decide)), by have w9 := (twt_0 (by decide) : twt (0 : Int32).toInt = 0); omega, rfl, rfl⟩), by rw [ht]; exact hP.sub [4, 5, 2, 3, 0, 1] rfl, hD.sub [4, 5, 2, 3, 0, 1] (by decide) rfl⟩, hS.F ht⟩) hS.2.2 dX12_behindTest_75
              ·
                exact absurd c_52 (by decide)
            ·
              exact absurd c_48 (by decide)
          ·
            exact absurd c_36 (by decide)
      ·
        obtain ⟨hP, hD⟩ := va_join (wr := [(b_tp, (arI G 400 v_tp)), (b_op, (arI G 400 v_op)), (b_ar, (arI G 400 v_ar)), (b_pi, (arI G 400 v_pi)), (b_pa, (arI G 400 v_pa))]) hP hD [5] [0, 1, 2, 3, 4] rfl rfl (by decide) (by decide) hk1 hFc hP1 hD1
        generalize H1 = H at hP hS ⊢
        refine g5_rs [(b_tp, (arI G 400 v_tp)), (b_op, (arI G 400 v_op)), (b_ar, (arI G 400 v_ar)), (b_pi, (arI G 400 v_pi)), (b_pa, (arI G 400 v_pa)), (b_o, (oc12 u_th u_sa b_rf b_ro b_im b_ke u_fd b_tp u_td u_fr u_to u_so u_wo u_fa u_bd u_nc b_nl u_co b_op b_ar u_le b_pi b_pa u_pd u_od b_ws b_hw u_la b_se b_re u_bk u_va u_su u_ce u_ho u_wy u_bt u_ps b_pt u_tg u_sn b_ip u_ic b_ah b_be b_me u_wd b_tr b_ld u_st b_wn u_id))] hP hD (fun hP hD => ?_)
        refine lv_if_eq (tgt := 76) hx hb dX12_behindTest_19 (by decide) (fun c_64 => ?_) (fun c_64 => ?_)
        ·
          refine lv_aload_n hx hb dX12_behindTest_76 rfl (lv_at hl 1 rfl) ?_
          obtain ⟨hPc, hDc, hFc⟩ := g5_sub3 (wc := [(b_o, (oc12 u_th u_sa b_rf b_ro b_im b_ke u_fd b_tp u_td u_fr u_to u_so u_wo u_fa u_bd u_nc b_nl u_co b_op b_ar u_le b_pi b_pa u_pd u_od b_ws b_hw u_la b_se b_re u_bk u_va u_su u_ce u_ho u_wy u_bt u_ps b_pt u_tg u_sn b_ip u_ic b_ah b_be b_me u_wd b_tr b_ld u_st b_wn u_id)), (b_pi, (arI G 400 v_pi))]) hP hD hS hA [5, 3] (by decide) rfl
          refine va_calli (va_runV (As := []) (rest := []) ⟨hx, hb, hml, hown, hts⟩ (n_inner l G b_o b_pi b_rf b_ro b_im b_ke b_tp b_nl b_op b_ar b_pa b_ws b_hw b_se b_re b_pt b_ip b_ah b_be b_me b_tr b_ld b_wn H.size u_th u_sa u_fd u_td u_fr u_to u_so u_fa u_bd u_nc u_co u_le u_pd u_od u_la u_bk u_ce u_ho u_wy u_bt u_ps u_tg u_sn u_ic u_wd u_id u_wo u_va u_su u_st v_pi h_u_td h_u_fr h_u_to ⟨by omega, by omega⟩ h_u_nc h_u_co h_u_pd h_u_la h_u_bk h_u_ce h_u_ho h_u_wy h_u_bt h_u_ps h_u_ic h_u_id) (cwV 0 hts gV_X12_291 rfl rfl rfl hv_X12_inner ⟨Nat.le_of_ble_eq_true rfl, Nat.le_of_ble_eq_true rfl⟩) (g5_preV hPc hK hDc hN hT hS hFc (ci := 12) (q0 := 0) rfl rfl) rfl rfl hl.1 rfl (lv_room (Nat.le_of_ble_eq_true rfl)) dX12_behindTest_77 ⟨Nat.le_of_ble_eq_true rfl, Nat.le_of_ble_eq_true rfl⟩) hS (fun q _ h => hFc q h) hFc (fun r u t H1 locs ht hvm hw hB hz1 hk1 hS => ?_)
          obtain ⟨hP1, hD1⟩ := hB
          rw [ht] at hP1
          obtain ⟨z66, i_65, y67, rfl⟩ := hw
          have i_65 : innP v_pi u_pd.toInt z66.toInt := i_65
          obtain ⟨hP, hD⟩ := va_join (wr := [(b_tp, (arI G 400 v_tp)), (b_op, (arI G 400 v_op)), (b_ar, (arI G 400 v_ar)), (b_pa, (arI G 400 v_pa))]) hP hD [5, 3] [0, 1, 2, 4] rfl rfl (by decide) (by decide) hk1 hFc hP1 hD1
          generalize H1 = H at hP hS ⊢
          refine g5_rs [(b_tp, (arI G 400 v_tp)), (b_op, (arI G 400 v_op)), (b_ar, (arI G 400 v_ar)), (b_pa, (arI G 400 v_pa)), (b_o, (oc12 u_th u_sa b_rf b_ro b_im b_ke u_fd b_tp u_td u_fr u_to u_so u_wo u_fa u_bd u_nc b_nl u_co b_op b_ar u_le b_pi b_pa u_pd u_od b_ws b_hw u_la b_se b_re u_bk u_va u_su u_ce u_ho u_wy u_bt u_ps b_pt u_tg u_sn b_ip u_ic b_ah b_be b_me u_wd b_tr b_ld u_st b_wn u_id)), (b_pi, (arI G 400 v_pi))] hP hD (fun hP hD => ?_)
          refine g5_ti (v := z66) y67 ?_
          refine lv_iconst (v := (-1)) hx hb dX12_behindTest_80 (by decide) ?_
          refine lv_icmp_ne (tgt := 86) hx hb dX12_behindTest_81 (by decide) (fun c_68 => ?_) (fun c_68 => ?_)
          ·
            have n_68 : gNe (z66.toInt) ((-1)) := by have z := g5_ne (a := z66.toInt) (b := (-1)) (by rfl) (by decide) c_68; unfold gNe; omega
            refine lv_aload_n hx hb dX12_behindTest_86 rfl (lv_at hl 1 rfl) ?_
            refine lv_aload_n hx hb dX12_behindTest_87 rfl (lv_at hl 1 rfl) ?_
            refine lv_bipush (v := 41) hx hb dX12_behindTest_88 (by decide) ?_
            obtain ⟨hPc, hDc, hFc⟩ := g5_sub3 (wc := [(b_o, (oc12 u_th u_sa b_rf b_ro b_im b_ke u_fd b_tp u_td u_fr u_to u_so u_wo u_fa u_bd u_nc b_nl u_co b_op b_ar u_le b_pi b_pa u_pd u_od b_ws b_hw u_la b_se b_re u_bk u_va u_su u_ce u_ho u_wy u_bt u_ps b_pt u_tg u_sn b_ip u_ic b_ah b_be b_me u_wd b_tr b_ld u_st b_wn u_id))]) hP hD hS hA [4] (by decide) rfl
            refine va_calli (va_runV (As := [.int 41]) (rest := [.ref b_o]) ⟨hx, hb, hml, hown, hts⟩ (n_isSign l G b_o b_rf b_ro b_im b_ke b_tp b_nl b_op b_ar b_pi b_pa b_ws b_hw b_se b_re b_pt b_ip b_ah b_be b_me b_tr b_ld b_wn H.size u_th u_sa u_fd u_td u_fr u_to u_so u_fa u_bd u_nc u_co u_le u_pd u_od u_la u_bk u_ce u_ho u_wy u_bt u_ps u_tg u_sn u_ic u_wd u_id 41 u_wo u_va u_su u_st h_u_td h_u_fr h_u_to ⟨by omega, by omega⟩ h_u_nc h_u_co h_u_pd h_u_la h_u_bk h_u_ce h_u_ho h_u_wy h_u_bt h_u_ps h_u_ic h_u_id) (cwV 1 hts gV_X12_267 rfl rfl rfl hv_X12_isSign ⟨Nat.le_of_ble_eq_true rfl, Nat.le_of_ble_eq_true rfl⟩) (g5_preV hPc hK hDc hN hT hS hFc (ci := 12) (q0 := 0) rfl rfl) rfl rfl hl.1 rfl (lv_room (Nat.le_of_ble_eq_true rfl)) dX12_behindTest_90 ⟨Nat.le_of_ble_eq_true rfl, Nat.le_of_ble_eq_true rfl⟩) hS (fun q _ h => hFc q h) hFc (fun r u t H1 locs ht hvm hw hB hz1 hk1 hS => ?_)
            obtain ⟨hP1, hD1⟩ := hB
            rw [ht] at hP1
            rcases hw with ⟨i_69, rfl, rfl⟩ | ⟨rfl, rfl⟩
            ·
              have i_69 : u_so.toInt = 3 := i_69
              obtain ⟨hP, hD⟩ := va_join (wr := [(b_tp, (arI G 400 v_tp)), (b_op, (arI G 400 v_op)), (b_ar, (arI G 400 v_ar)), (b_pa, (arI G 400 v_pa)), (b_pi, (arI G 400 v_pi))]) hP hD [4] [0, 1, 2, 3, 5] rfl rfl (by decide) (by decide) hk1 hFc hP1 hD1
              generalize H1 = H at hP hS ⊢
              refine g5_rs [(b_tp, (arI G 400 v_tp)), (b_op, (arI G 400 v_op)), (b_ar, (arI G 400 v_ar)), (b_pa, (arI G 400 v_pa)), (b_pi, (arI G 400 v_pi)), (b_o, (oc12 u_th u_sa b_rf b_ro b_im b_ke u_fd b_tp u_td u_fr u_to u_so u_wo u_fa u_bd u_nc b_nl u_co b_op b_ar u_le b_pi b_pa u_pd u_od b_ws b_hw u_la b_se b_re u_bk u_va u_su u_ce u_ho u_wy u_bt u_ps b_pt u_tg u_sn b_ip u_ic b_ah b_be b_me u_wd b_tr b_ld u_st b_wn u_id))] hP hD (fun hP hD => ?_)
              have hlt9 : u_fr.toInt < u_to.toInt := tks_lt e_s (by omega)
              obtain ⟨hPc, hDc, hFc⟩ := g5_sub3 (wc := [(b_o, (oc12 u_th u_sa b_rf b_ro b_im b_ke u_fd b_tp u_td u_fr u_to u_so u_wo u_fa u_bd u_nc b_nl u_co b_op b_ar u_le b_pi b_pa u_pd u_od b_ws b_hw u_la b_se b_re u_bk u_va u_su u_ce u_ho u_wy u_bt u_ps b_pt u_tg u_sn b_ip u_ic b_ah b_be b_me u_wd b_tr b_ld u_st b_wn u_id)), (b_tp, (arI G 400 v_tp))]) hP hD hS hA [5, 0] (by decide) rfl
              refine va_callv (va_runV (As := [.int 1]) (rest := []) ⟨hx, hb, hml, hown, hts⟩ (n_must1 l G b_o b_tp b_rf b_ro b_im b_ke b_nl b_op b_ar b_pi b_pa b_ws b_hw b_se b_re b_pt b_ip b_ah b_be b_me b_tr b_ld b_wn H.size u_th u_sa u_fd u_td u_fr u_to u_so u_fa u_bd u_nc u_co u_le u_pd u_od u_la u_bk u_ce u_ho u_wy u_bt u_ps u_tg u_sn u_ic u_wd u_id u_wo u_va u_su u_st v_tp h_u_td h_u_fr h_u_to h_u_bd h_u_nc h_u_co h_u_pd h_u_la h_u_bk h_u_ce h_u_ho h_u_wy h_u_bt h_u_ps h_u_ic h_u_id (by omega)) (cwV 1 hts gV_X12_233 rfl rfl rfl hv_X12_must ⟨Nat.le_of_ble_eq_true rfl, Nat.le_of_ble_eq_true rfl⟩) (g5_preV hPc hK hDc hN hT hS hFc (ci := 12) (q0 := 0) rfl rfl) rfl rfl hl.1 rfl (lv_room (Nat.le_of_ble_eq_true rfl)) dX12_behindTest_93 ⟨Nat.le_of_ble_eq_true rfl, Nat.le_of_ble_eq_true rfl⟩) hS (fun q _ h => hFc q h) hFc (fun u t H1 locs ht hvm hw hB hz1 hk1 hS => ?_)
              obtain ⟨hP1, hD1⟩ := hB
              rw [ht] at hP1
              obtain ⟨z74, z75, z76, z77, i_70, i_71, i_72, i_73, rfl⟩ := hw
              have i_70 : 0 ≤ z74.toInt ∧ z74.toInt ≤ 400 := i_70
              have i_71 : 0 ≤ z75.toInt ∧ z75.toInt ≤ 400 := i_71
              have i_72 : u_to.toInt ≤ z74.toInt ∧ z74.toInt ≤ z75.toInt ∧ z75.toInt ≤ u_td.toInt := i_72
              have i_73 : TKs z76.toInt z74.toInt z75.toInt := i_73
              obtain ⟨hP, hD⟩ := va_join (wr := [(b_op, (arI G 400 v_op)), (b_ar, (arI G 400 v_ar)), (b_pa, (arI G 400 v_pa)), (b_pi, (arI G 400 v_pi))]) hP hD [5, 0] [1, 2, 3, 4] rfl rfl (by decide) (by decide) hk1 hFc hP1 hD1
              generalize H1 = H at hP hS ⊢
              refine g5_rs [(b_op, (arI G 400 v_op)), (b_ar, (arI G 400 v_ar)), (b_pa, (arI G 400 v_pa)), (b_pi, (arI G 400 v_pi)), (b_o, (oc12 u_th u_sa b_rf b_ro b_im b_ke u_fd b_tp u_td z74 z75 z76 z77 u_fa u_bd u_nc b_nl u_co b_op b_ar u_le b_pi b_pa u_pd u_od b_ws b_hw u_la b_se b_re u_bk u_va u_su u_ce u_ho u_wy u_bt u_ps b_pt u_tg u_sn b_ip u_ic b_ah b_be b_me u_wd b_tr b_ld u_st b_wn u_id)), (b_tp, (arI G 400 v_tp))] hP hD (fun hP hD => ?_)
              refine lv_aload_n hx hb dX12_behindTest_96 rfl (lv_at hl 1 rfl) ?_
              refine va_get (D := G.1) (ci := 12) (v := .int u_bd) (C := RX12) (T := TX12) (N := 52) hx hb hts inG_X12 hown hK hP 4 rfl rfl 14 (by decide) (hts _ fl_X12_205) (fun _ h9 => h9) rfl dX12_behindTest_97 ?_
              refine lv_if_ne (tgt := 128) hx hb dX12_behindTest_100 (by decide) (fun c_78 => ?_) (fun c_78 => ?_)
              ·
                have i_78 : u_bd.toInt ≠ 0 := by have z := g5_ne (a := u_bd.toInt) (b := 0) (by rfl) (by decide) c_78; omega
                omega
              ·
                have i_78 : u_bd.toInt = 0 := by have z := g5_neN (a := u_bd.toInt) (b := 0) (by rfl) (by decide) c_78; omega
                have hE_79 : HJ v_op v_ar v_pi v_pa g_a.toInt u_co.toInt u_pd.toInt 1 := tj_d1 e_j (by decide)
                refine lv_aload_n hx hb dX12_behindTest_103 rfl (lv_at hl 1 rfl) ?_
                refine lv_iconst (v := 1) hx hb dX12_behindTest_104 (by decide) ?_
                obtain ⟨hPc, hDc, hFc⟩ := g5_sub3 (wc := [(b_o, (oc12 u_th u_sa b_rf b_ro b_im b_ke u_fd b_tp u_td z74 z75 z76 z77 u_fa u_bd u_nc b_nl u_co b_op b_ar u_le b_pi b_pa u_pd u_od b_ws b_hw u_la b_se b_re u_bk u_va u_su u_ce u_ho u_wy u_bt u_ps b_pt u_tg u_sn b_ip u_ic b_ah b_be b_me u_wd b_tr b_ld u_st b_wn u_id)), (b_op, (arI G 400 v_op)), (b_ar, (arI G 400 v_ar)), (b_pi, (arI G 400 v_pi)), (b_pa, (arI G 400 v_pa))]) hP hD hS hA [4, 0, 1, 3, 2] (by decide) rfl
                refine va_callv (va_runV (As := [.int 1]) (rest := []) ⟨hx, hb, hml, hown, hts⟩ (n_settleH l G b_o b_op b_ar b_pi b_pa b_rf b_ro b_im b_ke b_tp b_nl b_ws b_hw b_se b_re b_pt b_ip b_ah b_be b_me b_tr b_ld b_wn H.size u_th u_sa u_fd u_td z74 z75 z76 u_fa u_bd u_nc u_co u_le u_pd u_od u_la u_bk u_ce u_ho u_wy u_bt u_ps u_tg u_sn u_ic u_wd u_id 1 g_a u_fr z77 u_va u_su u_st v_op v_ar v_pi v_pa g_op g_ar h_u_td i_70 i_71 ⟨by omega, by omega⟩ h_u_nc h_u_co h_u_pd h_u_la h_u_bk h_u_ce h_u_ho h_u_wy h_u_bt h_u_ps h_u_ic h_u_id ⟨by decide, by decide⟩ (by omega) (e_x) (hE_79)) (cwV 1 hts gV_X12_288 rfl rfl rfl hv_X12_settle ⟨Nat.le_of_ble_eq_true rfl, Nat.le_of_ble_eq_true rfl⟩) (g5_preV hPc hK hDc hN hT hS hFc (ci := 12) (q0 := 0) rfl rfl) rfl rfl hl.1 rfl (lv_room (Nat.le_of_ble_eq_true rfl)) dX12_behindTest_105 ⟨Nat.le_of_ble_eq_true rfl, Nat.le_of_ble_eq_true rfl⟩) hS (fun q _ h => hFc q h) hFc (fun u t H1 locs ht hvm hw hB hz1 hk1 hS => ?_)
                obtain ⟨hP1, hD1⟩ := hB
                rw [ht] at hP1
                obtain ⟨z87, z88, z89, z90, i_80, i_81, i_82, i_83, i_84, i_85, i_86, rfl⟩ := hw
                have i_80 : 0 ≤ z87.toInt ∧ z87.toInt ≤ 400 := i_80
                have i_81 : 0 ≤ z88.toInt ∧ z88.toInt ≤ 400 := i_81
                have i_82 : XJ g_op g_ar z89 z90 v_pi v_pa g_a.toInt z87.toInt z88.toInt u_fr.toInt := i_82
                have i_83 : HJ z89 z90 v_pi v_pa g_a.toInt z87.toInt z88.toInt 1 := i_83
                have i_84 : S1 v_pi u_pd.toInt z88.toInt := i_84
                have i_85 : S2 v_pi z88.toInt (1 : Int32).toInt := i_85
                have i_86 : z88.toInt ≤ u_pd.toInt := i_86
                obtain ⟨hP, hD⟩ := va_join (wr := [(b_tp, (arI G 400 v_tp))]) hP hD [4, 0, 1, 3, 2] [5] rfl rfl (by decide) (by decide) hk1 hFc hP1 hD1
                generalize H1 = H at hP hS ⊢
                refine g5_rs [(b_tp, (arI G 400 v_tp)), (b_o, (oc12 u_th u_sa b_rf b_ro b_im b_ke u_fd b_tp u_td z74 z75 z76 z77 u_fa u_bd u_nc b_nl z87 b_op b_ar u_le b_pi b_pa z88 u_od b_ws b_hw u_la b_se b_re u_bk u_va u_su u_ce u_ho u_wy u_bt u_ps b_pt u_tg u_sn b_ip u_ic b_ah b_be b_me u_wd b_tr b_ld u_st b_wn u_id)), (b_op, (arI G 400 z89)), (b_ar, (arI G 400 z90)), (b_pi, (arI G 400 v_pi)), (b_pa, (arI G 400 v_pa))] hP hD (fun hP hD => ?_)
                have htp := top_rd (q' := (z88 - 1)) i_65 n_68 (by decide) i_84 i_85
                have htp1 := htp.1
                refine lv_aload_n hx hb dX12_behindTest_108 rfl (lv_at hl 1 rfl) ?_
                refine lv_dup hx hb dX12_behindTest_109 rfl ?_
                refine va_get (D := G.1) (ci := 12) (v := .int z88) (C := RX12) (T := TX12) (N := 52) hx hb hts inG_X12 hown hK hP 1 rfl rfl 23 (by decide) (hts _ fl_X12_240) (fun _ h9 => h9) rfl dX12_behindTest_110 ?_
                refine lv_iconst (v := 1) hx hb dX12_behindTest_113 (by decide) ?_
                refine lv_isub hx hb dX12_behindTest_114 ?_
                have t_91 : (z88 - 1).toInt = z88.toInt - 1 := g5_isub (a := z88.toInt) (b := 1) (by rfl) (by decide) (by omega) (by omega)
                refine va_put (D := G.1) (ci := 12) (v := .int (z88 - 1)) (ty := .int) (C := RX12) (T := TX12) (N := 52) hx hb hts inG_X12 tyX12 tyX12_ok nmX12 hown hK hP hD hS 1 rfl rfl 23 (by decide) (hts _ fl_X12_240) (fun _ h9 => h9) rfl (by decide +kernel) rfl rfl (Nat.le_of_ble_eq_true rfl) dX12_behindTest_115 (fun H locs hP hD hS => ?_)
                refine g5_rs [(b_tp, (arI G 400 v_tp)), (b_o, (oc12 u_th u_sa b_rf b_ro b_im b_ke u_fd b_tp u_td z74 z75 z76 z77 u_fa u_bd u_nc b_nl z87 b_op b_ar u_le b_pi b_pa (z88 - 1) u_od b_ws b_hw u_la b_se b_re u_bk u_va u_su u_ce u_ho u_wy u_bt u_ps b_pt u_tg u_sn b_ip u_ic b_ah b_be b_me u_wd b_tr b_ld u_st b_wn u_id)), (b_op, (arI G 400 z89)), (b_ar, (arI G 400 z90)), (b_pi, (arI G 400 v_pi)), (b_pa, (arI G 400 v_pa))] hP hD (fun hP hD => ?_)
                refine lv_aload_n hx hb dX12_behindTest_118 rfl (lv_at hl 1 rfl) ?_
                refine lv_dup hx hb dX12_behindTest_119 rfl ?_
                refine va_get (D := G.1) (ci := 12) (v := .int u_od) (C := RX12) (T := TX12) (N := 52) hx hb hts inG_X12 hown hK hP 1 rfl rfl 24 (by decide) (hts _ fl_X12_258) (fun _ h9 => h9) rfl dX12_behindTest_120 ?_
                refine lv_iconst (v := 1) hx hb dX12_behindTest_123 (by decide) ?_
                refine lv_isub hx hb dX12_behindTest_124 ?_
                refine va_put (D := G.1) (ci := 12) (v := .int (u_od - 1)) (ty := .int) (C := RX12) (T := TX12) (N := 52) hx hb hts inG_X12 tyX12 tyX12_ok nmX12 hown hK hP hD hS 1 rfl rfl 24 (by decide) (hts _ fl_X12_258) (fun _ h9 => h9) rfl (by decide +kernel) rfl rfl (Nat.le_of_ble_eq_true rfl) dX12_behindTest_125 (fun H locs hP hD hS => ?_)
                refine g5_rs [(b_tp, (arI G 400 v_tp)), (b_o, (oc12 u_th u_sa b_rf b_ro b_im b_ke u_fd b_tp u_td z74 z75 z76 z77 u_fa u_bd u_nc b_nl z87 b_op b_ar u_le b_pi b_pa (z88 - 1) (u_od - 1) b_ws b_hw u_la b_se b_re u_bk u_va u_su u_ce u_ho u_wy u_bt u_ps b_pt u_tg u_sn b_ip u_ic b_ah b_be b_me u_wd b_tr b_ld u_st b_wn u_id)), (b_op, (arI G 400 z89)), (b_ar, (arI G 400 z90)), (b_pi, (arI G 400 v_pi)), (b_pa, (arI G 400 v_pa))] hP hD (fun hP hD => ?_)
                refine lv_iconst (v := 2) hx hb dX12_behindTest_128 (by decide) ?_
                exact W.iret (v := 2) hx hb hr (fun t ht hW => ⟨⟨2, [(b_o, (oc12 u_th u_sa b_rf b_ro b_im b_ke u_fd b_tp u_td z74 z75 z76 z77 u_fa u_bd u_nc b_nl z87 b_op b_ar u_le b_pi b_pa (z88 - 1) (u_od - 1) b_ws b_hw u_la b_se b_re u_bk u_va u_su u_ce u_ho u_wy u_bt u_ps b_pt u_tg u_sn b_ip u_ic b_ah b_be b_me u_wd b_tr b_ld u_st b_wn u_id)), (b_tp, (arI G 400 v_tp)), (b_op, (arI G 400 z89)), (b_ar, (arI G 400 z90)), (b_pi, (arI G 400 v_pi)), (b_pa, (arI G 400 v_pa))], rfl, Or.inr (⟨2, z74, z75, z76, z77, z87, (z88 - 1), (u_od - 1), z89, z90, v_pi, v_pa, i_70, i_71, i_80, ⟨by omega, by omega⟩, ⟨by have zc_o_r : (2 : Int32).toInt = 2 := (by decide); omega, by have zc_o_r : (2 : Int32).toInt = 2 := (by decide); omega⟩, by omega, i_73, xj_up (xj_popB i_82 htp1 (by omega)) (by omega), tj_2 (hj_popB i_83 htp1 (by omega) (htp.2 (by omega))) (by decide) (no31_le (e_j.2.1 (Or.inr rfl)) (by omega)), by have w9 := (twt_2 (by decide) : twt (2 : Int32).toInt = 1); omega, rfl, rfl⟩), by rw [ht]; exact hP.sub [1, 0, 2, 3, 4, 5] rfl, hD.sub [1, 0, 2, 3, 4, 5] (by decide) rfl⟩, hS.F ht⟩) hS.2.2 dX12_behindTest_129
            ·
              obtain ⟨hP, hD⟩ := va_join (wr := [(b_tp, (arI G 400 v_tp)), (b_op, (arI G 400 v_op)), (b_ar, (arI G 400 v_ar)), (b_pa, (arI G 400 v_pa)), (b_pi, (arI G 400 v_pi))]) hP hD [4] [0, 1, 2, 3, 5] rfl rfl (by decide) (by decide) hk1 hFc hP1 hD1
              generalize H1 = H at hP hS ⊢
              refine g5_rs [(b_tp, (arI G 400 v_tp)), (b_op, (arI G 400 v_op)), (b_ar, (arI G 400 v_ar)), (b_pa, (arI G 400 v_pa)), (b_pi, (arI G 400 v_pi)), (b_o, (oc12 u_th u_sa b_rf b_ro b_im b_ke u_fd b_tp u_td u_fr u_to u_so u_wo u_fa u_bd u_nc b_nl u_co b_op b_ar u_le b_pi b_pa u_pd u_od b_ws b_hw u_la b_se b_re u_bk u_va u_su u_ce u_ho u_wy u_bt u_ps b_pt u_tg u_sn b_ip u_ic b_ah b_be b_me u_wd b_tr b_ld u_st b_wn u_id))] hP hD (fun hP hD => ?_)
              obtain ⟨hPc, hDc, hFc⟩ := g5_sub3 (wc := [(b_o, (oc12 u_th u_sa b_rf b_ro b_im b_ke u_fd b_tp u_td u_fr u_to u_so u_wo u_fa u_bd u_nc b_nl u_co b_op b_ar u_le b_pi b_pa u_pd u_od b_ws b_hw u_la b_se b_re u_bk u_va u_su u_ce u_ho u_wy u_bt u_ps b_pt u_tg u_sn b_ip u_ic b_ah b_be b_me u_wd b_tr b_ld u_st b_wn u_id)), (b_tp, (arI G 400 v_tp))]) hP hD hS hA [5, 0] (by decide) rfl
              refine va_callv (va_runV (As := [.int 0]) (rest := []) ⟨hx, hb, hml, hown, hts⟩ (n_must0 l G b_o b_tp b_rf b_ro b_im b_ke b_nl b_op b_ar b_pi b_pa b_ws b_hw b_se b_re b_pt b_ip b_ah b_be b_me b_tr b_ld b_wn H.size u_th u_sa u_fd u_td u_fr u_to u_so u_fa u_bd u_nc u_co u_le u_pd u_od u_la u_bk u_ce u_ho u_wy u_bt u_ps u_tg u_sn u_ic u_wd u_id u_wo u_va u_su u_st v_tp h_u_td h_u_fr h_u_to h_u_bd h_u_nc h_u_co h_u_pd h_u_la h_u_bk h_u_ce h_u_ho h_u_wy h_u_bt h_u_ps h_u_ic h_u_id) (cwV 1 hts gV_X12_233 rfl rfl rfl hv_X12_must ⟨Nat.le_of_ble_eq_true rfl, Nat.le_of_ble_eq_true rfl⟩) (g5_preV hPc hK hDc hN hT hS hFc (ci := 12) (q0 := 0) rfl rfl) rfl rfl hl.1 rfl (lv_room (Nat.le_of_ble_eq_true rfl)) dX12_behindTest_93 ⟨Nat.le_of_ble_eq_true rfl, Nat.le_of_ble_eq_true rfl⟩) hS (fun q _ h => hFc q h) hFc (fun u t H1 locs ht hvm hw hB hz1 hk1 hS => ?_)
              obtain ⟨hP1, hD1⟩ := hB
              rw [ht] at hP1
              obtain rfl := hw
              obtain ⟨hP, hD⟩ := va_join (wr := [(b_op, (arI G 400 v_op)), (b_ar, (arI G 400 v_ar)), (b_pa, (arI G 400 v_pa)), (b_pi, (arI G 400 v_pi))]) hP hD [5, 0] [1, 2, 3, 4] rfl rfl (by decide) (by decide) hk1 hFc hP1 hD1
              generalize H1 = H at hP hS ⊢
              refine g5_rs [(b_op, (arI G 400 v_op)), (b_ar, (arI G 400 v_ar)), (b_pa, (arI G 400 v_pa)), (b_pi, (arI G 400 v_pi)), (b_o, (oc12 u_th u_sa b_rf b_ro b_im b_ke u_fd b_tp u_td u_fr u_to u_so u_wo u_fr 1 u_nc b_nl u_co b_op b_ar u_le b_pi b_pa u_pd u_od b_ws b_hw u_la b_se b_re u_bk u_va u_su u_ce u_ho u_wy u_bt u_ps b_pt u_tg u_sn b_ip u_ic b_ah b_be b_me u_wd b_tr b_ld u_st b_wn u_id)), (b_tp, (arI G 400 v_tp))] hP hD (fun hP hD => ?_)
              refine lv_aload_n hx hb dX12_behindTest_96 rfl (lv_at hl 1 rfl) ?_
              refine va_get (D := G.1) (ci := 12) (v := .int 1) (C := RX12) (T := TX12) (N := 52) hx hb hts inG_X12 hown hK hP 4 rfl rfl 14 (by decide) (hts _ fl_X12_205) (fun _ h9 => h9) rfl dX12_behindTest_97 ?_
              refine lv_if_ne (tgt := 128) hx hb dX12_behindTest_100 (by decide) (fun c_92 => ?_) (fun c_92 => ?_)
              ·
                refine lv_iconst (v := 2) hx hb dX12_behindTest_128 (by decide) ?_
                exact W.iret (v := 2) hx hb hr (fun t ht hW => ⟨⟨2, [(b_o, (oc12 u_th u_sa b_rf b_ro b_im b_ke u_fd b_tp u_td u_fr u_to u_so u_wo u_fr 1 u_nc b_nl u_co b_op b_ar u_le b_pi b_pa u_pd u_od b_ws b_hw u_la b_se b_re u_bk u_va u_su u_ce u_ho u_wy u_bt u_ps b_pt u_tg u_sn b_ip u_ic b_ah b_be b_me u_wd b_tr b_ld u_st b_wn u_id)), (b_tp, (arI G 400 v_tp)), (b_op, (arI G 400 v_op)), (b_ar, (arI G 400 v_ar)), (b_pi, (arI G 400 v_pi)), (b_pa, (arI G 400 v_pa))], rfl, Or.inl (⟨2, ⟨by have zc_o_r : (2 : Int32).toInt = 2 := (by decide); omega, by have zc_o_r : (2 : Int32).toInt = 2 := (by decide); omega⟩, rfl, rfl⟩), by rw [ht]; exact hP.sub [4, 5, 0, 1, 3, 2] rfl, hD.sub [4, 5, 0, 1, 3, 2] (by decide) rfl⟩, hS.F ht⟩) hS.2.2 dX12_behindTest_129
              ·
                exact absurd c_92 (by decide)
          ·
            have i_68 : z66.toInt = (-1) := by have z := g5_neN (a := z66.toInt) (b := (-1)) (by rfl) (by decide) c_68; omega
            refine lv_iconst (v := 4) hx hb dX12_behindTest_84 (by decide) ?_
            exact W.iret (v := 4) hx hb hr (fun t ht hW => ⟨⟨4, [(b_o, (oc12 u_th u_sa b_rf b_ro b_im b_ke u_fd b_tp u_td u_fr u_to u_so u_wo u_fa u_bd u_nc b_nl u_co b_op b_ar u_le b_pi b_pa u_pd u_od b_ws b_hw u_la b_se b_re u_bk u_va u_su u_ce u_ho u_wy u_bt u_ps b_pt u_tg u_sn b_ip u_ic b_ah b_be b_me u_wd b_tr b_ld u_st b_wn u_id)), (b_tp, (arI G 400 v_tp)), (b_op, (arI G 400 v_op)), (b_ar, (arI G 400 v_ar)), (b_pi, (arI G 400 v_pi)), (b_pa, (arI G 400 v_pa))], rfl, Or.inr (⟨4, u_fr, u_to, u_so, u_wo, u_co, u_pd, u_od, v_op, v_ar, v_pi, v_pa, h_u_fr, h_u_to, h_u_co, h_u_pd, ⟨by have zc_o_r : (4 : Int32).toInt = 4 := (by decide); omega, by have zc_o_r : (4 : Int32).toInt = 4 := (by decide); omega⟩, by omega, e_s, e_x, tj_4 (tj_d1 e_j (by decide)) (by decide) (inn_no30 i_65 (by omega)), by have w9 := (twt_0 (by decide) : twt (4 : Int32).toInt = 0); omega, rfl, rfl⟩), by rw [ht]; exact hP.sub [4, 0, 1, 2, 5, 3] rfl, hD.sub [4, 0, 1, 2, 5, 3] (by decide) rfl⟩, hS.F ht⟩) hS.2.2 dX12_behindTest_85
        ·
          exact absurd c_64 (by decide)
