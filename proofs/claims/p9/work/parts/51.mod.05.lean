set_option maxHeartbeats 4000000 in
set_option maxRecDepth 100000 in
theorem n_readPart (l : Launch) (G : g5_G) (b_o b_tp b_op b_ar b_pi b_pa b_ws b_rf b_ro b_im b_ke b_nl b_hw b_se b_re b_pt b_ip b_ah b_be b_me b_tr b_ld b_wn : Nat) (sz : Nat) (u_th : Int32) (u_sa : Int32) (u_fd : Int32) (u_td : Int32) (u_fr : Int32) (u_to : Int32) (u_so : Int32) (u_fa : Int32) (u_bd : Int32) (u_nc : Int32) (u_co : Int32) (u_le : Int32) (u_pd : Int32) (u_od : Int32) (u_la : Int32) (u_bk : Int32) (u_ce : Int32) (u_ho : Int32) (u_wy : Int32) (u_bt : Int32) (u_ps : Int32) (u_tg : Int32) (u_sn : Int32) (u_ic : Int32) (u_wd : Int32) (u_id : Int32) (g_a : Int32) (u_wo : Int64) (u_va : Int64) (u_su : Int64) (u_st : Int64) (v_tp : Nat → Int32) (v_op : Nat → Int32) (v_ar : Nat → Int32) (v_pi : Nat → Int32) (v_pa : Nat → Int32) (v_ws : Nat → Int64) (g_op : Nat → Int32) (g_ar : Nat → Int32) (h_u_td : 0 ≤ u_td.toInt ∧ u_td.toInt ≤ 400) (h_u_fr : 0 ≤ u_fr.toInt ∧ u_fr.toInt ≤ 400) (h_u_to : 0 ≤ u_to.toInt ∧ u_to.toInt ≤ 400) (h_u_bd : 0 ≤ u_bd.toInt ∧ u_bd.toInt ≤ 0) (h_u_nc : 0 ≤ u_nc.toInt ∧ u_nc.toInt ≤ 12) (h_u_co : 0 ≤ u_co.toInt ∧ u_co.toInt ≤ 400) (h_u_pd : 0 ≤ u_pd.toInt ∧ u_pd.toInt ≤ 400) (h_u_la : 0 ≤ u_la.toInt ∧ u_la.toInt ≤ 4840) (h_u_bk : 0 ≤ u_bk.toInt ∧ u_bk.toInt ≤ 1) (h_u_ce : 0 ≤ u_ce.toInt ∧ u_ce.toInt ≤ 63) (h_u_ho : 0 ≤ u_ho.toInt ∧ u_ho.toInt ≤ 23) (h_u_wy : 0 ≤ u_wy.toInt ∧ u_wy.toInt ≤ 3) (h_u_bt : 0 ≤ u_bt.toInt ∧ u_bt.toInt ≤ 1000000) (h_u_ps : 0 ≤ u_ps.toInt ∧ u_ps.toInt ≤ 200) (h_u_ic : 0 ≤ u_ic.toInt ∧ u_ic.toInt ≤ 1) (h_u_id : 0 ≤ u_id.toInt ∧ u_id.toInt ≤ 1) (e_t : u_fr.toInt ≤ u_to.toInt ∧ u_to.toInt ≤ u_td.toInt) (e_s : TKs u_so.toInt u_fr.toInt u_to.toInt) (e_x : XJ g_op g_ar v_op v_ar v_pi v_pa g_a.toInt u_co.toInt u_pd.toInt u_fr.toInt) (e_j : TJ v_op v_ar v_pi v_pa g_a.toInt u_co.toInt u_pd.toInt 1) : Met l yX12_readPart (wsG yX12_readPart cX12_readPart 3 (some .int)) ({ frames := 4, cells := 0, slots := 0, locals := 84 }) (va_Pc [.ref b_o] (g5_P G [(b_o, (oc12 u_th u_sa b_rf b_ro b_im b_ke u_fd b_tp u_td u_fr u_to u_so u_wo u_fa u_bd u_nc b_nl u_co b_op b_ar u_le b_pi b_pa u_pd u_od b_ws b_hw u_la b_se b_re u_bk u_va u_su u_ce u_ho u_wy u_bt u_ps b_pt u_tg u_sn b_ip u_ic b_ah b_be b_me u_wd b_tr b_ld u_st b_wn u_id)), (b_tp, (arI G 400 v_tp)), (b_op, (arI G 400 v_op)), (b_ar, (arI G 400 v_ar)), (b_pi, (arI G 400 v_pi)), (b_pa, (arI G 400 v_pa)), (b_ws, (arJ G 8 v_ws))] sz)) (va_Qi (fun (r : Int32) (u : va_W) => (∃ (o_r : Int32), (0 ≤ o_r.toInt ∧ o_r.toInt ≤ 4) ∧ (r = o_r) ∧ (u = [(b_o, (oc12 u_th u_sa b_rf b_ro b_im b_ke u_fd b_tp u_td u_fr u_to u_so u_wo u_fr 1 u_nc b_nl u_co b_op b_ar u_le b_pi b_pa u_pd u_od b_ws b_hw u_la b_se b_re u_bk u_va u_su u_ce u_ho u_wy u_bt u_ps b_pt u_tg u_sn b_ip u_ic b_ah b_be b_me u_wd b_tr b_ld u_st b_wn u_id)), (b_tp, (arI G 400 v_tp)), (b_op, (arI G 400 v_op)), (b_ar, (arI G 400 v_ar)), (b_pi, (arI G 400 v_pi)), (b_pa, (arI G 400 v_pa)), (b_ws, (arJ G 8 v_ws))])) ∨ (∃ (o_r : Int32) (o_fr : Int32) (o_to : Int32) (o_so : Int32) (o_wo : Int64) (o_co : Int32) (o_le : Int32) (o_pd : Int32) (o_od : Int32) (o_op : Nat → Int32) (o_ar : Nat → Int32) (o_pi : Nat → Int32) (o_pa : Nat → Int32), (0 ≤ o_fr.toInt ∧ o_fr.toInt ≤ 400) ∧ (0 ≤ o_to.toInt ∧ o_to.toInt ≤ 400) ∧ (0 ≤ o_co.toInt ∧ o_co.toInt ≤ 400) ∧ (0 ≤ o_pd.toInt ∧ o_pd.toInt ≤ 400) ∧ (0 ≤ o_r.toInt ∧ o_r.toInt ≤ 4) ∧ (u_fr.toInt ≤ o_fr.toInt ∧ o_fr.toInt ≤ o_to.toInt ∧ o_to.toInt ≤ u_td.toInt) ∧ (TKs o_so.toInt o_fr.toInt o_to.toInt) ∧ (XJ g_op g_ar o_op o_ar o_pi o_pa g_a.toInt o_co.toInt o_pd.toInt o_fr.toInt) ∧ (TJ o_op o_ar o_pi o_pa g_a.toInt o_co.toInt o_pd.toInt o_r.toInt) ∧ (twt o_r.toInt + 1 ≤ 0 + 3 * (o_fr.toInt - u_fr.toInt)) ∧ (r = o_r) ∧ (u = [(b_o, (oc12 u_th u_sa b_rf b_ro b_im b_ke u_fd b_tp u_td o_fr o_to o_so o_wo u_fa u_bd u_nc b_nl o_co b_op b_ar o_le b_pi b_pa o_pd o_od b_ws b_hw u_la b_se b_re u_bk u_va u_su u_ce u_ho u_wy u_bt u_ps b_pt u_tg u_sn b_ip u_ic b_ah b_be b_me u_wd b_tr b_ld u_st b_wn u_id)), (b_tp, (arI G 400 v_tp)), (b_op, (arI G 400 o_op)), (b_ar, (arI G 400 o_ar)), (b_pi, (arI G 400 o_pi)), (b_pa, (arI G 400 o_pa)), (b_ws, (arJ G 8 v_ws))]))) (g5_B G (va_A [(b_o, (oc12 u_th u_sa b_rf b_ro b_im b_ke u_fd b_tp u_td u_fr u_to u_so u_wo u_fa u_bd u_nc b_nl u_co b_op b_ar u_le b_pi b_pa u_pd u_od b_ws b_hw u_la b_se b_re u_bk u_va u_su u_ce u_ho u_wy u_bt u_ps b_pt u_tg u_sn b_ip u_ic b_ah b_be b_me u_wd b_tr b_ld u_st b_wn u_id)), (b_tp, (arI G 400 v_tp)), (b_op, (arI G 400 v_op)), (b_ar, (arI G 400 v_ar)), (b_pi, (arI G 400 v_pi)), (b_pa, (arI G 400 v_pa)), (b_ws, (arJ G 8 v_ws))] sz)) (va_A [(b_o, (oc12 u_th u_sa b_rf b_ro b_im b_ke u_fd b_tp u_td u_fr u_to u_so u_wo u_fa u_bd u_nc b_nl u_co b_op b_ar u_le b_pi b_pa u_pd u_od b_ws b_hw u_la b_se b_re u_bk u_va u_su u_ce u_ho u_wy u_bt u_ps b_pt u_tg u_sn b_ip u_ic b_ah b_be b_me u_wd b_tr b_ld u_st b_wn u_id)), (b_tp, (arI G 400 v_tp)), (b_op, (arI G 400 v_op)), (b_ar, (arI G 400 v_ar)), (b_pi, (arI G 400 v_pi)), (b_pa, (arI G 400 v_pa)), (b_ws, (arJ G 8 v_ws))] sz)) 0 0 (va_A [(b_o, (oc12 u_th u_sa b_rf b_ro b_im b_ke u_fd b_tp u_td u_fr u_to u_so u_wo u_fa u_bd u_nc b_nl u_co b_op b_ar u_le b_pi b_pa u_pd u_od b_ws b_hw u_la b_se b_re u_bk u_va u_su u_ce u_ho u_wy u_bt u_ps b_pt u_tg u_sn b_ip u_ic b_ah b_be b_me u_wd b_tr b_ld u_st b_wn u_id)), (b_tp, (arI G 400 v_tp)), (b_op, (arI G 400 v_op)), (b_ar, (arI G 400 v_ar)), (b_pi, (arI G 400 v_pi)), (b_pa, (arI G 400 v_pa)), (b_ws, (arJ G 8 v_ws))] sz) := by
  refine Met.ofW (cc := cX12_readPart) (maxL := 3) (ret := (some .int)) (by decide) rfl ?_
  intro p e s m args below meth c s₁ B hml hv
  obtain ⟨rfl, hsz, hP, hK, hD0, hN, hT⟩ := hv
  have hx := B.exec
  have hb := B.bytes
  have hr := B.returns
  have hts : ∀ w ∈ tblG, w.before _ s = true := fun w h => atoms_spec (ws := (wsG yX12_readPart cX12_readPart 3 (some .int))) B.pre w (List.mem_cons_of_mem _ h)
  have hown : s.vm.findClass RX12 = some m.cls := findClass_of_methodNamed B.named
  have hlocks := B.notSynchronized
  subst hsz
  have hD := hD0.self (sz := s.heap.size)
  generalize hAe : va_A [(b_o, (oc12 u_th u_sa b_rf b_ro b_im b_ke u_fd b_tp u_td u_fr u_to u_so u_wo u_fa u_bd u_nc b_nl u_co b_op b_ar u_le b_pi b_pa u_pd u_od b_ws b_hw u_la b_se b_re u_bk u_va u_su u_ce u_ho u_wy u_bt u_ps b_pt u_tg u_sn b_ip u_ic b_ah b_be b_me u_wd b_tr b_ld u_st b_wn u_id)), (b_tp, (arI G 400 v_tp)), (b_op, (arI G 400 v_op)), (b_ar, (arI G 400 v_ar)), (b_pi, (arI G 400 v_pi)), (b_pa, (arI G 400 v_pa)), (b_ws, (arJ G 8 v_ws))] s.heap.size = A at hD hT ⊢
  have hA : ∀ q : Nat, s.heap.size ≤ q → A q := fun q h => by rw [← hAe]; exact Or.inr h
  have hS : va_S A s.heap s.heap [] := va_S.rf
  have hP : va_P G.1 vwCl [(b_o, (oc12 u_th u_sa b_rf b_ro b_im b_ke u_fd b_tp u_td u_fr u_to u_so u_wo u_fa u_bd u_nc b_nl u_co b_op b_ar u_le b_pi b_pa u_pd u_od b_ws b_hw u_la b_se b_re u_bk u_va u_su u_ce u_ho u_wy u_bt u_ps b_pt u_tg u_sn b_ip u_ic b_ah b_be b_me u_wd b_tr b_ld u_st b_wn u_id)), (b_tp, (arI G 400 v_tp)), (b_op, (arI G 400 v_op)), (b_ar, (arI G 400 v_ar)), (b_pi, (arI G 400 v_pi)), (b_pa, (arI G 400 v_pa)), (b_ws, (arJ G 8 v_ws))] s.heap := hP
  have hl := lv_entry ([.ref b_o]) (n := 3) (Nat.le_of_ble_eq_true rfl)
  rw [lg_entry_eq]
  generalize (lg_sl ([.ref b_o]) ++ List.replicate (3 - (lg_sl ([.ref b_o])).length) Slot.unset).toArray = ls at hl ⊢
  have hl : lv_has ls 3 [(0, .ref b_o)] := hl
  have hmf9 := xj_mf e_x
  refine lv_aload_n hx hb dX12_readPart_0 rfl (lv_at hl 0 rfl) ?_
  refine lv_bipush (v := 91) hx hb dX12_readPart_1 (by decide) ?_
  obtain ⟨hPc, hDc, hFc⟩ := g5_sub3 (wc := [(b_o, (oc12 u_th u_sa b_rf b_ro b_im b_ke u_fd b_tp u_td u_fr u_to u_so u_wo u_fa u_bd u_nc b_nl u_co b_op b_ar u_le b_pi b_pa u_pd u_od b_ws b_hw u_la b_se b_re u_bk u_va u_su u_ce u_ho u_wy u_bt u_ps b_pt u_tg u_sn b_ip u_ic b_ah b_be b_me u_wd b_tr b_ld u_st b_wn u_id))]) hP hD hS hA [0] (by decide) rfl
  refine va_calli (va_runV (As := [.int 91]) (rest := []) ⟨hx, hb, hml, hown, hts⟩ (n_isSign l G b_o b_rf b_ro b_im b_ke b_tp b_nl b_op b_ar b_pi b_pa b_ws b_hw b_se b_re b_pt b_ip b_ah b_be b_me b_tr b_ld b_wn s.heap.size u_th u_sa u_fd u_td u_fr u_to u_so u_fa u_bd u_nc u_co u_le u_pd u_od u_la u_bk u_ce u_ho u_wy u_bt u_ps u_tg u_sn u_ic u_wd u_id 91 u_wo u_va u_su u_st h_u_td h_u_fr h_u_to ⟨by omega, by omega⟩ h_u_nc h_u_co h_u_pd h_u_la h_u_bk h_u_ce h_u_ho h_u_wy h_u_bt h_u_ps h_u_ic h_u_id) (cwV 1 hts gV_X12_267 rfl rfl rfl hv_X12_isSign ⟨Nat.le_of_ble_eq_true rfl, Nat.le_of_ble_eq_true rfl⟩) (g5_preV hPc hK hDc hN hT hS hFc (ci := 12) (q0 := 0) rfl rfl) rfl rfl hl.1 rfl (lv_room (Nat.le_of_ble_eq_true rfl)) dX12_readPart_3 ⟨Nat.le_of_ble_eq_true rfl, Nat.le_of_ble_eq_true rfl⟩) hS (fun q _ h => hFc q h) hFc (fun r u t H1 locs ht hvm hw hB hz1 hk1 hS => ?_)
  obtain ⟨hP1, hD1⟩ := hB
  rw [ht] at hP1
  rcases hw with ⟨i_1, rfl, rfl⟩ | ⟨rfl, rfl⟩
  ·
    have i_1 : u_so.toInt = 3 := i_1
    obtain ⟨hP, hD⟩ := va_join (wr := [(b_tp, (arI G 400 v_tp)), (b_op, (arI G 400 v_op)), (b_ar, (arI G 400 v_ar)), (b_pi, (arI G 400 v_pi)), (b_pa, (arI G 400 v_pa)), (b_ws, (arJ G 8 v_ws))]) hP hD [0] [1, 2, 3, 4, 5, 6] rfl rfl (by decide) (by decide) hk1 hFc hP1 hD1
    generalize H1 = H at hP hS ⊢
    refine g5_rs [(b_tp, (arI G 400 v_tp)), (b_op, (arI G 400 v_op)), (b_ar, (arI G 400 v_ar)), (b_pi, (arI G 400 v_pi)), (b_pa, (arI G 400 v_pa)), (b_ws, (arJ G 8 v_ws)), (b_o, (oc12 u_th u_sa b_rf b_ro b_im b_ke u_fd b_tp u_td u_fr u_to u_so u_wo u_fa u_bd u_nc b_nl u_co b_op b_ar u_le b_pi b_pa u_pd u_od b_ws b_hw u_la b_se b_re u_bk u_va u_su u_ce u_ho u_wy u_bt u_ps b_pt u_tg u_sn b_ip u_ic b_ah b_be b_me u_wd b_tr b_ld u_st b_wn u_id))] hP hD (fun hP hD => ?_)
    refine lv_if_eq (tgt := 17) hx hb dX12_readPart_6 (by decide) (fun c_2 => ?_) (fun c_2 => ?_)
    ·
      exact absurd c_2 (by decide)
    ·
      have hlt9 : u_fr.toInt < u_to.toInt := tks_lt e_s (by omega)
      refine lv_aload_n hx hb dX12_readPart_9 rfl (lv_at hl 0 rfl) ?_
      refine lv_bipush (v := 31) hx hb dX12_readPart_10 (by decide) ?_
      obtain ⟨hPc, hDc, hFc⟩ := g5_sub3 (wc := [(b_o, (oc12 u_th u_sa b_rf b_ro b_im b_ke u_fd b_tp u_td u_fr u_to u_so u_wo u_fa u_bd u_nc b_nl u_co b_op b_ar u_le b_pi b_pa u_pd u_od b_ws b_hw u_la b_se b_re u_bk u_va u_su u_ce u_ho u_wy u_bt u_ps b_pt u_tg u_sn b_ip u_ic b_ah b_be b_me u_wd b_tr b_ld u_st b_wn u_id)), (b_tp, (arI G 400 v_tp)), (b_pi, (arI G 400 v_pi)), (b_pa, (arI G 400 v_pa))]) hP hD hS hA [6, 0, 3, 4] (by decide) rfl
      refine va_callv (va_runV (As := [.int 31]) (rest := []) ⟨hx, hb, hml, hown, hts⟩ (n_openBracket l G b_o b_tp b_pi b_pa b_rf b_ro b_im b_ke b_nl b_op b_ar b_ws b_hw b_se b_re b_pt b_ip b_ah b_be b_me b_tr b_ld b_wn H.size u_th u_sa u_fd u_td u_fr u_to u_so u_fa u_bd u_nc u_co u_le u_pd u_od u_la u_bk u_ce u_ho u_wy u_bt u_ps u_tg u_sn u_ic u_wd u_id 31 u_wo u_va u_su u_st v_tp v_pi v_pa h_u_td h_u_fr h_u_to h_u_bd h_u_nc h_u_co h_u_pd h_u_la h_u_bk h_u_ce h_u_ho h_u_wy h_u_bt h_u_ps h_u_ic h_u_id ⟨by decide, by decide⟩ (by omega) (by omega)) (cwV 1 hts gV_X12_270 rfl rfl rfl hv_X12_openBracket ⟨Nat.le_of_ble_eq_true rfl, Nat.le_of_ble_eq_true rfl⟩) (g5_preV hPc hK hDc hN hT hS hFc (ci := 12) (q0 := 0) rfl rfl) rfl rfl hl.1 rfl (lv_room (Nat.le_of_ble_eq_true rfl)) dX12_readPart_12 ⟨Nat.le_of_ble_eq_true rfl, Nat.le_of_ble_eq_true rfl⟩) hS (fun q _ h => hFc q h) hFc (fun u t H1 locs ht hvm hw hB hz1 hk1 hS => ?_)
      obtain ⟨hP1, hD1⟩ := hB
      rw [ht] at hP1
      rcases hw with rfl | ⟨z9, z10, z11, z12, z13, z14, i_3, i_4, i_5, i_6, i_7, i_8, rfl⟩
      ·
        obtain ⟨hP, hD⟩ := va_join (wr := [(b_op, (arI G 400 v_op)), (b_ar, (arI G 400 v_ar)), (b_ws, (arJ G 8 v_ws))]) hP hD [6, 0, 3, 4] [1, 2, 5] rfl rfl (by decide) (by decide) hk1 hFc hP1 hD1
        generalize H1 = H at hP hS ⊢
        refine g5_rs [(b_op, (arI G 400 v_op)), (b_ar, (arI G 400 v_ar)), (b_ws, (arJ G 8 v_ws)), (b_o, (oc12 u_th u_sa b_rf b_ro b_im b_ke u_fd b_tp u_td u_fr u_to u_so u_wo u_fr 1 u_nc b_nl u_co b_op b_ar u_le b_pi b_pa u_pd u_od b_ws b_hw u_la b_se b_re u_bk u_va u_su u_ce u_ho u_wy u_bt u_ps b_pt u_tg u_sn b_ip u_ic b_ah b_be b_me u_wd b_tr b_ld u_st b_wn u_id)), (b_tp, (arI G 400 v_tp)), (b_pi, (arI G 400 v_pi)), (b_pa, (arI G 400 v_pa))] hP hD (fun hP hD => ?_)
        refine lv_iconst (v := 1) hx hb dX12_readPart_15 (by decide) ?_
        exact W.iret (v := 1) hx hb hr (fun t ht hW => ⟨⟨1, [(b_o, (oc12 u_th u_sa b_rf b_ro b_im b_ke u_fd b_tp u_td u_fr u_to u_so u_wo u_fr 1 u_nc b_nl u_co b_op b_ar u_le b_pi b_pa u_pd u_od b_ws b_hw u_la b_se b_re u_bk u_va u_su u_ce u_ho u_wy u_bt u_ps b_pt u_tg u_sn b_ip u_ic b_ah b_be b_me u_wd b_tr b_ld u_st b_wn u_id)), (b_tp, (arI G 400 v_tp)), (b_op, (arI G 400 v_op)), (b_ar, (arI G 400 v_ar)), (b_pi, (arI G 400 v_pi)), (b_pa, (arI G 400 v_pa)), (b_ws, (arJ G 8 v_ws))], rfl, Or.inl (⟨1, ⟨by have zc_o_r : (1 : Int32).toInt = 1 := (by decide); omega, by have zc_o_r : (1 : Int32).toInt = 1 := (by decide); omega⟩, rfl, rfl⟩), by rw [ht]; exact hP.sub [3, 4, 0, 1, 5, 6, 2] rfl, hD.sub [3, 4, 0, 1, 5, 6, 2] (by decide) rfl⟩, hS.F ht⟩) hS.2.2 dX12_readPart_16
      ·
        have i_3 : 0 ≤ z9.toInt ∧ z9.toInt ≤ 400 := i_3
        have i_4 : 0 ≤ z10.toInt ∧ z10.toInt ≤ 400 := i_4
        have i_5 : 0 ≤ z13.toInt ∧ z13.toInt ≤ 400 := i_5
        have i_6 : u_to.toInt ≤ z9.toInt ∧ z9.toInt ≤ z10.toInt ∧ z10.toInt ≤ u_td.toInt := i_6
        have i_7 : TKs z11.toInt z9.toInt z10.toInt := i_7
        have i_8 : z13.toInt = u_pd.toInt + 1 := i_8
        obtain ⟨hP, hD⟩ := va_join (wr := [(b_op, (arI G 400 v_op)), (b_ar, (arI G 400 v_ar)), (b_ws, (arJ G 8 v_ws))]) hP hD [6, 0, 3, 4] [1, 2, 5] rfl rfl (by decide) (by decide) hk1 hFc hP1 hD1
        generalize H1 = H at hP hS ⊢
        refine g5_rs [(b_op, (arI G 400 v_op)), (b_ar, (arI G 400 v_ar)), (b_ws, (arJ G 8 v_ws)), (b_o, (oc12 u_th u_sa b_rf b_ro b_im b_ke u_fd b_tp u_td z9 z10 z11 z12 u_fa u_bd u_nc b_nl u_co b_op b_ar u_le b_pi b_pa z13 z14 b_ws b_hw u_la b_se b_re u_bk u_va u_su u_ce u_ho u_wy u_bt u_ps b_pt u_tg u_sn b_ip u_ic b_ah b_be b_me u_wd b_tr b_ld u_st b_wn u_id)), (b_tp, (arI G 400 v_tp)), (b_pi, (arI G 400 (upd v_pi u_pd.toNatClampNeg 31))), (b_pa, (arI G 400 (upd v_pa u_pd.toNatClampNeg 0)))] hP hD (fun hP hD => ?_)
        refine lv_iconst (v := 1) hx hb dX12_readPart_15 (by decide) ?_
        exact W.iret (v := 1) hx hb hr (fun t ht hW => ⟨⟨1, [(b_o, (oc12 u_th u_sa b_rf b_ro b_im b_ke u_fd b_tp u_td z9 z10 z11 z12 u_fa u_bd u_nc b_nl u_co b_op b_ar u_le b_pi b_pa z13 z14 b_ws b_hw u_la b_se b_re u_bk u_va u_su u_ce u_ho u_wy u_bt u_ps b_pt u_tg u_sn b_ip u_ic b_ah b_be b_me u_wd b_tr b_ld u_st b_wn u_id)), (b_tp, (arI G 400 v_tp)), (b_op, (arI G 400 v_op)), (b_ar, (arI G 400 v_ar)), (b_pi, (arI G 400 (upd v_pi u_pd.toNatClampNeg 31))), (b_pa, (arI G 400 (upd v_pa u_pd.toNatClampNeg 0))), (b_ws, (arJ G 8 v_ws))], rfl, Or.inr (⟨1, z9, z10, z11, z12, u_co, u_le, z13, z14, v_op, v_ar, (upd v_pi u_pd.toNatClampNeg 31), (upd v_pa u_pd.toNatClampNeg 0), i_3, i_4, h_u_co, i_5, ⟨by have zc_o_r : (1 : Int32).toInt = 1 := (by decide); omega, by have zc_o_r : (1 : Int32).toInt = 1 := (by decide); omega⟩, by omega, i_7, xj_push e_x (by omega) (by omega) ⟨by decide, by decide⟩ (Or.inr (by decide)), tj_1 (hj_push0 (tj_d0 e_j (Or.inr rfl)) (by omega) (by omega) (Or.inr (by decide)) (Or.inl (by decide))) (by decide), by have w9 := (twt_0 (by decide) : twt (1 : Int32).toInt = 0); omega, rfl, rfl⟩), by rw [ht]; exact hP.sub [3, 4, 0, 1, 5, 6, 2] rfl, hD.sub [3, 4, 0, 1, 5, 6, 2] (by decide) rfl⟩, hS.F ht⟩) hS.2.2 dX12_readPart_16
  ·
    obtain ⟨hP, hD⟩ := va_join (wr := [(b_tp, (arI G 400 v_tp)), (b_op, (arI G 400 v_op)), (b_ar, (arI G 400 v_ar)), (b_pi, (arI G 400 v_pi)), (b_pa, (arI G 400 v_pa)), (b_ws, (arJ G 8 v_ws))]) hP hD [0] [1, 2, 3, 4, 5, 6] rfl rfl (by decide) (by decide) hk1 hFc hP1 hD1
    generalize H1 = H at hP hS ⊢
    refine g5_rs [(b_tp, (arI G 400 v_tp)), (b_op, (arI G 400 v_op)), (b_ar, (arI G 400 v_ar)), (b_pi, (arI G 400 v_pi)), (b_pa, (arI G 400 v_pa)), (b_ws, (arJ G 8 v_ws)), (b_o, (oc12 u_th u_sa b_rf b_ro b_im b_ke u_fd b_tp u_td u_fr u_to u_so u_wo u_fa u_bd u_nc b_nl u_co b_op b_ar u_le b_pi b_pa u_pd u_od b_ws b_hw u_la b_se b_re u_bk u_va u_su u_ce u_ho u_wy u_bt u_ps b_pt u_tg u_sn b_ip u_ic b_ah b_be b_me u_wd b_tr b_ld u_st b_wn u_id))] hP hD (fun hP hD => ?_)
    refine lv_if_eq (tgt := 17) hx hb dX12_readPart_6 (by decide) (fun c_15 => ?_) (fun c_15 => ?_)
    ·
      refine lv_aload_n hx hb dX12_readPart_17 rfl (lv_at hl 0 rfl) ?_
      obtain ⟨hPc, hDc, hFc⟩ := g5_sub3 (wc := [(b_o, (oc12 u_th u_sa b_rf b_ro b_im b_ke u_fd b_tp u_td u_fr u_to u_so u_wo u_fa u_bd u_nc b_nl u_co b_op b_ar u_le b_pi b_pa u_pd u_od b_ws b_hw u_la b_se b_re u_bk u_va u_su u_ce u_ho u_wy u_bt u_ps b_pt u_tg u_sn b_ip u_ic b_ah b_be b_me u_wd b_tr b_ld u_st b_wn u_id)), (b_ws, (arJ G 8 v_ws))]) hP hD hS hA [6, 5] (by decide) rfl
      refine va_calli (va_runV (As := []) (rest := []) ⟨hx, hb, hml, hown, hts⟩ (n_partAt l G b_o b_ws b_rf b_ro b_im b_ke b_tp b_nl b_op b_ar b_pi b_pa b_hw b_se b_re b_pt b_ip b_ah b_be b_me b_tr b_ld b_wn H.size u_th u_sa u_fd u_td u_fr u_to u_so u_fa u_bd u_nc u_co u_le u_pd u_od u_la u_bk u_ce u_ho u_wy u_bt u_ps u_tg u_sn u_ic u_wd u_id u_wo u_va u_su u_st v_ws h_u_td h_u_fr h_u_to ⟨by omega, by omega⟩ h_u_nc h_u_co h_u_pd h_u_la h_u_bk h_u_ce h_u_ho h_u_wy h_u_bt h_u_ps h_u_ic h_u_id) (cwV 0 hts gV_X12_273 rfl rfl rfl hv_X12_partAt ⟨Nat.le_of_ble_eq_true rfl, Nat.le_of_ble_eq_true rfl⟩) (g5_preV hPc hK hDc hN hT hS hFc (ci := 12) (q0 := 0) rfl rfl) rfl rfl hl.1 rfl (lv_room (Nat.le_of_ble_eq_true rfl)) dX12_readPart_18 ⟨Nat.le_of_ble_eq_true rfl, Nat.le_of_ble_eq_true rfl⟩) hS (fun q _ h => hFc q h) hFc (fun r u t H1 locs ht hvm hw hB hz1 hk1 hS => ?_)
      obtain ⟨hP1, hD1⟩ := hB
      rw [ht] at hP1
      obtain ⟨z18, i_16, i_17, y19, rfl⟩ := hw
      have i_16 : -1 ≤ z18.toInt ∧ z18.toInt ≤ 8 := i_16
      have i_17 : z18.toInt = -1 ∨ u_so.toInt = 1 := i_17
      obtain ⟨hP, hD⟩ := va_join (wr := [(b_tp, (arI G 400 v_tp)), (b_op, (arI G 400 v_op)), (b_ar, (arI G 400 v_ar)), (b_pi, (arI G 400 v_pi)), (b_pa, (arI G 400 v_pa))]) hP hD [6, 5] [0, 1, 2, 3, 4] rfl rfl (by decide) (by decide) hk1 hFc hP1 hD1
      generalize H1 = H at hP hS ⊢
      refine g5_rs [(b_tp, (arI G 400 v_tp)), (b_op, (arI G 400 v_op)), (b_ar, (arI G 400 v_ar)), (b_pi, (arI G 400 v_pi)), (b_pa, (arI G 400 v_pa)), (b_o, (oc12 u_th u_sa b_rf b_ro b_im b_ke u_fd b_tp u_td u_fr u_to u_so u_wo u_fa u_bd u_nc b_nl u_co b_op b_ar u_le b_pi b_pa u_pd u_od b_ws b_hw u_la b_se b_re u_bk u_va u_su u_ce u_ho u_wy u_bt u_ps b_pt u_tg u_sn b_ip u_ic b_ah b_be b_me u_wd b_tr b_ld u_st b_wn u_id)), (b_ws, (arJ G 8 v_ws))] hP hD (fun hP hD => ?_)
      refine g5_ti (v := z18) y19 ?_
      refine lv_istore_n (lv' := [(1, .int z18), (0, .ref b_o)]) hx hb dX12_readPart_21 rfl hl (by decide) rfl (fun ls hl => ?_)
      refine lv_aload_n hx hb dX12_readPart_22 rfl (lv_at hl 1 rfl) ?_
      refine va_get (D := G.1) (ci := 12) (v := .int u_so) (C := RX12) (T := TX12) (N := 52) hx hb hts inG_X12 hown hK hP 5 rfl rfl 11 (by decide) (hts _ fl_X12_224) (fun _ h9 => h9) rfl dX12_readPart_23 ?_
      refine lv_iconst (v := 2) hx hb dX12_readPart_26 (by decide) ?_
      refine lv_icmp_ne (tgt := 45) hx hb dX12_readPart_27 (by decide) (fun c_20 => ?_) (fun c_20 => ?_)
      ·
        have n_20 : gNe (u_so.toInt) (2) := by have z := g5_ne (a := u_so.toInt) (b := 2) (by rfl) (by decide) c_20; unfold gNe; omega
        refine lv_iconst (v := 0) hx hb dX12_readPart_45 (by decide) ?_
        refine lv_istore_n (lv' := [(2, .int 0), (1, .int z18), (0, .ref b_o)]) hx hb dX12_readPart_46 rfl hl (by decide) rfl (fun ls hl => ?_)
        refine lv_aload_n hx hb dX12_readPart_47 rfl (lv_at hl 2 rfl) ?_
        refine lv_iload_n hx hb dX12_readPart_48 rfl (lv_at hl 1 rfl) ?_
        refine lv_iconst (v := (-1)) hx hb dX12_readPart_49 (by decide) ?_
        refine lv_icmp_ne (tgt := 57) hx hb dX12_readPart_50 (by decide) (fun c_21 => ?_) (fun c_21 => ?_)
        ·
          have n_21 : gNe (z18.toInt) ((-1)) := by have z := g5_ne (a := z18.toInt) (b := (-1)) (by rfl) (by decide) c_21; unfold gNe; omega
          have i_21 : z18.toInt ≥ 0 := by have z := g5_ne (a := z18.toInt) (b := (-1)) (by rfl) (by decide) c_21; omega
          refine lv_iconst (v := 1) hx hb dX12_readPart_57 (by decide) ?_
          refine lv_goto (tgt := 62) hx hb dX12_readPart_58 (by decide) ?_
          refine lv_iload_n hx hb dX12_readPart_62 rfl (lv_at hl 1 rfl) ?_
          refine lv_iconst (v := (-1)) hx hb dX12_readPart_63 (by decide) ?_
          refine lv_icmp_ne (tgt := 71) hx hb dX12_readPart_64 (by decide) (fun c_22 => ?_) (fun c_22 => ?_)
          ·
            have n_22 : gNe (z18.toInt) ((-1)) := by have z := g5_ne (a := z18.toInt) (b := (-1)) (by rfl) (by decide) c_22; unfold gNe; omega
            refine lv_iload_n hx hb dX12_readPart_71 rfl (lv_at hl 1 rfl) ?_
            refine lv_iload_n hx hb dX12_readPart_72 rfl (lv_at hl 0 rfl) ?_
            refine lv_if_eq (tgt := 84) hx hb dX12_readPart_73 (by decide) (fun c_23 => ?_) (fun c_23 => ?_)
            ·
              refine lv_iconst (v := 0) hx hb dX12_readPart_84 (by decide) ?_
              have hlt9 : u_fr.toInt < u_to.toInt := tks_lt e_s (by omega)
              obtain ⟨hPc, hDc, hFc⟩ := g5_sub3 (wc := [(b_o, (oc12 u_th u_sa b_rf b_ro b_im b_ke u_fd b_tp u_td u_fr u_to u_so u_wo u_fa u_bd u_nc b_nl u_co b_op b_ar u_le b_pi b_pa u_pd u_od b_ws b_hw u_la b_se b_re u_bk u_va u_su u_ce u_ho u_wy u_bt u_ps b_pt u_tg u_sn b_ip u_ic b_ah b_be b_me u_wd b_tr b_ld u_st b_wn u_id)), (b_tp, (arI G 400 v_tp)), (b_op, (arI G 400 v_op)), (b_ar, (arI G 400 v_ar))]) hP hD hS hA [5, 0, 1, 2] (by decide) rfl
              refine va_callv (va_runV (As := [.int 1, .int z18, .int 0]) (rest := []) ⟨hx, hb, hml, hown, hts⟩ (n_leaf1 l G b_o b_tp b_op b_ar b_rf b_ro b_im b_ke b_nl b_pi b_pa b_ws b_hw b_se b_re b_pt b_ip b_ah b_be b_me b_tr b_ld b_wn H.size u_th u_sa u_fd u_td u_fr u_to u_so u_fa u_bd u_nc u_co u_le u_pd u_od u_la u_bk u_ce u_ho u_wy u_bt u_ps u_tg u_sn u_ic u_wd u_id z18 0 u_wo u_va u_su u_st v_tp v_op v_ar h_u_td h_u_fr h_u_to h_u_bd h_u_nc h_u_co h_u_pd h_u_la h_u_bk h_u_ce h_u_ho h_u_wy h_u_bt h_u_ps h_u_ic h_u_id ⟨by omega, by omega⟩ (by omega) (by omega)) (cwV 3 hts gV_X12_279 rfl rfl rfl hv_X12_leaf ⟨Nat.le_of_ble_eq_true rfl, Nat.le_of_ble_eq_true rfl⟩) (g5_preV hPc hK hDc hN hT hS hFc (ci := 12) (q0 := 0) rfl rfl) rfl rfl hl.1 rfl (lv_room (Nat.le_of_ble_eq_true rfl)) dX12_readPart_85 ⟨Nat.le_of_ble_eq_true rfl, Nat.le_of_ble_eq_true rfl⟩) hS (fun q _ h => hFc q h) hFc (fun u t H1 locs ht hvm hw hB hz1 hk1 hS => ?_)
              obtain ⟨hP1, hD1⟩ := hB
              rw [ht] at hP1
              rcases hw with rfl | ⟨z30, z31, z32, z33, z34, z35, i_24, i_25, i_26, i_27, i_28, i_29, rfl⟩
              ·
                obtain ⟨hP, hD⟩ := va_join (wr := [(b_pi, (arI G 400 v_pi)), (b_pa, (arI G 400 v_pa)), (b_ws, (arJ G 8 v_ws))]) hP hD [5, 0, 1, 2] [3, 4, 6] rfl rfl (by decide) (by decide) hk1 hFc hP1 hD1
                generalize H1 = H at hP hS ⊢
                refine g5_rs [(b_pi, (arI G 400 v_pi)), (b_pa, (arI G 400 v_pa)), (b_ws, (arJ G 8 v_ws)), (b_o, (oc12 u_th u_sa b_rf b_ro b_im b_ke u_fd b_tp u_td u_fr u_to u_so u_wo u_fr 1 u_nc b_nl u_co b_op b_ar u_le b_pi b_pa u_pd u_od b_ws b_hw u_la b_se b_re u_bk u_va u_su u_ce u_ho u_wy u_bt u_ps b_pt u_tg u_sn b_ip u_ic b_ah b_be b_me u_wd b_tr b_ld u_st b_wn u_id)), (b_tp, (arI G 400 v_tp)), (b_op, (arI G 400 v_op)), (b_ar, (arI G 400 v_ar))] hP hD (fun hP hD => ?_)
                refine lv_iconst (v := 3) hx hb dX12_readPart_88 (by decide) ?_
                exact W.iret (v := 3) hx hb hr (fun t ht hW => ⟨⟨3, [(b_o, (oc12 u_th u_sa b_rf b_ro b_im b_ke u_fd b_tp u_td u_fr u_to u_so u_wo u_fr 1 u_nc b_nl u_co b_op b_ar u_le b_pi b_pa u_pd u_od b_ws b_hw u_la b_se b_re u_bk u_va u_su u_ce u_ho u_wy u_bt u_ps b_pt u_tg u_sn b_ip u_ic b_ah b_be b_me u_wd b_tr b_ld u_st b_wn u_id)), (b_tp, (arI G 400 v_tp)), (b_op, (arI G 400 v_op)), (b_ar, (arI G 400 v_ar)), (b_pi, (arI G 400 v_pi)), (b_pa, (arI G 400 v_pa)), (b_ws, (arJ G 8 v_ws))], rfl, Or.inl (⟨3, ⟨by have zc_o_r : (3 : Int32).toInt = 3 := (by decide); omega, by have zc_o_r : (3 : Int32).toInt = 3 := (by decide); omega⟩, rfl, rfl⟩), by rw [ht]; exact hP.sub [3, 4, 5, 6, 0, 1, 2] rfl, hD.sub [3, 4, 5, 6, 0, 1, 2] (by decide) rfl⟩, hS.F ht⟩) hS.2.2 dX12_readPart_89
              ·
                have i_24 : 0 ≤ z30.toInt ∧ z30.toInt ≤ 400 := i_24
                have i_25 : 0 ≤ z31.toInt ∧ z31.toInt ≤ 400 := i_25
                have i_26 : 0 ≤ z34.toInt ∧ z34.toInt ≤ 400 := i_26
                have i_27 : u_to.toInt ≤ z30.toInt ∧ z30.toInt ≤ z31.toInt ∧ z31.toInt ≤ u_td.toInt := i_27
                have i_28 : TKs z32.toInt z30.toInt z31.toInt := i_28
                have i_29 : z34.toInt = u_co.toInt + 1 := i_29
                obtain ⟨hP, hD⟩ := va_join (wr := [(b_pi, (arI G 400 v_pi)), (b_pa, (arI G 400 v_pa)), (b_ws, (arJ G 8 v_ws))]) hP hD [5, 0, 1, 2] [3, 4, 6] rfl rfl (by decide) (by decide) hk1 hFc hP1 hD1
                generalize H1 = H at hP hS ⊢
                refine g5_rs [(b_pi, (arI G 400 v_pi)), (b_pa, (arI G 400 v_pa)), (b_ws, (arJ G 8 v_ws)), (b_o, (oc12 u_th u_sa b_rf b_ro b_im b_ke u_fd b_tp u_td z30 z31 z32 z33 u_fa u_bd u_nc b_nl z34 b_op b_ar z35 b_pi b_pa u_pd u_od b_ws b_hw u_la b_se b_re u_bk u_va u_su u_ce u_ho u_wy u_bt u_ps b_pt u_tg u_sn b_ip u_ic b_ah b_be b_me u_wd b_tr b_ld u_st b_wn u_id)), (b_tp, (arI G 400 v_tp)), (b_op, (arI G 400 (upd v_op u_co.toNatClampNeg z18))), (b_ar, (arI G 400 (upd v_ar u_co.toNatClampNeg 0)))] hP hD (fun hP hD => ?_)
                refine lv_iconst (v := 3) hx hb dX12_readPart_88 (by decide) ?_
                exact W.iret (v := 3) hx hb hr (fun t ht hW => ⟨⟨3, [(b_o, (oc12 u_th u_sa b_rf b_ro b_im b_ke u_fd b_tp u_td z30 z31 z32 z33 u_fa u_bd u_nc b_nl z34 b_op b_ar z35 b_pi b_pa u_pd u_od b_ws b_hw u_la b_se b_re u_bk u_va u_su u_ce u_ho u_wy u_bt u_ps b_pt u_tg u_sn b_ip u_ic b_ah b_be b_me u_wd b_tr b_ld u_st b_wn u_id)), (b_tp, (arI G 400 v_tp)), (b_op, (arI G 400 (upd v_op u_co.toNatClampNeg z18))), (b_ar, (arI G 400 (upd v_ar u_co.toNatClampNeg 0))), (b_pi, (arI G 400 v_pi)), (b_pa, (arI G 400 v_pa)), (b_ws, (arJ G 8 v_ws))], rfl, Or.inr (⟨3, z30, z31, z32, z33, z34, z35, u_pd, u_od, (upd v_op u_co.toNatClampNeg z18), (upd v_ar u_co.toNatClampNeg 0), v_pi, v_pa, i_24, i_25, i_26, h_u_pd, ⟨by have zc_o_r : (3 : Int32).toInt = 3 := (by decide); omega, by have zc_o_r : (3 : Int32).toInt = 3 := (by decide); omega⟩, by omega, i_28, xj_emit e_x (by omega) (by omega), tj_3 (hj_leaf e_x (tj_d0 e_j (Or.inr rfl)) (by omega) ⟨by omega, by omega⟩) (by decide), by have w9 := (twt_3 (by decide) : twt (3 : Int32).toInt = 2); omega, rfl, rfl⟩), by rw [ht]; exact hP.sub [3, 4, 5, 6, 0, 1, 2] rfl, hD.sub [3, 4, 5, 6, 0, 1, 2] (by decide) rfl⟩, hS.F ht⟩) hS.2.2 dX12_readPart_89
            ·
              exact absurd c_23 (by decide)
          ·
            have i_22 : z18.toInt = (-1) := by have z := g5_neN (a := z18.toInt) (b := (-1)) (by rfl) (by decide) c_22; omega
            omega
        ·
          have i_21 : z18.toInt = (-1) := by have z := g5_neN (a := z18.toInt) (b := (-1)) (by rfl) (by decide) c_21; omega
          refine lv_iload_n hx hb dX12_readPart_53 rfl (lv_at hl 0 rfl) ?_
          refine lv_if_eq (tgt := 61) hx hb dX12_readPart_54 (by decide) (fun c_36 => ?_) (fun c_36 => ?_)
          ·
            refine lv_iconst (v := 0) hx hb dX12_readPart_61 (by decide) ?_
            refine lv_iload_n hx hb dX12_readPart_62 rfl (lv_at hl 1 rfl) ?_
            refine lv_iconst (v := (-1)) hx hb dX12_readPart_63 (by decide) ?_
            refine lv_icmp_ne (tgt := 71) hx hb dX12_readPart_64 (by decide) (fun c_37 => ?_) (fun c_37 => ?_)
            ·
              have i_37 : z18.toInt ≠ (-1) := by have z := g5_ne (a := z18.toInt) (b := (-1)) (by rfl) (by decide) c_37; omega
              omega
            ·
              have i_37 : z18.toInt = (-1) := by have z := g5_neN (a := z18.toInt) (b := (-1)) (by rfl) (by decide) c_37; omega
              refine lv_iconst (v := 0) hx hb dX12_readPart_67 (by decide) ?_
              refine lv_goto (tgt := 72) hx hb dX12_readPart_68 (by decide) ?_
              refine lv_iload_n hx hb dX12_readPart_72 rfl (lv_at hl 0 rfl) ?_
              refine lv_if_eq (tgt := 84) hx hb dX12_readPart_73 (by decide) (fun c_38 => ?_) (fun c_38 => ?_)
              ·
                refine lv_iconst (v := 0) hx hb dX12_readPart_84 (by decide) ?_
                obtain ⟨hPc, hDc, hFc⟩ := g5_sub3 (wc := [(b_o, (oc12 u_th u_sa b_rf b_ro b_im b_ke u_fd b_tp u_td u_fr u_to u_so u_wo u_fa u_bd u_nc b_nl u_co b_op b_ar u_le b_pi b_pa u_pd u_od b_ws b_hw u_la b_se b_re u_bk u_va u_su u_ce u_ho u_wy u_bt u_ps b_pt u_tg u_sn b_ip u_ic b_ah b_be b_me u_wd b_tr b_ld u_st b_wn u_id)), (b_tp, (arI G 400 v_tp)), (b_op, (arI G 400 v_op)), (b_ar, (arI G 400 v_ar))]) hP hD hS hA [5, 0, 1, 2] (by decide) rfl
                refine va_callv (va_runV (As := [.int 0, .int 0, .int 0]) (rest := []) ⟨hx, hb, hml, hown, hts⟩ (n_leaf0 l G b_o b_tp b_op b_ar b_rf b_ro b_im b_ke b_nl b_pi b_pa b_ws b_hw b_se b_re b_pt b_ip b_ah b_be b_me b_tr b_ld b_wn H.size u_th u_sa u_fd u_td u_fr u_to u_so u_fa u_bd u_nc u_co u_le u_pd u_od u_la u_bk u_ce u_ho u_wy u_bt u_ps u_tg u_sn u_ic u_wd u_id 0 0 u_wo u_va u_su u_st v_tp v_op v_ar h_u_td h_u_fr h_u_to h_u_bd h_u_nc h_u_co h_u_pd h_u_la h_u_bk h_u_ce h_u_ho h_u_wy h_u_bt h_u_ps h_u_ic h_u_id ⟨by decide, by decide⟩) (cwV 3 hts gV_X12_279 rfl rfl rfl hv_X12_leaf ⟨Nat.le_of_ble_eq_true rfl, Nat.le_of_ble_eq_true rfl⟩) (g5_preV hPc hK hDc hN hT hS hFc (ci := 12) (q0 := 0) rfl rfl) rfl rfl hl.1 rfl (lv_room (Nat.le_of_ble_eq_true rfl)) dX12_readPart_85 ⟨Nat.le_of_ble_eq_true rfl, Nat.le_of_ble_eq_true rfl⟩) hS (fun q _ h => hFc q h) hFc (fun u t H1 locs ht hvm hw hB hz1 hk1 hS => ?_)
                obtain ⟨hP1, hD1⟩ := hB
                rw [ht] at hP1
                obtain rfl := hw
                obtain ⟨hP, hD⟩ := va_join (wr := [(b_pi, (arI G 400 v_pi)), (b_pa, (arI G 400 v_pa)), (b_ws, (arJ G 8 v_ws))]) hP hD [5, 0, 1, 2] [3, 4, 6] rfl rfl (by decide) (by decide) hk1 hFc hP1 hD1
                generalize H1 = H at hP hS ⊢
                refine g5_rs [(b_pi, (arI G 400 v_pi)), (b_pa, (arI G 400 v_pa)), (b_ws, (arJ G 8 v_ws)), (b_o, (oc12 u_th u_sa b_rf b_ro b_im b_ke u_fd b_tp u_td u_fr u_to u_so u_wo u_fr 1 u_nc b_nl u_co b_op b_ar u_le b_pi b_pa u_pd u_od b_ws b_hw u_la b_se b_re u_bk u_va u_su u_ce u_ho u_wy u_bt u_ps b_pt u_tg u_sn b_ip u_ic b_ah b_be b_me u_wd b_tr b_ld u_st b_wn u_id)), (b_tp, (arI G 400 v_tp)), (b_op, (arI G 400 v_op)), (b_ar, (arI G 400 v_ar))] hP hD (fun hP hD => ?_)
                refine lv_iconst (v := 3) hx hb dX12_readPart_88 (by decide) ?_
                exact W.iret (v := 3) hx hb hr (fun t ht hW => ⟨⟨3, [(b_o, (oc12 u_th u_sa b_rf b_ro b_im b_ke u_fd b_tp u_td u_fr u_to u_so u_wo u_fr 1 u_nc b_nl u_co b_op b_ar u_le b_pi b_pa u_pd u_od b_ws b_hw u_la b_se b_re u_bk u_va u_su u_ce u_ho u_wy u_bt u_ps b_pt u_tg u_sn b_ip u_ic b_ah b_be b_me u_wd b_tr b_ld u_st b_wn u_id)), (b_tp, (arI G 400 v_tp)), (b_op, (arI G 400 v_op)), (b_ar, (arI G 400 v_ar)), (b_pi, (arI G 400 v_pi)), (b_pa, (arI G 400 v_pa)), (b_ws, (arJ G 8 v_ws))], rfl, Or.inl (⟨3, ⟨by have zc_o_r : (3 : Int32).toInt = 3 := (by decide); omega, by have zc_o_r : (3 : Int32).toInt = 3 := (by decide); omega⟩, rfl, rfl⟩), by rw [ht]; exact hP.sub [3, 4, 5, 6, 0, 1, 2] rfl, hD.sub [3, 4, 5, 6, 0, 1, 2] (by decide) rfl⟩, hS.F ht⟩) hS.2.2 dX12_readPart_89
              ·
                exact absurd c_38 (by decide)
          ·
            exact absurd c_36 (by decide)
      ·
        have i_20 : u_so.toInt = 2 := by have z := g5_neN (a := u_so.toInt) (b := 2) (by rfl) (by decide) c_20; omega
        refine lv_aload_n hx hb dX12_readPart_30 rfl (lv_at hl 1 rfl) ?_
        refine va_get (D := G.1) (ci := 12) (v := .long u_wo) (C := RX12) (T := TX12) (N := 52) hx hb hts inG_X12 hown hK hP 5 rfl rfl 12 (by decide) (hts _ fl_X12_214) (fun _ h9 => h9) rfl dX12_readPart_31 ?_
        refine lv_ldc2 (v := 1000) hx hb hown (hts _ kl_X12_277) dX12_readPart_34 ?_
        refine W.lcmp hx hb dX12_readPart_37 ?_
        refine lv_if_gt (tgt := 45) hx hb dX12_readPart_38 (by decide) (fun c_39 => ?_) (fun c_39 => ?_)
        ·
          have i_39 : (lg_cmp u_wo 1000).toInt > 0 := by have z := g5_gt (a := (lg_cmp u_wo 1000).toInt) (b := 0) (by rfl) (by decide) c_39; omega
          refine lv_iconst (v := 0) hx hb dX12_readPart_45 (by decide) ?_
          refine lv_istore_n (lv' := [(2, .int 0), (1, .int z18), (0, .ref b_o)]) hx hb dX12_readPart_46 rfl hl (by decide) rfl (fun ls hl => ?_)
          refine lv_aload_n hx hb dX12_readPart_47 rfl (lv_at hl 2 rfl) ?_
          refine lv_iload_n hx hb dX12_readPart_48 rfl (lv_at hl 1 rfl) ?_
          refine lv_iconst (v := (-1)) hx hb dX12_readPart_49 (by decide) ?_
          refine lv_icmp_ne (tgt := 57) hx hb dX12_readPart_50 (by decide) (fun c_40 => ?_) (fun c_40 => ?_)
          ·
            have n_40 : gNe (z18.toInt) ((-1)) := by have z := g5_ne (a := z18.toInt) (b := (-1)) (by rfl) (by decide) c_40; unfold gNe; omega
            have i_40 : z18.toInt ≥ 0 := by have z := g5_ne (a := z18.toInt) (b := (-1)) (by rfl) (by decide) c_40; omega
            refine lv_iconst (v := 1) hx hb dX12_readPart_57 (by decide) ?_
            refine lv_goto (tgt := 62) hx hb dX12_readPart_58 (by decide) ?_
            refine lv_iload_n hx hb dX12_readPart_62 rfl (lv_at hl 1 rfl) ?_
            refine lv_iconst (v := (-1)) hx hb dX12_readPart_63 (by decide) ?_
            refine lv_icmp_ne (tgt := 71) hx hb dX12_readPart_64 (by decide) (fun c_41 => ?_) (fun c_41 => ?_)
            ·
              have n_41 : gNe (z18.toInt) ((-1)) := by have z := g5_ne (a := z18.toInt) (b := (-1)) (by rfl) (by decide) c_41; unfold gNe; omega
              refine lv_iload_n hx hb dX12_readPart_71 rfl (lv_at hl 1 rfl) ?_
              refine lv_iload_n hx hb dX12_readPart_72 rfl (lv_at hl 0 rfl) ?_
              refine lv_if_eq (tgt := 84) hx hb dX12_readPart_73 (by decide) (fun c_42 => ?_) (fun c_42 => ?_)
              ·
                refine lv_iconst (v := 0) hx hb dX12_readPart_84 (by decide) ?_
                have hlt9 : u_fr.toInt < u_to.toInt := tks_lt e_s (by omega)
                obtain ⟨hPc, hDc, hFc⟩ := g5_sub3 (wc := [(b_o, (oc12 u_th u_sa b_rf b_ro b_im b_ke u_fd b_tp u_td u_fr u_to u_so u_wo u_fa u_bd u_nc b_nl u_co b_op b_ar u_le b_pi b_pa u_pd u_od b_ws b_hw u_la b_se b_re u_bk u_va u_su u_ce u_ho u_wy u_bt u_ps b_pt u_tg u_sn b_ip u_ic b_ah b_be b_me u_wd b_tr b_ld u_st b_wn u_id)), (b_tp, (arI G 400 v_tp)), (b_op, (arI G 400 v_op)), (b_ar, (arI G 400 v_ar))]) hP hD hS hA [5, 0, 1, 2] (by decide) rfl
                refine va_callv (va_runV (As := [.int 1, .int z18, .int 0]) (rest := []) ⟨hx, hb, hml, hown, hts⟩ (n_leaf1 l G b_o b_tp b_op b_ar b_rf b_ro b_im b_ke b_nl b_pi b_pa b_ws b_hw b_se b_re b_pt b_ip b_ah b_be b_me b_tr b_ld b_wn H.size u_th u_sa u_fd u_td u_fr u_to u_so u_fa u_bd u_nc u_co u_le u_pd u_od u_la u_bk u_ce u_ho u_wy u_bt u_ps u_tg u_sn u_ic u_wd u_id z18 0 u_wo u_va u_su u_st v_tp v_op v_ar h_u_td h_u_fr h_u_to h_u_bd h_u_nc h_u_co h_u_pd h_u_la h_u_bk h_u_ce h_u_ho h_u_wy h_u_bt h_u_ps h_u_ic h_u_id ⟨by omega, by omega⟩ (by omega) (by omega)) (cwV 3 hts gV_X12_279 rfl rfl rfl hv_X12_leaf ⟨Nat.le_of_ble_eq_true rfl, Nat.le_of_ble_eq_true rfl⟩) (g5_preV hPc hK hDc hN hT hS hFc (ci := 12) (q0 := 0) rfl rfl) rfl rfl hl.1 rfl (lv_room (Nat.le_of_ble_eq_true rfl)) dX12_readPart_85 ⟨Nat.le_of_ble_eq_true rfl, Nat.le_of_ble_eq_true rfl⟩) hS (fun q _ h => hFc q h) hFc (fun u t H1 locs ht hvm hw hB hz1 hk1 hS => ?_)
                obtain ⟨hP1, hD1⟩ := hB
                rw [ht] at hP1
                rcases hw with rfl | ⟨z49, z50, z51, z52, z53, z54, i_43, i_44, i_45, i_46, i_47, i_48, rfl⟩
                ·
                  obtain ⟨hP, hD⟩ := va_join (wr := [(b_pi, (arI G 400 v_pi)), (b_pa, (arI G 400 v_pa)), (b_ws, (arJ G 8 v_ws))]) hP hD [5, 0, 1, 2] [3, 4, 6] rfl rfl (by decide) (by decide) hk1 hFc hP1 hD1
                  generalize H1 = H at hP hS ⊢
                  refine g5_rs [(b_pi, (arI G 400 v_pi)), (b_pa, (arI G 400 v_pa)), (b_ws, (arJ G 8 v_ws)), (b_o, (oc12 u_th u_sa b_rf b_ro b_im b_ke u_fd b_tp u_td u_fr u_to u_so u_wo u_fr 1 u_nc b_nl u_co b_op b_ar u_le b_pi b_pa u_pd u_od b_ws b_hw u_la b_se b_re u_bk u_va u_su u_ce u_ho u_wy u_bt u_ps b_pt u_tg u_sn b_ip u_ic b_ah b_be b_me u_wd b_tr b_ld u_st b_wn u_id)), (b_tp, (arI G 400 v_tp)), (b_op, (arI G 400 v_op)), (b_ar, (arI G 400 v_ar))] hP hD (fun hP hD => ?_)
                  refine lv_iconst (v := 3) hx hb dX12_readPart_88 (by decide) ?_
                  exact W.iret (v := 3) hx hb hr (fun t ht hW => ⟨⟨3, [(b_o, (oc12 u_th u_sa b_rf b_ro b_im b_ke u_fd b_tp u_td u_fr u_to u_so u_wo u_fr 1 u_nc b_nl u_co b_op b_ar u_le b_pi b_pa u_pd u_od b_ws b_hw u_la b_se b_re u_bk u_va u_su u_ce u_ho u_wy u_bt u_ps b_pt u_tg u_sn b_ip u_ic b_ah b_be b_me u_wd b_tr b_ld u_st b_wn u_id)), (b_tp, (arI G 400 v_tp)), (b_op, (arI G 400 v_op)), (b_ar, (arI G 400 v_ar)), (b_pi, (arI G 400 v_pi)), (b_pa, (arI G 400 v_pa)), (b_ws, (arJ G 8 v_ws))], rfl, Or.inl (⟨3, ⟨by have zc_o_r : (3 : Int32).toInt = 3 := (by decide); omega, by have zc_o_r : (3 : Int32).toInt = 3 := (by decide); omega⟩, rfl, rfl⟩), by rw [ht]; exact hP.sub [3, 4, 5, 6, 0, 1, 2] rfl, hD.sub [3, 4, 5, 6, 0, 1, 2] (by decide) rfl⟩, hS.F ht⟩) hS.2.2 dX12_readPart_89
                ·
                  have i_43 : 0 ≤ z49.toInt ∧ z49.toInt ≤ 400 := i_43
                  have i_44 : 0 ≤ z50.toInt ∧ z50.toInt ≤ 400 := i_44
                  have i_45 : 0 ≤ z53.toInt ∧ z53.toInt ≤ 400 := i_45
                  have i_46 : u_to.toInt ≤ z49.toInt ∧ z49.toInt ≤ z50.toInt ∧ z50.toInt ≤ u_td.toInt := i_46
                  have i_47 : TKs z51.toInt z49.toInt z50.toInt := i_47
                  have i_48 : z53.toInt = u_co.toInt + 1 := i_48
                  obtain ⟨hP, hD⟩ := va_join (wr := [(b_pi, (arI G 400 v_pi)), (b_pa, (arI G 400 v_pa)), (b_ws, (arJ G 8 v_ws))]) hP hD [5, 0, 1, 2] [3, 4, 6] rfl rfl (by decide) (by decide) hk1 hFc hP1 hD1
                  generalize H1 = H at hP hS ⊢
                  refine g5_rs [(b_pi, (arI G 400 v_pi)), (b_pa, (arI G 400 v_pa)), (b_ws, (arJ G 8 v_ws)), (b_o, (oc12 u_th u_sa b_rf b_ro b_im b_ke u_fd b_tp u_td z49 z50 z51 z52 u_fa u_bd u_nc b_nl z53 b_op b_ar z54 b_pi b_pa u_pd u_od b_ws b_hw u_la b_se b_re u_bk u_va u_su u_ce u_ho u_wy u_bt u_ps b_pt u_tg u_sn b_ip u_ic b_ah b_be b_me u_wd b_tr b_ld u_st b_wn u_id)), (b_tp, (arI G 400 v_tp)), (b_op, (arI G 400 (upd v_op u_co.toNatClampNeg z18))), (b_ar, (arI G 400 (upd v_ar u_co.toNatClampNeg 0)))] hP hD (fun hP hD => ?_)
                  refine lv_iconst (v := 3) hx hb dX12_readPart_88 (by decide) ?_
                  exact W.iret (v := 3) hx hb hr (fun t ht hW => ⟨⟨3, [(b_o, (oc12 u_th u_sa b_rf b_ro b_im b_ke u_fd b_tp u_td z49 z50 z51 z52 u_fa u_bd u_nc b_nl z53 b_op b_ar z54 b_pi b_pa u_pd u_od b_ws b_hw u_la b_se b_re u_bk u_va u_su u_ce u_ho u_wy u_bt u_ps b_pt u_tg u_sn b_ip u_ic b_ah b_be b_me u_wd b_tr b_ld u_st b_wn u_id)), (b_tp, (arI G 400 v_tp)), (b_op, (arI G 400 (upd v_op u_co.toNatClampNeg z18))), (b_ar, (arI G 400 (upd v_ar u_co.toNatClampNeg 0))), (b_pi, (arI G 400 v_pi)), (b_pa, (arI G 400 v_pa)), (b_ws, (arJ G 8 v_ws))], rfl, Or.inr (⟨3, z49, z50, z51, z52, z53, z54, u_pd, u_od, (upd v_op u_co.toNatClampNeg z18), (upd v_ar u_co.toNatClampNeg 0), v_pi, v_pa, i_43, i_44, i_45, h_u_pd, ⟨by have zc_o_r : (3 : Int32).toInt = 3 := (by decide); omega, by have zc_o_r : (3 : Int32).toInt = 3 := (by decide); omega⟩, by omega, i_47, xj_emit e_x (by omega) (by omega), tj_3 (hj_leaf e_x (tj_d0 e_j (Or.inr rfl)) (by omega) ⟨by omega, by omega⟩) (by decide), by have w9 := (twt_3 (by decide) : twt (3 : Int32).toInt = 2); omega, rfl, rfl⟩), by rw [ht]; exact hP.sub [3, 4, 5, 6, 0, 1, 2] rfl, hD.sub [3, 4, 5, 6, 0, 1, 2] (by decide) rfl⟩, hS.F ht⟩) hS.2.2 dX12_readPart_89
              ·
                exact absurd c_42 (by decide)
            ·
              have i_41 : z18.toInt = (-1) := by have z := g5_neN (a := z18.toInt) (b := (-1)) (by rfl) (by decide) c_41; omega
              omega
          ·
            have i_40 : z18.toInt = (-1) := by have z := g5_neN (a := z18.toInt) (b := (-1)) (by rfl) (by decide) c_40; omega
            refine lv_iload_n hx hb dX12_readPart_53 rfl (lv_at hl 0 rfl) ?_
            refine lv_if_eq (tgt := 61) hx hb dX12_readPart_54 (by decide) (fun c_55 => ?_) (fun c_55 => ?_)
            ·
              refine lv_iconst (v := 0) hx hb dX12_readPart_61 (by decide) ?_
              refine lv_iload_n hx hb dX12_readPart_62 rfl (lv_at hl 1 rfl) ?_
              refine lv_iconst (v := (-1)) hx hb dX12_readPart_63 (by decide) ?_
              refine lv_icmp_ne (tgt := 71) hx hb dX12_readPart_64 (by decide) (fun c_56 => ?_) (fun c_56 => ?_)
              ·
                have i_56 : z18.toInt ≠ (-1) := by have z := g5_ne (a := z18.toInt) (b := (-1)) (by rfl) (by decide) c_56; omega
                omega
              ·
                have i_56 : z18.toInt = (-1) := by have z := g5_neN (a := z18.toInt) (b := (-1)) (by rfl) (by decide) c_56; omega
                refine lv_iconst (v := 0) hx hb dX12_readPart_67 (by decide) ?_
                refine lv_goto (tgt := 72) hx hb dX12_readPart_68 (by decide) ?_
                refine lv_iload_n hx hb dX12_readPart_72 rfl (lv_at hl 0 rfl) ?_
                refine lv_if_eq (tgt := 84) hx hb dX12_readPart_73 (by decide) (fun c_57 => ?_) (fun c_57 => ?_)
                ·
                  refine lv_iconst (v := 0) hx hb dX12_readPart_84 (by decide) ?_
                  obtain ⟨hPc, hDc, hFc⟩ := g5_sub3 (wc := [(b_o, (oc12 u_th u_sa b_rf b_ro b_im b_ke u_fd b_tp u_td u_fr u_to u_so u_wo u_fa u_bd u_nc b_nl u_co b_op b_ar u_le b_pi b_pa u_pd u_od b_ws b_hw u_la b_se b_re u_bk u_va u_su u_ce u_ho u_wy u_bt u_ps b_pt u_tg u_sn b_ip u_ic b_ah b_be b_me u_wd b_tr b_ld u_st b_wn u_id)), (b_tp, (arI G 400 v_tp)), (b_op, (arI G 400 v_op)), (b_ar, (arI G 400 v_ar))]) hP hD hS hA [5, 0, 1, 2] (by decide) rfl
                  refine va_callv (va_runV (As := [.int 0, .int 0, .int 0]) (rest := []) ⟨hx, hb, hml, hown, hts⟩ (n_leaf0 l G b_o b_tp b_op b_ar b_rf b_ro b_im b_ke b_nl b_pi b_pa b_ws b_hw b_se b_re b_pt b_ip b_ah b_be b_me b_tr b_ld b_wn H.size u_th u_sa u_fd u_td u_fr u_to u_so u_fa u_bd u_nc u_co u_le u_pd u_od u_la u_bk u_ce u_ho u_wy u_bt u_ps u_tg u_sn u_ic u_wd u_id 0 0 u_wo u_va u_su u_st v_tp v_op v_ar h_u_td h_u_fr h_u_to h_u_bd h_u_nc h_u_co h_u_pd h_u_la h_u_bk h_u_ce h_u_ho h_u_wy h_u_bt h_u_ps h_u_ic h_u_id ⟨by decide, by decide⟩) (cwV 3 hts gV_X12_279 rfl rfl rfl hv_X12_leaf ⟨Nat.le_of_ble_eq_true rfl, Nat.le_of_ble_eq_true rfl⟩) (g5_preV hPc hK hDc hN hT hS hFc (ci := 12) (q0 := 0) rfl rfl) rfl rfl hl.1 rfl (lv_room (Nat.le_of_ble_eq_true rfl)) dX12_readPart_85 ⟨Nat.le_of_ble_eq_true rfl, Nat.le_of_ble_eq_true rfl⟩) hS (fun q _ h => hFc q h) hFc (fun u t H1 locs ht hvm hw hB hz1 hk1 hS => ?_)
                  obtain ⟨hP1, hD1⟩ := hB
                  rw [ht] at hP1
                  obtain rfl := hw
                  obtain ⟨hP, hD⟩ := va_join (wr := [(b_pi, (arI G 400 v_pi)), (b_pa, (arI G 400 v_pa)), (b_ws, (arJ G 8 v_ws))]) hP hD [5, 0, 1, 2] [3, 4, 6] rfl rfl (by decide) (by decide) hk1 hFc hP1 hD1
                  generalize H1 = H at hP hS ⊢
                  refine g5_rs [(b_pi, (arI G 400 v_pi)), (b_pa, (arI G 400 v_pa)), (b_ws, (arJ G 8 v_ws)), (b_o, (oc12 u_th u_sa b_rf b_ro b_im b_ke u_fd b_tp u_td u_fr u_to u_so u_wo u_fr 1 u_nc b_nl u_co b_op b_ar u_le b_pi b_pa u_pd u_od b_ws b_hw u_la b_se b_re u_bk u_va u_su u_ce u_ho u_wy u_bt u_ps b_pt u_tg u_sn b_ip u_ic b_ah b_be b_me u_wd b_tr b_ld u_st b_wn u_id)), (b_tp, (arI G 400 v_tp)), (b_op, (arI G 400 v_op)), (b_ar, (arI G 400 v_ar))] hP hD (fun hP hD => ?_)
                  refine lv_iconst (v := 3) hx hb dX12_readPart_88 (by decide) ?_
                  exact W.iret (v := 3) hx hb hr (fun t ht hW => ⟨⟨3, [(b_o, (oc12 u_th u_sa b_rf b_ro b_im b_ke u_fd b_tp u_td u_fr u_to u_so u_wo u_fr 1 u_nc b_nl u_co b_op b_ar u_le b_pi b_pa u_pd u_od b_ws b_hw u_la b_se b_re u_bk u_va u_su u_ce u_ho u_wy u_bt u_ps b_pt u_tg u_sn b_ip u_ic b_ah b_be b_me u_wd b_tr b_ld u_st b_wn u_id)), (b_tp, (arI G 400 v_tp)), (b_op, (arI G 400 v_op)), (b_ar, (arI G 400 v_ar)), (b_pi, (arI G 400 v_pi)), (b_pa, (arI G 400 v_pa)), (b_ws, (arJ G 8 v_ws))], rfl, Or.inl (⟨3, ⟨by have zc_o_r : (3 : Int32).toInt = 3 := (by decide); omega, by have zc_o_r : (3 : Int32).toInt = 3 := (by decide); omega⟩, rfl, rfl⟩), by rw [ht]; exact hP.sub [3, 4, 5, 6, 0, 1, 2] rfl, hD.sub [3, 4, 5, 6, 0, 1, 2] (by decide) rfl⟩, hS.F ht⟩) hS.2.2 dX12_readPart_89
                ·
                  exact absurd c_57 (by decide)
            ·
              exact absurd c_55 (by decide)
        ·
          have i_39 : (lg_cmp u_wo 1000).toInt ≤ 0 := by have z := g5_gtN (a := (lg_cmp u_wo 1000).toInt) (b := 0) (by rfl) (by decide) c_39; omega
          refine lv_iconst (v := 1) hx hb dX12_readPart_41 (by decide) ?_
          refine lv_goto (tgt := 46) hx hb dX12_readPart_42 (by decide) ?_
          refine lv_istore_n (lv' := [(2, .int 1), (1, .int z18), (0, .ref b_o)]) hx hb dX12_readPart_46 rfl hl (by decide) rfl (fun ls hl => ?_)
          refine lv_aload_n hx hb dX12_readPart_47 rfl (lv_at hl 2 rfl) ?_
          refine lv_iload_n hx hb dX12_readPart_48 rfl (lv_at hl 1 rfl) ?_
          refine lv_iconst (v := (-1)) hx hb dX12_readPart_49 (by decide) ?_
          refine lv_icmp_ne (tgt := 57) hx hb dX12_readPart_50 (by decide) (fun c_58 => ?_) (fun c_58 => ?_)
          ·
            have n_58 : gNe (z18.toInt) ((-1)) := by have z := g5_ne (a := z18.toInt) (b := (-1)) (by rfl) (by decide) c_58; unfold gNe; omega
            have i_58 : z18.toInt ≥ 0 := by have z := g5_ne (a := z18.toInt) (b := (-1)) (by rfl) (by decide) c_58; omega
            refine lv_iconst (v := 1) hx hb dX12_readPart_57 (by decide) ?_
            refine lv_goto (tgt := 62) hx hb dX12_readPart_58 (by decide) ?_
            refine lv_iload_n hx hb dX12_readPart_62 rfl (lv_at hl 1 rfl) ?_
            refine lv_iconst (v := (-1)) hx hb dX12_readPart_63 (by decide) ?_
            refine lv_icmp_ne (tgt := 71) hx hb dX12_readPart_64 (by decide) (fun c_59 => ?_) (fun c_59 => ?_)
            ·
              have n_59 : gNe (z18.toInt) ((-1)) := by have z := g5_ne (a := z18.toInt) (b := (-1)) (by rfl) (by decide) c_59; unfold gNe; omega
              refine lv_iload_n hx hb dX12_readPart_71 rfl (lv_at hl 1 rfl) ?_
              refine lv_iload_n hx hb dX12_readPart_72 rfl (lv_at hl 0 rfl) ?_
              refine lv_if_eq (tgt := 84) hx hb dX12_readPart_73 (by decide) (fun c_60 => ?_) (fun c_60 => ?_)
              ·
                exact absurd c_60 (by decide)
              ·
                refine lv_aload_n hx hb dX12_readPart_76 rfl (lv_at hl 2 rfl) ?_
                refine va_get (D := G.1) (ci := 12) (v := .long u_wo) (C := RX12) (T := TX12) (N := 52) hx hb hts inG_X12 hown hK hP 5 rfl rfl 12 (by decide) (hts _ fl_X12_214) (fun _ h9 => h9) rfl dX12_readPart_77 ?_
                refine lv_l2i (v := u_wo.toInt32) hx hb dX12_readPart_80 rfl ?_
                refine lv_goto (tgt := 85) hx hb dX12_readPart_81 (by decide) ?_
                have hlt9 : u_fr.toInt < u_to.toInt := tks_lt e_s (by omega)
                obtain ⟨hPc, hDc, hFc⟩ := g5_sub3 (wc := [(b_o, (oc12 u_th u_sa b_rf b_ro b_im b_ke u_fd b_tp u_td u_fr u_to u_so u_wo u_fa u_bd u_nc b_nl u_co b_op b_ar u_le b_pi b_pa u_pd u_od b_ws b_hw u_la b_se b_re u_bk u_va u_su u_ce u_ho u_wy u_bt u_ps b_pt u_tg u_sn b_ip u_ic b_ah b_be b_me u_wd b_tr b_ld u_st b_wn u_id)), (b_tp, (arI G 400 v_tp)), (b_op, (arI G 400 v_op)), (b_ar, (arI G 400 v_ar))]) hP hD hS hA [5, 0, 1, 2] (by decide) rfl
                refine va_callv (va_runV (As := [.int 1, .int z18, .int u_wo.toInt32]) (rest := []) ⟨hx, hb, hml, hown, hts⟩ (n_leaf1 l G b_o b_tp b_op b_ar b_rf b_ro b_im b_ke b_nl b_pi b_pa b_ws b_hw b_se b_re b_pt b_ip b_ah b_be b_me b_tr b_ld b_wn H.size u_th u_sa u_fd u_td u_fr u_to u_so u_fa u_bd u_nc u_co u_le u_pd u_od u_la u_bk u_ce u_ho u_wy u_bt u_ps u_tg u_sn u_ic u_wd u_id z18 u_wo.toInt32 u_wo u_va u_su u_st v_tp v_op v_ar h_u_td h_u_fr h_u_to h_u_bd h_u_nc h_u_co h_u_pd h_u_la h_u_bk h_u_ce h_u_ho h_u_wy h_u_bt h_u_ps h_u_ic h_u_id ⟨by omega, by omega⟩ (by omega) (by omega)) (cwV 3 hts gV_X12_279 rfl rfl rfl hv_X12_leaf ⟨Nat.le_of_ble_eq_true rfl, Nat.le_of_ble_eq_true rfl⟩) (g5_preV hPc hK hDc hN hT hS hFc (ci := 12) (q0 := 0) rfl rfl) rfl rfl hl.1 rfl (lv_room (Nat.le_of_ble_eq_true rfl)) dX12_readPart_85 ⟨Nat.le_of_ble_eq_true rfl, Nat.le_of_ble_eq_true rfl⟩) hS (fun q _ h => hFc q h) hFc (fun u t H1 locs ht hvm hw hB hz1 hk1 hS => ?_)
                obtain ⟨hP1, hD1⟩ := hB
                rw [ht] at hP1
                rcases hw with rfl | ⟨z67, z68, z69, z70, z71, z72, i_61, i_62, i_63, i_64, i_65, i_66, rfl⟩
                ·
                  obtain ⟨hP, hD⟩ := va_join (wr := [(b_pi, (arI G 400 v_pi)), (b_pa, (arI G 400 v_pa)), (b_ws, (arJ G 8 v_ws))]) hP hD [5, 0, 1, 2] [3, 4, 6] rfl rfl (by decide) (by decide) hk1 hFc hP1 hD1
                  generalize H1 = H at hP hS ⊢
                  refine g5_rs [(b_pi, (arI G 400 v_pi)), (b_pa, (arI G 400 v_pa)), (b_ws, (arJ G 8 v_ws)), (b_o, (oc12 u_th u_sa b_rf b_ro b_im b_ke u_fd b_tp u_td u_fr u_to u_so u_wo u_fr 1 u_nc b_nl u_co b_op b_ar u_le b_pi b_pa u_pd u_od b_ws b_hw u_la b_se b_re u_bk u_va u_su u_ce u_ho u_wy u_bt u_ps b_pt u_tg u_sn b_ip u_ic b_ah b_be b_me u_wd b_tr b_ld u_st b_wn u_id)), (b_tp, (arI G 400 v_tp)), (b_op, (arI G 400 v_op)), (b_ar, (arI G 400 v_ar))] hP hD (fun hP hD => ?_)
                  refine lv_iconst (v := 3) hx hb dX12_readPart_88 (by decide) ?_
                  exact W.iret (v := 3) hx hb hr (fun t ht hW => ⟨⟨3, [(b_o, (oc12 u_th u_sa b_rf b_ro b_im b_ke u_fd b_tp u_td u_fr u_to u_so u_wo u_fr 1 u_nc b_nl u_co b_op b_ar u_le b_pi b_pa u_pd u_od b_ws b_hw u_la b_se b_re u_bk u_va u_su u_ce u_ho u_wy u_bt u_ps b_pt u_tg u_sn b_ip u_ic b_ah b_be b_me u_wd b_tr b_ld u_st b_wn u_id)), (b_tp, (arI G 400 v_tp)), (b_op, (arI G 400 v_op)), (b_ar, (arI G 400 v_ar)), (b_pi, (arI G 400 v_pi)), (b_pa, (arI G 400 v_pa)), (b_ws, (arJ G 8 v_ws))], rfl, Or.inl (⟨3, ⟨by have zc_o_r : (3 : Int32).toInt = 3 := (by decide); omega, by have zc_o_r : (3 : Int32).toInt = 3 := (by decide); omega⟩, rfl, rfl⟩), by rw [ht]; exact hP.sub [3, 4, 5, 6, 0, 1, 2] rfl, hD.sub [3, 4, 5, 6, 0, 1, 2] (by decide) rfl⟩, hS.F ht⟩) hS.2.2 dX12_readPart_89
                ·
                  have i_61 : 0 ≤ z67.toInt ∧ z67.toInt ≤ 400 := i_61
                  have i_62 : 0 ≤ z68.toInt ∧ z68.toInt ≤ 400 := i_62
                  have i_63 : 0 ≤ z71.toInt ∧ z71.toInt ≤ 400 := i_63
                  have i_64 : u_to.toInt ≤ z67.toInt ∧ z67.toInt ≤ z68.toInt ∧ z68.toInt ≤ u_td.toInt := i_64
                  have i_65 : TKs z69.toInt z67.toInt z68.toInt := i_65
                  have i_66 : z71.toInt = u_co.toInt + 1 := i_66
                  obtain ⟨hP, hD⟩ := va_join (wr := [(b_pi, (arI G 400 v_pi)), (b_pa, (arI G 400 v_pa)), (b_ws, (arJ G 8 v_ws))]) hP hD [5, 0, 1, 2] [3, 4, 6] rfl rfl (by decide) (by decide) hk1 hFc hP1 hD1
                  generalize H1 = H at hP hS ⊢
                  refine g5_rs [(b_pi, (arI G 400 v_pi)), (b_pa, (arI G 400 v_pa)), (b_ws, (arJ G 8 v_ws)), (b_o, (oc12 u_th u_sa b_rf b_ro b_im b_ke u_fd b_tp u_td z67 z68 z69 z70 u_fa u_bd u_nc b_nl z71 b_op b_ar z72 b_pi b_pa u_pd u_od b_ws b_hw u_la b_se b_re u_bk u_va u_su u_ce u_ho u_wy u_bt u_ps b_pt u_tg u_sn b_ip u_ic b_ah b_be b_me u_wd b_tr b_ld u_st b_wn u_id)), (b_tp, (arI G 400 v_tp)), (b_op, (arI G 400 (upd v_op u_co.toNatClampNeg z18))), (b_ar, (arI G 400 (upd v_ar u_co.toNatClampNeg u_wo.toInt32)))] hP hD (fun hP hD => ?_)
                  refine lv_iconst (v := 3) hx hb dX12_readPart_88 (by decide) ?_
                  exact W.iret (v := 3) hx hb hr (fun t ht hW => ⟨⟨3, [(b_o, (oc12 u_th u_sa b_rf b_ro b_im b_ke u_fd b_tp u_td z67 z68 z69 z70 u_fa u_bd u_nc b_nl z71 b_op b_ar z72 b_pi b_pa u_pd u_od b_ws b_hw u_la b_se b_re u_bk u_va u_su u_ce u_ho u_wy u_bt u_ps b_pt u_tg u_sn b_ip u_ic b_ah b_be b_me u_wd b_tr b_ld u_st b_wn u_id)), (b_tp, (arI G 400 v_tp)), (b_op, (arI G 400 (upd v_op u_co.toNatClampNeg z18))), (b_ar, (arI G 400 (upd v_ar u_co.toNatClampNeg u_wo.toInt32))), (b_pi, (arI G 400 v_pi)), (b_pa, (arI G 400 v_pa)), (b_ws, (arJ G 8 v_ws))], rfl, Or.inr (⟨3, z67, z68, z69, z70, z71, z72, u_pd, u_od, (upd v_op u_co.toNatClampNeg z18), (upd v_ar u_co.toNatClampNeg u_wo.toInt32), v_pi, v_pa, i_61, i_62, i_63, h_u_pd, ⟨by have zc_o_r : (3 : Int32).toInt = 3 := (by decide); omega, by have zc_o_r : (3 : Int32).toInt = 3 := (by decide); omega⟩, by omega, i_65, xj_emit e_x (by omega) (by omega), tj_3 (hj_leaf e_x (tj_d0 e_j (Or.inr rfl)) (by omega) ⟨by omega, by omega⟩) (by decide), by have w9 := (twt_3 (by decide) : twt (3 : Int32).toInt = 2); omega, rfl, rfl⟩), by rw [ht]; exact hP.sub [3, 4, 5, 6, 0, 1, 2] rfl, hD.sub [3, 4, 5, 6, 0, 1, 2] (by decide) rfl⟩, hS.F ht⟩) hS.2.2 dX12_readPart_89
            ·
              have i_59 : z18.toInt = (-1) := by have z := g5_neN (a := z18.toInt) (b := (-1)) (by rfl) (by decide) c_59; omega
              omega
          ·
            have i_58 : z18.toInt = (-1) := by have z := g5_neN (a := z18.toInt) (b := (-1)) (by rfl) (by decide) c_58; omega
            refine lv_iload_n hx hb dX12_readPart_53 rfl (lv_at hl 0 rfl) ?_
            refine lv_if_eq (tgt := 61) hx hb dX12_readPart_54 (by decide) (fun c_73 => ?_) (fun c_73 => ?_)
            ·
              exact absurd c_73 (by decide)
            ·
              refine lv_iconst (v := 1) hx hb dX12_readPart_57 (by decide) ?_
              refine lv_goto (tgt := 62) hx hb dX12_readPart_58 (by decide) ?_
              refine lv_iload_n hx hb dX12_readPart_62 rfl (lv_at hl 1 rfl) ?_
              refine lv_iconst (v := (-1)) hx hb dX12_readPart_63 (by decide) ?_
              refine lv_icmp_ne (tgt := 71) hx hb dX12_readPart_64 (by decide) (fun c_74 => ?_) (fun c_74 => ?_)
              ·
                have i_74 : z18.toInt ≠ (-1) := by have z := g5_ne (a := z18.toInt) (b := (-1)) (by rfl) (by decide) c_74; omega
                omega
              ·
                have i_74 : z18.toInt = (-1) := by have z := g5_neN (a := z18.toInt) (b := (-1)) (by rfl) (by decide) c_74; omega
                refine lv_iconst (v := 0) hx hb dX12_readPart_67 (by decide) ?_
                refine lv_goto (tgt := 72) hx hb dX12_readPart_68 (by decide) ?_
                refine lv_iload_n hx hb dX12_readPart_72 rfl (lv_at hl 0 rfl) ?_
                refine lv_if_eq (tgt := 84) hx hb dX12_readPart_73 (by decide) (fun c_75 => ?_) (fun c_75 => ?_)
                ·
                  exact absurd c_75 (by decide)
                ·
                  refine lv_aload_n hx hb dX12_readPart_76 rfl (lv_at hl 2 rfl) ?_
                  refine va_get (D := G.1) (ci := 12) (v := .long u_wo) (C := RX12) (T := TX12) (N := 52) hx hb hts inG_X12 hown hK hP 5 rfl rfl 12 (by decide) (hts _ fl_X12_214) (fun _ h9 => h9) rfl dX12_readPart_77 ?_
                  refine lv_l2i (v := u_wo.toInt32) hx hb dX12_readPart_80 rfl ?_
                  refine lv_goto (tgt := 85) hx hb dX12_readPart_81 (by decide) ?_
                  have hlt9 : u_fr.toInt < u_to.toInt := tks_lt e_s (by omega)
                  obtain ⟨hPc, hDc, hFc⟩ := g5_sub3 (wc := [(b_o, (oc12 u_th u_sa b_rf b_ro b_im b_ke u_fd b_tp u_td u_fr u_to u_so u_wo u_fa u_bd u_nc b_nl u_co b_op b_ar u_le b_pi b_pa u_pd u_od b_ws b_hw u_la b_se b_re u_bk u_va u_su u_ce u_ho u_wy u_bt u_ps b_pt u_tg u_sn b_ip u_ic b_ah b_be b_me u_wd b_tr b_ld u_st b_wn u_id)), (b_tp, (arI G 400 v_tp)), (b_op, (arI G 400 v_op)), (b_ar, (arI G 400 v_ar))]) hP hD hS hA [5, 0, 1, 2] (by decide) rfl
                  refine va_callv (va_runV (As := [.int 1, .int 0, .int u_wo.toInt32]) (rest := []) ⟨hx, hb, hml, hown, hts⟩ (n_leaf1 l G b_o b_tp b_op b_ar b_rf b_ro b_im b_ke b_nl b_pi b_pa b_ws b_hw b_se b_re b_pt b_ip b_ah b_be b_me b_tr b_ld b_wn H.size u_th u_sa u_fd u_td u_fr u_to u_so u_fa u_bd u_nc u_co u_le u_pd u_od u_la u_bk u_ce u_ho u_wy u_bt u_ps u_tg u_sn u_ic u_wd u_id 0 u_wo.toInt32 u_wo u_va u_su u_st v_tp v_op v_ar h_u_td h_u_fr h_u_to h_u_bd h_u_nc h_u_co h_u_pd h_u_la h_u_bk h_u_ce h_u_ho h_u_wy h_u_bt h_u_ps h_u_ic h_u_id ⟨by decide, by decide⟩ (by omega) (by omega)) (cwV 3 hts gV_X12_279 rfl rfl rfl hv_X12_leaf ⟨Nat.le_of_ble_eq_true rfl, Nat.le_of_ble_eq_true rfl⟩) (g5_preV hPc hK hDc hN hT hS hFc (ci := 12) (q0 := 0) rfl rfl) rfl rfl hl.1 rfl (lv_room (Nat.le_of_ble_eq_true rfl)) dX12_readPart_85 ⟨Nat.le_of_ble_eq_true rfl, Nat.le_of_ble_eq_true rfl⟩) hS (fun q _ h => hFc q h) hFc (fun u t H1 locs ht hvm hw hB hz1 hk1 hS => ?_)
                  obtain ⟨hP1, hD1⟩ := hB
                  rw [ht] at hP1
                  rcases hw with rfl | ⟨z82, z83, z84, z85, z86, z87, i_76, i_77, i_78, i_79, i_80, i_81, rfl⟩
                  ·
                    obtain ⟨hP, hD⟩ := va_join (wr := [(b_pi, (arI G 400 v_pi)), (b_pa, (arI G 400 v_pa)), (b_ws, (arJ G 8 v_ws))]) hP hD [5, 0, 1, 2] [3, 4, 6] rfl rfl (by decide) (by decide) hk1 hFc hP1 hD1
                    generalize H1 = H at hP hS ⊢
                    refine g5_rs [(b_pi, (arI G 400 v_pi)), (b_pa, (arI G 400 v_pa)), (b_ws, (arJ G 8 v_ws)), (b_o, (oc12 u_th u_sa b_rf b_ro b_im b_ke u_fd b_tp u_td u_fr u_to u_so u_wo u_fr 1 u_nc b_nl u_co b_op b_ar u_le b_pi b_pa u_pd u_od b_ws b_hw u_la b_se b_re u_bk u_va u_su u_ce u_ho u_wy u_bt u_ps b_pt u_tg u_sn b_ip u_ic b_ah b_be b_me u_wd b_tr b_ld u_st b_wn u_id)), (b_tp, (arI G 400 v_tp)), (b_op, (arI G 400 v_op)), (b_ar, (arI G 400 v_ar))] hP hD (fun hP hD => ?_)
                    refine lv_iconst (v := 3) hx hb dX12_readPart_88 (by decide) ?_
                    exact W.iret (v := 3) hx hb hr (fun t ht hW => ⟨⟨3, [(b_o, (oc12 u_th u_sa b_rf b_ro b_im b_ke u_fd b_tp u_td u_fr u_to u_so u_wo u_fr 1 u_nc b_nl u_co b_op b_ar u_le b_pi b_pa u_pd u_od b_ws b_hw u_la b_se b_re u_bk u_va u_su u_ce u_ho u_wy u_bt u_ps b_pt u_tg u_sn b_ip u_ic b_ah b_be b_me u_wd b_tr b_ld u_st b_wn u_id)), (b_tp, (arI G 400 v_tp)), (b_op, (arI G 400 v_op)), (b_ar, (arI G 400 v_ar)), (b_pi, (arI G 400 v_pi)), (b_pa, (arI G 400 v_pa)), (b_ws, (arJ G 8 v_ws))], rfl, Or.inl (⟨3, ⟨by have zc_o_r : (3 : Int32).toInt = 3 := (by decide); omega, by have zc_o_r : (3 : Int32).toInt = 3 := (by decide); omega⟩, rfl, rfl⟩), by rw [ht]; exact hP.sub [3, 4, 5, 6, 0, 1, 2] rfl, hD.sub [3, 4, 5, 6, 0, 1, 2] (by decide) rfl⟩, hS.F ht⟩) hS.2.2 dX12_readPart_89
                  ·
                    have i_76 : 0 ≤ z82.toInt ∧ z82.toInt ≤ 400 := i_76
                    have i_77 : 0 ≤ z83.toInt ∧ z83.toInt ≤ 400 := i_77
                    have i_78 : 0 ≤ z86.toInt ∧ z86.toInt ≤ 400 := i_78
                    have i_79 : u_to.toInt ≤ z82.toInt ∧ z82.toInt ≤ z83.toInt ∧ z83.toInt ≤ u_td.toInt := i_79
                    have i_80 : TKs z84.toInt z82.toInt z83.toInt := i_80
                    have i_81 : z86.toInt = u_co.toInt + 1 := i_81
                    obtain ⟨hP, hD⟩ := va_join (wr := [(b_pi, (arI G 400 v_pi)), (b_pa, (arI G 400 v_pa)), (b_ws, (arJ G 8 v_ws))]) hP hD [5, 0, 1, 2] [3, 4, 6] rfl rfl (by decide) (by decide) hk1 hFc hP1 hD1
                    generalize H1 = H at hP hS ⊢
                    refine g5_rs [(b_pi, (arI G 400 v_pi)), (b_pa, (arI G 400 v_pa)), (b_ws, (arJ G 8 v_ws)), (b_o, (oc12 u_th u_sa b_rf b_ro b_im b_ke u_fd b_tp u_td z82 z83 z84 z85 u_fa u_bd u_nc b_nl z86 b_op b_ar z87 b_pi b_pa u_pd u_od b_ws b_hw u_la b_se b_re u_bk u_va u_su u_ce u_ho u_wy u_bt u_ps b_pt u_tg u_sn b_ip u_ic b_ah b_be b_me u_wd b_tr b_ld u_st b_wn u_id)), (b_tp, (arI G 400 v_tp)), (b_op, (arI G 400 (upd v_op u_co.toNatClampNeg 0))), (b_ar, (arI G 400 (upd v_ar u_co.toNatClampNeg u_wo.toInt32)))] hP hD (fun hP hD => ?_)
                    refine lv_iconst (v := 3) hx hb dX12_readPart_88 (by decide) ?_
                    exact W.iret (v := 3) hx hb hr (fun t ht hW => ⟨⟨3, [(b_o, (oc12 u_th u_sa b_rf b_ro b_im b_ke u_fd b_tp u_td z82 z83 z84 z85 u_fa u_bd u_nc b_nl z86 b_op b_ar z87 b_pi b_pa u_pd u_od b_ws b_hw u_la b_se b_re u_bk u_va u_su u_ce u_ho u_wy u_bt u_ps b_pt u_tg u_sn b_ip u_ic b_ah b_be b_me u_wd b_tr b_ld u_st b_wn u_id)), (b_tp, (arI G 400 v_tp)), (b_op, (arI G 400 (upd v_op u_co.toNatClampNeg 0))), (b_ar, (arI G 400 (upd v_ar u_co.toNatClampNeg u_wo.toInt32))), (b_pi, (arI G 400 v_pi)), (b_pa, (arI G 400 v_pa)), (b_ws, (arJ G 8 v_ws))], rfl, Or.inr (⟨3, z82, z83, z84, z85, z86, z87, u_pd, u_od, (upd v_op u_co.toNatClampNeg 0), (upd v_ar u_co.toNatClampNeg u_wo.toInt32), v_pi, v_pa, i_76, i_77, i_78, h_u_pd, ⟨by have zc_o_r : (3 : Int32).toInt = 3 := (by decide); omega, by have zc_o_r : (3 : Int32).toInt = 3 := (by decide); omega⟩, by omega, i_80, xj_emit e_x (by omega) (by omega), tj_3 (hj_leaf e_x (tj_d0 e_j (Or.inr rfl)) (by omega) ⟨by decide, by decide⟩) (by decide), by have w9 := (twt_3 (by decide) : twt (3 : Int32).toInt = 2); omega, rfl, rfl⟩), by rw [ht]; exact hP.sub [3, 4, 5, 6, 0, 1, 2] rfl, hD.sub [3, 4, 5, 6, 0, 1, 2] (by decide) rfl⟩, hS.F ht⟩) hS.2.2 dX12_readPart_89
    ·
      exact absurd c_15 (by decide)
theorem dgX12_readPlain_0 : ∀ r ∈ ([(0, (.aload_n 0, 1)), (1, (.ldc2_w 283, 3)), (4, (.invokevirtual 254, 3)), (7, (.ifCond .eq 16, 3)), (10, (.aload_n 0, 1)), (11, (.bipush 27, 2)), (13, (.iconst 0, 1)), (14, (.invokevirtual 261, 3)), (17, (.aload_n 0, 1)), (18, (.invokevirtual 208, 3)), (21, (.iconst 0, 1)), (22, (.ireturn, 1)), (23, (.aload_n 0, 1)), (24, (.bipush 40, 2)), (26, (.invokevirtual 267, 3)), (29, (.ifCond .eq 11, 3)), (32, (.aload_n 0, 1)), (33, (.bipush 30, 2)), (35, (.invokevirtual 270, 3)), (38, (.iconst 0, 1)), (39, (.ireturn, 1)), (40, (.aload_n 0, 1)), (41, (.invokevirtual 285, 3)), (44, (.ireturn, 1))] : List (Nat × (Instr × Nat))), decode cX12_readPlain r.1 = .ok r.2 := by decide +kernel
theorem dX12_readPlain_0 : decode cX12_readPlain 0 = .ok (.aload_n 0, 1) := dgX12_readPlain_0 (0, (.aload_n 0, 1)) (List.mem_of_getElem? (i := 0) rfl)
theorem dX12_readPlain_1 : decode cX12_readPlain 1 = .ok (.ldc2_w 283, 3) := dgX12_readPlain_0 (1, (.ldc2_w 283, 3)) (List.mem_of_getElem? (i := 1) rfl)
theorem dX12_readPlain_4 : decode cX12_readPlain 4 = .ok (.invokevirtual 254, 3) := dgX12_readPlain_0 (4, (.invokevirtual 254, 3)) (List.mem_of_getElem? (i := 2) rfl)
theorem dX12_readPlain_7 : decode cX12_readPlain 7 = .ok (.ifCond .eq 16, 3) := dgX12_readPlain_0 (7, (.ifCond .eq 16, 3)) (List.mem_of_getElem? (i := 3) rfl)
theorem dX12_readPlain_10 : decode cX12_readPlain 10 = .ok (.aload_n 0, 1) := dgX12_readPlain_0 (10, (.aload_n 0, 1)) (List.mem_of_getElem? (i := 4) rfl)
theorem dX12_readPlain_11 : decode cX12_readPlain 11 = .ok (.bipush 27, 2) := dgX12_readPlain_0 (11, (.bipush 27, 2)) (List.mem_of_getElem? (i := 5) rfl)
theorem dX12_readPlain_13 : decode cX12_readPlain 13 = .ok (.iconst 0, 1) := dgX12_readPlain_0 (13, (.iconst 0, 1)) (List.mem_of_getElem? (i := 6) rfl)
theorem dX12_readPlain_14 : decode cX12_readPlain 14 = .ok (.invokevirtual 261, 3) := dgX12_readPlain_0 (14, (.invokevirtual 261, 3)) (List.mem_of_getElem? (i := 7) rfl)
theorem dX12_readPlain_17 : decode cX12_readPlain 17 = .ok (.aload_n 0, 1) := dgX12_readPlain_0 (17, (.aload_n 0, 1)) (List.mem_of_getElem? (i := 8) rfl)
theorem dX12_readPlain_18 : decode cX12_readPlain 18 = .ok (.invokevirtual 208, 3) := dgX12_readPlain_0 (18, (.invokevirtual 208, 3)) (List.mem_of_getElem? (i := 9) rfl)
theorem dX12_readPlain_21 : decode cX12_readPlain 21 = .ok (.iconst 0, 1) := dgX12_readPlain_0 (21, (.iconst 0, 1)) (List.mem_of_getElem? (i := 10) rfl)
theorem dX12_readPlain_22 : decode cX12_readPlain 22 = .ok (.ireturn, 1) := dgX12_readPlain_0 (22, (.ireturn, 1)) (List.mem_of_getElem? (i := 11) rfl)
theorem dX12_readPlain_23 : decode cX12_readPlain 23 = .ok (.aload_n 0, 1) := dgX12_readPlain_0 (23, (.aload_n 0, 1)) (List.mem_of_getElem? (i := 12) rfl)
theorem dX12_readPlain_24 : decode cX12_readPlain 24 = .ok (.bipush 40, 2) := dgX12_readPlain_0 (24, (.bipush 40, 2)) (List.mem_of_getElem? (i := 13) rfl)
theorem dX12_readPlain_26 : decode cX12_readPlain 26 = .ok (.invokevirtual 267, 3) := dgX12_readPlain_0 (26, (.invokevirtual 267, 3)) (List.mem_of_getElem? (i := 14) rfl)
theorem dX12_readPlain_29 : decode cX12_readPlain 29 = .ok (.ifCond .eq 11, 3) := dgX12_readPlain_0 (29, (.ifCond .eq 11, 3)) (List.mem_of_getElem? (i := 15) rfl)
theorem dX12_readPlain_32 : decode cX12_readPlain 32 = .ok (.aload_n 0, 1) := dgX12_readPlain_0 (32, (.aload_n 0, 1)) (List.mem_of_getElem? (i := 16) rfl)
theorem dX12_readPlain_33 : decode cX12_readPlain 33 = .ok (.bipush 30, 2) := dgX12_readPlain_0 (33, (.bipush 30, 2)) (List.mem_of_getElem? (i := 17) rfl)
theorem dX12_readPlain_35 : decode cX12_readPlain 35 = .ok (.invokevirtual 270, 3) := dgX12_readPlain_0 (35, (.invokevirtual 270, 3)) (List.mem_of_getElem? (i := 18) rfl)
theorem dX12_readPlain_38 : decode cX12_readPlain 38 = .ok (.iconst 0, 1) := dgX12_readPlain_0 (38, (.iconst 0, 1)) (List.mem_of_getElem? (i := 19) rfl)
theorem dX12_readPlain_39 : decode cX12_readPlain 39 = .ok (.ireturn, 1) := dgX12_readPlain_0 (39, (.ireturn, 1)) (List.mem_of_getElem? (i := 20) rfl)
theorem dX12_readPlain_40 : decode cX12_readPlain 40 = .ok (.aload_n 0, 1) := dgX12_readPlain_0 (40, (.aload_n 0, 1)) (List.mem_of_getElem? (i := 21) rfl)
theorem dX12_readPlain_41 : decode cX12_readPlain 41 = .ok (.invokevirtual 285, 3) := dgX12_readPlain_0 (41, (.invokevirtual 285, 3)) (List.mem_of_getElem? (i := 22) rfl)
theorem dX12_readPlain_44 : decode cX12_readPlain 44 = .ok (.ireturn, 1) := dgX12_readPlain_0 (44, (.ireturn, 1)) (List.mem_of_getElem? (i := 23) rfl)
theorem kl_X12_283 : Cond.constantLong RX12 283 14836 ∈ tblG := tg 1537 (by decide +kernel) (by decide +kernel)
theorem ml_X12_285 : Cond.methodLink RX12 285 yX12_readPart ∈ tblG := tg 1550 (by decide +kernel) (by decide +kernel)
theorem im_X12_readPart : Cond.instanceMethod yX12_readPart ∈ tblG := tg 1552 (by decide +kernel) (by decide +kernel)
theorem se_X12_readPart : Cond.selects RX12 yX12_readPart yX12_readPart ∈ tblG := tg 53 (by decide +kernel) (by decide +kernel)
theorem cd_X12_readPart : Cond.code yX12_readPart cX12_readPart 3 (some .int) ∈ tblG := tg 1553 (by decide +kernel) (by decide +kernel)
theorem gW_X12_readPart : GoodIn tblG (wsG yX12_readPart cX12_readPart 3 (some .int)) := tgi cd_X12_readPart
theorem gV_X12_285 : GoodIn tblG (wsV RX12 285 RX12 yX12_readPart (wsG yX12_readPart cX12_readPart 3 (some .int))) := tgV ml_X12_285 im_X12_readPart se_X12_readPart ini_X12 gW_X12_readPart
theorem hv_X12_readPart : yX12_readPart.cls = RX12 ∧ yX12_readPart.cls ≠ "java/lang/invoke/MethodHandle" ∧ yX12_readPart.cls ≠ "java/lang/invoke/VarHandle" ∧ (parseMethodDescriptor yX12_readPart.desc).map (fun d => d.parameters.length) = some 0 := by decide +kernel
set_option maxHeartbeats 4000000 in
set_option maxRecDepth 100000 in
theorem n_readPlain (l : Launch) (G : g5_G) (b_o b_tp b_op b_ar b_pi b_pa b_ws b_rf b_ro b_im b_ke b_nl b_hw b_se b_re b_pt b_ip b_ah b_be b_me b_tr b_ld b_wn : Nat) (sz : Nat) (u_th : Int32) (u_sa : Int32) (u_fd : Int32) (u_td : Int32) (u_fr : Int32) (u_to : Int32) (u_so : Int32) (u_fa : Int32) (u_bd : Int32) (u_nc : Int32) (u_co : Int32) (u_le : Int32) (u_pd : Int32) (u_od : Int32) (u_la : Int32) (u_bk : Int32) (u_ce : Int32) (u_ho : Int32) (u_wy : Int32) (u_bt : Int32) (u_ps : Int32) (u_tg : Int32) (u_sn : Int32) (u_ic : Int32) (u_wd : Int32) (u_id : Int32) (g_a : Int32) (u_wo : Int64) (u_va : Int64) (u_su : Int64) (u_st : Int64) (v_tp : Nat → Int32) (v_op : Nat → Int32) (v_ar : Nat → Int32) (v_pi : Nat → Int32) (v_pa : Nat → Int32) (v_ws : Nat → Int64) (g_op : Nat → Int32) (g_ar : Nat → Int32) (h_u_td : 0 ≤ u_td.toInt ∧ u_td.toInt ≤ 400) (h_u_fr : 0 ≤ u_fr.toInt ∧ u_fr.toInt ≤ 400) (h_u_to : 0 ≤ u_to.toInt ∧ u_to.toInt ≤ 400) (h_u_bd : 0 ≤ u_bd.toInt ∧ u_bd.toInt ≤ 0) (h_u_nc : 0 ≤ u_nc.toInt ∧ u_nc.toInt ≤ 12) (h_u_co : 0 ≤ u_co.toInt ∧ u_co.toInt ≤ 400) (h_u_pd : 0 ≤ u_pd.toInt ∧ u_pd.toInt ≤ 400) (h_u_la : 0 ≤ u_la.toInt ∧ u_la.toInt ≤ 4840) (h_u_bk : 0 ≤ u_bk.toInt ∧ u_bk.toInt ≤ 1) (h_u_ce : 0 ≤ u_ce.toInt ∧ u_ce.toInt ≤ 63) (h_u_ho : 0 ≤ u_ho.toInt ∧ u_ho.toInt ≤ 23) (h_u_wy : 0 ≤ u_wy.toInt ∧ u_wy.toInt ≤ 3) (h_u_bt : 0 ≤ u_bt.toInt ∧ u_bt.toInt ≤ 1000000) (h_u_ps : 0 ≤ u_ps.toInt ∧ u_ps.toInt ≤ 200) (h_u_ic : 0 ≤ u_ic.toInt ∧ u_ic.toInt ≤ 1) (h_u_id : 0 ≤ u_id.toInt ∧ u_id.toInt ≤ 1) (e_t : u_fr.toInt ≤ u_to.toInt ∧ u_to.toInt ≤ u_td.toInt) (e_s : TKs u_so.toInt u_fr.toInt u_to.toInt) (e_x : XJ g_op g_ar v_op v_ar v_pi v_pa g_a.toInt u_co.toInt u_pd.toInt u_fr.toInt) (e_j : TJ v_op v_ar v_pi v_pa g_a.toInt u_co.toInt u_pd.toInt 0) : Met l yX12_readPlain (wsG yX12_readPlain cX12_readPlain 1 (some .int)) ({ frames := 5, cells := 0, slots := 0, locals := 106 }) (va_Pc [.ref b_o] (g5_P G [(b_o, (oc12 u_th u_sa b_rf b_ro b_im b_ke u_fd b_tp u_td u_fr u_to u_so u_wo u_fa u_bd u_nc b_nl u_co b_op b_ar u_le b_pi b_pa u_pd u_od b_ws b_hw u_la b_se b_re u_bk u_va u_su u_ce u_ho u_wy u_bt u_ps b_pt u_tg u_sn b_ip u_ic b_ah b_be b_me u_wd b_tr b_ld u_st b_wn u_id)), (b_tp, (arI G 400 v_tp)), (b_op, (arI G 400 v_op)), (b_ar, (arI G 400 v_ar)), (b_pi, (arI G 400 v_pi)), (b_pa, (arI G 400 v_pa)), (b_ws, (arJ G 8 v_ws))] sz)) (va_Qi (fun (r : Int32) (u : va_W) => (∃ (o_r : Int32), (0 ≤ o_r.toInt ∧ o_r.toInt ≤ 4) ∧ (r = o_r) ∧ (u = [(b_o, (oc12 u_th u_sa b_rf b_ro b_im b_ke u_fd b_tp u_td u_fr u_to u_so u_wo u_fr 1 u_nc b_nl u_co b_op b_ar u_le b_pi b_pa u_pd u_od b_ws b_hw u_la b_se b_re u_bk u_va u_su u_ce u_ho u_wy u_bt u_ps b_pt u_tg u_sn b_ip u_ic b_ah b_be b_me u_wd b_tr b_ld u_st b_wn u_id)), (b_tp, (arI G 400 v_tp)), (b_op, (arI G 400 v_op)), (b_ar, (arI G 400 v_ar)), (b_pi, (arI G 400 v_pi)), (b_pa, (arI G 400 v_pa)), (b_ws, (arJ G 8 v_ws))])) ∨ (∃ (o_r : Int32) (o_fr : Int32) (o_to : Int32) (o_so : Int32) (o_wo : Int64) (o_co : Int32) (o_le : Int32) (o_pd : Int32) (o_od : Int32) (o_op : Nat → Int32) (o_ar : Nat → Int32) (o_pi : Nat → Int32) (o_pa : Nat → Int32), (0 ≤ o_fr.toInt ∧ o_fr.toInt ≤ 400) ∧ (0 ≤ o_to.toInt ∧ o_to.toInt ≤ 400) ∧ (0 ≤ o_co.toInt ∧ o_co.toInt ≤ 400) ∧ (0 ≤ o_pd.toInt ∧ o_pd.toInt ≤ 400) ∧ (0 ≤ o_r.toInt ∧ o_r.toInt ≤ 4) ∧ (u_fr.toInt ≤ o_fr.toInt ∧ o_fr.toInt ≤ o_to.toInt ∧ o_to.toInt ≤ u_td.toInt) ∧ (TKs o_so.toInt o_fr.toInt o_to.toInt) ∧ (XJ g_op g_ar o_op o_ar o_pi o_pa g_a.toInt o_co.toInt o_pd.toInt o_fr.toInt) ∧ (TJ o_op o_ar o_pi o_pa g_a.toInt o_co.toInt o_pd.toInt o_r.toInt) ∧ (twt o_r.toInt + 1 ≤ 0 + 3 * (o_fr.toInt - u_fr.toInt)) ∧ (r = o_r) ∧ (u = [(b_o, (oc12 u_th u_sa b_rf b_ro b_im b_ke u_fd b_tp u_td o_fr o_to o_so o_wo u_fa u_bd u_nc b_nl o_co b_op b_ar o_le b_pi b_pa o_pd o_od b_ws b_hw u_la b_se b_re u_bk u_va u_su u_ce u_ho u_wy u_bt u_ps b_pt u_tg u_sn b_ip u_ic b_ah b_be b_me u_wd b_tr b_ld u_st b_wn u_id)), (b_tp, (arI G 400 v_tp)), (b_op, (arI G 400 o_op)), (b_ar, (arI G 400 o_ar)), (b_pi, (arI G 400 o_pi)), (b_pa, (arI G 400 o_pa)), (b_ws, (arJ G 8 v_ws))]))) (g5_B G (va_A [(b_o, (oc12 u_th u_sa b_rf b_ro b_im b_ke u_fd b_tp u_td u_fr u_to u_so u_wo u_fa u_bd u_nc b_nl u_co b_op b_ar u_le b_pi b_pa u_pd u_od b_ws b_hw u_la b_se b_re u_bk u_va u_su u_ce u_ho u_wy u_bt u_ps b_pt u_tg u_sn b_ip u_ic b_ah b_be b_me u_wd b_tr b_ld u_st b_wn u_id)), (b_tp, (arI G 400 v_tp)), (b_op, (arI G 400 v_op)), (b_ar, (arI G 400 v_ar)), (b_pi, (arI G 400 v_pi)), (b_pa, (arI G 400 v_pa)), (b_ws, (arJ G 8 v_ws))] sz)) (va_A [(b_o, (oc12 u_th u_sa b_rf b_ro b_im b_ke u_fd b_tp u_td u_fr u_to u_so u_wo u_fa u_bd u_nc b_nl u_co b_op b_ar u_le b_pi b_pa u_pd u_od b_ws b_hw u_la b_se b_re u_bk u_va u_su u_ce u_ho u_wy u_bt u_ps b_pt u_tg u_sn b_ip u_ic b_ah b_be b_me u_wd b_tr b_ld u_st b_wn u_id)), (b_tp, (arI G 400 v_tp)), (b_op, (arI G 400 v_op)), (b_ar, (arI G 400 v_ar)), (b_pi, (arI G 400 v_pi)), (b_pa, (arI G 400 v_pa)), (b_ws, (arJ G 8 v_ws))] sz)) 0 0 (va_A [(b_o, (oc12 u_th u_sa b_rf b_ro b_im b_ke u_fd b_tp u_td u_fr u_to u_so u_wo u_fa u_bd u_nc b_nl u_co b_op b_ar u_le b_pi b_pa u_pd u_od b_ws b_hw u_la b_se b_re u_bk u_va u_su u_ce u_ho u_wy u_bt u_ps b_pt u_tg u_sn b_ip u_ic b_ah b_be b_me u_wd b_tr b_ld u_st b_wn u_id)), (b_tp, (arI G 400 v_tp)), (b_op, (arI G 400 v_op)), (b_ar, (arI G 400 v_ar)), (b_pi, (arI G 400 v_pi)), (b_pa, (arI G 400 v_pa)), (b_ws, (arJ G 8 v_ws))] sz) := by
  refine Met.ofW (cc := cX12_readPlain) (maxL := 1) (ret := (some .int)) (by decide) rfl ?_
  intro p e s m args below meth c s₁ B hml hv
  obtain ⟨rfl, hsz, hP, hK, hD0, hN, hT⟩ := hv
  have hx := B.exec
  have hb := B.bytes
  have hr := B.returns
  have hts : ∀ w ∈ tblG, w.before _ s = true := fun w h => atoms_spec (ws := (wsG yX12_readPlain cX12_readPlain 1 (some .int))) B.pre w (List.mem_cons_of_mem _ h)
  have hown : s.vm.findClass RX12 = some m.cls := findClass_of_methodNamed B.named
  have hlocks := B.notSynchronized
  subst hsz
  have hD := hD0.self (sz := s.heap.size)
  generalize hAe : va_A [(b_o, (oc12 u_th u_sa b_rf b_ro b_im b_ke u_fd b_tp u_td u_fr u_to u_so u_wo u_fa u_bd u_nc b_nl u_co b_op b_ar u_le b_pi b_pa u_pd u_od b_ws b_hw u_la b_se b_re u_bk u_va u_su u_ce u_ho u_wy u_bt u_ps b_pt u_tg u_sn b_ip u_ic b_ah b_be b_me u_wd b_tr b_ld u_st b_wn u_id)), (b_tp, (arI G 400 v_tp)), (b_op, (arI G 400 v_op)), (b_ar, (arI G 400 v_ar)), (b_pi, (arI G 400 v_pi)), (b_pa, (arI G 400 v_pa)), (b_ws, (arJ G 8 v_ws))] s.heap.size = A at hD hT ⊢
  have hA : ∀ q : Nat, s.heap.size ≤ q → A q := fun q h => by rw [← hAe]; exact Or.inr h
  have hS : va_S A s.heap s.heap [] := va_S.rf
  have hP : va_P G.1 vwCl [(b_o, (oc12 u_th u_sa b_rf b_ro b_im b_ke u_fd b_tp u_td u_fr u_to u_so u_wo u_fa u_bd u_nc b_nl u_co b_op b_ar u_le b_pi b_pa u_pd u_od b_ws b_hw u_la b_se b_re u_bk u_va u_su u_ce u_ho u_wy u_bt u_ps b_pt u_tg u_sn b_ip u_ic b_ah b_be b_me u_wd b_tr b_ld u_st b_wn u_id)), (b_tp, (arI G 400 v_tp)), (b_op, (arI G 400 v_op)), (b_ar, (arI G 400 v_ar)), (b_pi, (arI G 400 v_pi)), (b_pa, (arI G 400 v_pa)), (b_ws, (arJ G 8 v_ws))] s.heap := hP
  have hl := lv_entry ([.ref b_o]) (n := 1) (Nat.le_of_ble_eq_true rfl)
  rw [lg_entry_eq]
  generalize (lg_sl ([.ref b_o]) ++ List.replicate (1 - (lg_sl ([.ref b_o])).length) Slot.unset).toArray = ls at hl ⊢
  have hl : lv_has ls 1 [(0, .ref b_o)] := hl
  have hmf9 := xj_mf e_x
  refine lv_aload_n hx hb dX12_readPlain_0 rfl (lv_at hl 0 rfl) ?_
  refine lv_ldc2 (v := 14836) hx hb hown (hts _ kl_X12_283) dX12_readPlain_1 ?_
  obtain ⟨hPc, hDc, hFc⟩ := g5_sub3 (wc := [(b_o, (oc12 u_th u_sa b_rf b_ro b_im b_ke u_fd b_tp u_td u_fr u_to u_so u_wo u_fa u_bd u_nc b_nl u_co b_op b_ar u_le b_pi b_pa u_pd u_od b_ws b_hw u_la b_se b_re u_bk u_va u_su u_ce u_ho u_wy u_bt u_ps b_pt u_tg u_sn b_ip u_ic b_ah b_be b_me u_wd b_tr b_ld u_st b_wn u_id))]) hP hD hS hA [0] (by decide) rfl
  refine va_calli (va_runV (As := [.long 14836]) (rest := []) ⟨hx, hb, hml, hown, hts⟩ (n_isWord l G b_o b_rf b_ro b_im b_ke b_tp b_nl b_op b_ar b_pi b_pa b_ws b_hw b_se b_re b_pt b_ip b_ah b_be b_me b_tr b_ld b_wn s.heap.size u_th u_sa u_fd u_td u_fr u_to u_so u_fa u_bd u_nc u_co u_le u_pd u_od u_la u_bk u_ce u_ho u_wy u_bt u_ps u_tg u_sn u_ic u_wd u_id u_wo u_va u_su u_st 14836 h_u_td h_u_fr h_u_to ⟨by omega, by omega⟩ h_u_nc h_u_co h_u_pd h_u_la h_u_bk h_u_ce h_u_ho h_u_wy h_u_bt h_u_ps h_u_ic h_u_id) (cwV 1 hts gV_X12_254 rfl rfl rfl hv_X12_isWord ⟨Nat.le_of_ble_eq_true rfl, Nat.le_of_ble_eq_true rfl⟩) (g5_preV hPc hK hDc hN hT hS hFc (ci := 12) (q0 := 0) rfl rfl) rfl rfl hl.1 rfl (lv_room (Nat.le_of_ble_eq_true rfl)) dX12_readPlain_4 ⟨Nat.le_of_ble_eq_true rfl, Nat.le_of_ble_eq_true rfl⟩) hS (fun q _ h => hFc q h) hFc (fun r u t H1 locs ht hvm hw hB hz1 hk1 hS => ?_)
  obtain ⟨hP1, hD1⟩ := hB
  rw [ht] at hP1
  rcases hw with ⟨i_1, rfl, rfl⟩ | ⟨rfl, rfl⟩
  ·
    have i_1 : u_so.toInt = 1 := i_1
    obtain ⟨hP, hD⟩ := va_join (wr := [(b_tp, (arI G 400 v_tp)), (b_op, (arI G 400 v_op)), (b_ar, (arI G 400 v_ar)), (b_pi, (arI G 400 v_pi)), (b_pa, (arI G 400 v_pa)), (b_ws, (arJ G 8 v_ws))]) hP hD [0] [1, 2, 3, 4, 5, 6] rfl rfl (by decide) (by decide) hk1 hFc hP1 hD1
    generalize H1 = H at hP hS ⊢
    refine g5_rs [(b_tp, (arI G 400 v_tp)), (b_op, (arI G 400 v_op)), (b_ar, (arI G 400 v_ar)), (b_pi, (arI G 400 v_pi)), (b_pa, (arI G 400 v_pa)), (b_ws, (arJ G 8 v_ws)), (b_o, (oc12 u_th u_sa b_rf b_ro b_im b_ke u_fd b_tp u_td u_fr u_to u_so u_wo u_fa u_bd u_nc b_nl u_co b_op b_ar u_le b_pi b_pa u_pd u_od b_ws b_hw u_la b_se b_re u_bk u_va u_su u_ce u_ho u_wy u_bt u_ps b_pt u_tg u_sn b_ip u_ic b_ah b_be b_me u_wd b_tr b_ld u_st b_wn u_id))] hP hD (fun hP hD => ?_)
    refine lv_if_eq (tgt := 23) hx hb dX12_readPlain_7 (by decide) (fun c_2 => ?_) (fun c_2 => ?_)
    ·
      exact absurd c_2 (by decide)
    ·
      have hlt9 : u_fr.toInt < u_to.toInt := tks_lt e_s (by omega)
      refine lv_aload_n hx hb dX12_readPlain_10 rfl (lv_at hl 0 rfl) ?_
      refine lv_bipush (v := 27) hx hb dX12_readPlain_11 (by decide) ?_
      refine lv_iconst (v := 0) hx hb dX12_readPlain_13 (by decide) ?_
      obtain ⟨hPc, hDc, hFc⟩ := g5_sub3 (wc := [(b_o, (oc12 u_th u_sa b_rf b_ro b_im b_ke u_fd b_tp u_td u_fr u_to u_so u_wo u_fa u_bd u_nc b_nl u_co b_op b_ar u_le b_pi b_pa u_pd u_od b_ws b_hw u_la b_se b_re u_bk u_va u_su u_ce u_ho u_wy u_bt u_ps b_pt u_tg u_sn b_ip u_ic b_ah b_be b_me u_wd b_tr b_ld u_st b_wn u_id)), (b_pi, (arI G 400 v_pi)), (b_pa, (arI G 400 v_pa))]) hP hD hS hA [6, 3, 4] (by decide) rfl
      refine va_callv (va_runV (As := [.int 27, .int 0]) (rest := []) ⟨hx, hb, hml, hown, hts⟩ (n_push l G b_o b_pi b_pa b_rf b_ro b_im b_ke b_tp b_nl b_op b_ar b_ws b_hw b_se b_re b_pt b_ip b_ah b_be b_me b_tr b_ld b_wn H.size u_th u_sa u_fd u_td u_fr u_to u_so u_fa u_bd u_nc u_co u_le u_pd u_od u_la u_bk u_ce u_ho u_wy u_bt u_ps u_tg u_sn u_ic u_wd u_id 27 0 u_wo u_va u_su u_st v_pi v_pa h_u_td h_u_fr h_u_to ⟨by omega, by omega⟩ h_u_nc h_u_co h_u_pd h_u_la h_u_bk h_u_ce h_u_ho h_u_wy h_u_bt h_u_ps h_u_ic h_u_id (by omega)) (cwV 2 hts gV_X12_261 rfl rfl rfl hv_X12_push ⟨Nat.le_of_ble_eq_true rfl, Nat.le_of_ble_eq_true rfl⟩) (g5_preV hPc hK hDc hN hT hS hFc (ci := 12) (q0 := 0) rfl rfl) rfl rfl hl.1 rfl (lv_room (Nat.le_of_ble_eq_true rfl)) dX12_readPlain_14 ⟨Nat.le_of_ble_eq_true rfl, Nat.le_of_ble_eq_true rfl⟩) hS (fun q _ h => hFc q h) hFc (fun u t H1 locs ht hvm hw hB hz1 hk1 hS => ?_)
      obtain ⟨hP1, hD1⟩ := hB
      rw [ht] at hP1
      obtain ⟨z5, i_3, i_4, rfl⟩ := hw
      have i_3 : 0 ≤ z5.toInt ∧ z5.toInt ≤ 400 := i_3
      have i_4 : z5.toInt = u_pd.toInt + 1 := i_4
      obtain ⟨hP, hD⟩ := va_join (wr := [(b_tp, (arI G 400 v_tp)), (b_op, (arI G 400 v_op)), (b_ar, (arI G 400 v_ar)), (b_ws, (arJ G 8 v_ws))]) hP hD [6, 3, 4] [0, 1, 2, 5] rfl rfl (by decide) (by decide) hk1 hFc hP1 hD1
      generalize H1 = H at hP hS ⊢
      refine g5_rs [(b_tp, (arI G 400 v_tp)), (b_op, (arI G 400 v_op)), (b_ar, (arI G 400 v_ar)), (b_ws, (arJ G 8 v_ws)), (b_o, (oc12 u_th u_sa b_rf b_ro b_im b_ke u_fd b_tp u_td u_fr u_to u_so u_wo u_fa u_bd u_nc b_nl u_co b_op b_ar u_le b_pi b_pa z5 u_od b_ws b_hw u_la b_se b_re u_bk u_va u_su u_ce u_ho u_wy u_bt u_ps b_pt u_tg u_sn b_ip u_ic b_ah b_be b_me u_wd b_tr b_ld u_st b_wn u_id)), (b_pi, (arI G 400 (upd v_pi u_pd.toNatClampNeg 27))), (b_pa, (arI G 400 (upd v_pa u_pd.toNatClampNeg 0)))] hP hD (fun hP hD => ?_)
      refine lv_aload_n hx hb dX12_readPlain_17 rfl (lv_at hl 0 rfl) ?_
      obtain ⟨hPc, hDc, hFc⟩ := g5_sub3 (wc := [(b_o, (oc12 u_th u_sa b_rf b_ro b_im b_ke u_fd b_tp u_td u_fr u_to u_so u_wo u_fa u_bd u_nc b_nl u_co b_op b_ar u_le b_pi b_pa z5 u_od b_ws b_hw u_la b_se b_re u_bk u_va u_su u_ce u_ho u_wy u_bt u_ps b_pt u_tg u_sn b_ip u_ic b_ah b_be b_me u_wd b_tr b_ld u_st b_wn u_id)), (b_tp, (arI G 400 v_tp))]) hP hD hS hA [4, 0] (by decide) rfl
      refine va_callv (va_runV (As := []) (rest := []) ⟨hx, hb, hml, hown, hts⟩ (n_next l G b_o b_tp b_rf b_ro b_im b_ke b_nl b_op b_ar b_pi b_pa b_ws b_hw b_se b_re b_pt b_ip b_ah b_be b_me b_tr b_ld b_wn H.size u_th u_sa u_fd u_td u_fr u_to u_so u_fa u_bd u_nc u_co u_le z5 u_od u_la u_bk u_ce u_ho u_wy u_bt u_ps u_tg u_sn u_ic u_wd u_id u_wo u_va u_su u_st v_tp h_u_td h_u_fr h_u_to ⟨by omega, by omega⟩ h_u_nc h_u_co i_3 h_u_la h_u_bk h_u_ce h_u_ho h_u_wy h_u_bt h_u_ps h_u_ic h_u_id (by omega)) (cwV 0 hts gV_X12_208 rfl rfl rfl hv_X12_next ⟨Nat.le_of_ble_eq_true rfl, Nat.le_of_ble_eq_true rfl⟩) (g5_preV hPc hK hDc hN hT hS hFc (ci := 12) (q0 := 0) rfl rfl) rfl rfl hl.1 rfl (lv_room (Nat.le_of_ble_eq_true rfl)) dX12_readPlain_18 ⟨Nat.le_of_ble_eq_true rfl, Nat.le_of_ble_eq_true rfl⟩) hS (fun q _ h => hFc q h) hFc (fun u t H1 locs ht hvm hw hB hz1 hk1 hS => ?_)
      obtain ⟨hP1, hD1⟩ := hB
      rw [ht] at hP1
      obtain ⟨z10, z11, z12, z13, i_6, i_7, i_8, i_9, rfl⟩ := hw
      have i_6 : 0 ≤ z10.toInt ∧ z10.toInt ≤ 400 := i_6
      have i_7 : 0 ≤ z11.toInt ∧ z11.toInt ≤ 400 := i_7
      have i_8 : u_to.toInt ≤ z10.toInt ∧ z10.toInt ≤ z11.toInt ∧ z11.toInt ≤ u_td.toInt := i_8
      have i_9 : TKs z12.toInt z10.toInt z11.toInt := i_9
      obtain ⟨hP, hD⟩ := va_join (wr := [(b_op, (arI G 400 v_op)), (b_ar, (arI G 400 v_ar)), (b_ws, (arJ G 8 v_ws)), (b_pi, (arI G 400 (upd v_pi u_pd.toNatClampNeg 27))), (b_pa, (arI G 400 (upd v_pa u_pd.toNatClampNeg 0)))]) hP hD [4, 0] [1, 2, 3, 5, 6] rfl rfl (by decide) (by decide) hk1 hFc hP1 hD1
      generalize H1 = H at hP hS ⊢
      refine g5_rs [(b_op, (arI G 400 v_op)), (b_ar, (arI G 400 v_ar)), (b_ws, (arJ G 8 v_ws)), (b_pi, (arI G 400 (upd v_pi u_pd.toNatClampNeg 27))), (b_pa, (arI G 400 (upd v_pa u_pd.toNatClampNeg 0))), (b_o, (oc12 u_th u_sa b_rf b_ro b_im b_ke u_fd b_tp u_td z10 z11 z12 z13 u_fa u_bd u_nc b_nl u_co b_op b_ar u_le b_pi b_pa z5 u_od b_ws b_hw u_la b_se b_re u_bk u_va u_su u_ce u_ho u_wy u_bt u_ps b_pt u_tg u_sn b_ip u_ic b_ah b_be b_me u_wd b_tr b_ld u_st b_wn u_id)), (b_tp, (arI G 400 v_tp))] hP hD (fun hP hD => ?_)
      refine lv_iconst (v := 0) hx hb dX12_readPlain_21 (by decide) ?_
      exact W.iret (v := 0) hx hb hr (fun t ht hW => ⟨⟨0, [(b_o, (oc12 u_th u_sa b_rf b_ro b_im b_ke u_fd b_tp u_td z10 z11 z12 z13 u_fa u_bd u_nc b_nl u_co b_op b_ar u_le b_pi b_pa z5 u_od b_ws b_hw u_la b_se b_re u_bk u_va u_su u_ce u_ho u_wy u_bt u_ps b_pt u_tg u_sn b_ip u_ic b_ah b_be b_me u_wd b_tr b_ld u_st b_wn u_id)), (b_tp, (arI G 400 v_tp)), (b_op, (arI G 400 v_op)), (b_ar, (arI G 400 v_ar)), (b_pi, (arI G 400 (upd v_pi u_pd.toNatClampNeg 27))), (b_pa, (arI G 400 (upd v_pa u_pd.toNatClampNeg 0))), (b_ws, (arJ G 8 v_ws))], rfl, Or.inr (⟨0, z10, z11, z12, z13, u_co, u_le, z5, u_od, v_op, v_ar, (upd v_pi u_pd.toNatClampNeg 27), (upd v_pa u_pd.toNatClampNeg 0), i_6, i_7, h_u_co, i_3, ⟨by have zc_o_r : (0 : Int32).toInt = 0 := (by decide); omega, by have zc_o_r : (0 : Int32).toInt = 0 := (by decide); omega⟩, by omega, i_9, xj_push e_x (by omega) (by omega) ⟨by decide, by decide⟩ (Or.inl (by decide)), tj_0 (hj_push0 (tj_d0 e_j (Or.inl rfl)) (by omega) (by omega) (Or.inl (by decide)) (Or.inr (e_j.2.1 (Or.inl rfl)))) (by decide) (no31_push (e_j.2.1 (Or.inl rfl)) (by omega) (by omega) (by decide)), by have w9 := (twt_0 (by decide) : twt (0 : Int32).toInt = 0); omega, rfl, rfl⟩), by rw [ht]; exact hP.sub [5, 6, 0, 1, 3, 4, 2] rfl, hD.sub [5, 6, 0, 1, 3, 4, 2] (by decide) rfl⟩, hS.F ht⟩) hS.2.2 dX12_readPlain_22
  ·
    obtain ⟨hP, hD⟩ := va_join (wr := [(b_tp, (arI G 400 v_tp)), (b_op, (arI G 400 v_op)), (b_ar, (arI G 400 v_ar)), (b_pi, (arI G 400 v_pi)), (b_pa, (arI G 400 v_pa)), (b_ws, (arJ G 8 v_ws))]) hP hD [0] [1, 2, 3, 4, 5, 6] rfl rfl (by decide) (by decide) hk1 hFc hP1 hD1
    generalize H1 = H at hP hS ⊢
    refine g5_rs [(b_tp, (arI G 400 v_tp)), (b_op, (arI G 400 v_op)), (b_ar, (arI G 400 v_ar)), (b_pi, (arI G 400 v_pi)), (b_pa, (arI G 400 v_pa)), (b_ws, (arJ G 8 v_ws)), (b_o, (oc12 u_th u_sa b_rf b_ro b_im b_ke u_fd b_tp u_td u_fr u_to u_so u_wo u_fa u_bd u_nc b_nl u_co b_op b_ar u_le b_pi b_pa u_pd u_od b_ws b_hw u_la b_se b_re u_bk u_va u_su u_ce u_ho u_wy u_bt u_ps b_pt u_tg u_sn b_ip u_ic b_ah b_be b_me u_wd b_tr b_ld u_st b_wn u_id))] hP hD (fun hP hD => ?_)
    refine lv_if_eq (tgt := 23) hx hb dX12_readPlain_7 (by decide) (fun c_14 => ?_) (fun c_14 => ?_)
    ·
      refine lv_aload_n hx hb dX12_readPlain_23 rfl (lv_at hl 0 rfl) ?_
      refine lv_bipush (v := 40) hx hb dX12_readPlain_24 (by decide) ?_
      obtain ⟨hPc, hDc, hFc⟩ := g5_sub3 (wc := [(b_o, (oc12 u_th u_sa b_rf b_ro b_im b_ke u_fd b_tp u_td u_fr u_to u_so u_wo u_fa u_bd u_nc b_nl u_co b_op b_ar u_le b_pi b_pa u_pd u_od b_ws b_hw u_la b_se b_re u_bk u_va u_su u_ce u_ho u_wy u_bt u_ps b_pt u_tg u_sn b_ip u_ic b_ah b_be b_me u_wd b_tr b_ld u_st b_wn u_id))]) hP hD hS hA [6] (by decide) rfl
      refine va_calli (va_runV (As := [.int 40]) (rest := []) ⟨hx, hb, hml, hown, hts⟩ (n_isSign l G b_o b_rf b_ro b_im b_ke b_tp b_nl b_op b_ar b_pi b_pa b_ws b_hw b_se b_re b_pt b_ip b_ah b_be b_me b_tr b_ld b_wn H.size u_th u_sa u_fd u_td u_fr u_to u_so u_fa u_bd u_nc u_co u_le u_pd u_od u_la u_bk u_ce u_ho u_wy u_bt u_ps u_tg u_sn u_ic u_wd u_id 40 u_wo u_va u_su u_st h_u_td h_u_fr h_u_to ⟨by omega, by omega⟩ h_u_nc h_u_co h_u_pd h_u_la h_u_bk h_u_ce h_u_ho h_u_wy h_u_bt h_u_ps h_u_ic h_u_id) (cwV 1 hts gV_X12_267 rfl rfl rfl hv_X12_isSign ⟨Nat.le_of_ble_eq_true rfl, Nat.le_of_ble_eq_true rfl⟩) (g5_preV hPc hK hDc hN hT hS hFc (ci := 12) (q0 := 0) rfl rfl) rfl rfl hl.1 rfl (lv_room (Nat.le_of_ble_eq_true rfl)) dX12_readPlain_26 ⟨Nat.le_of_ble_eq_true rfl, Nat.le_of_ble_eq_true rfl⟩) hS (fun q _ h => hFc q h) hFc (fun r u t H1 locs ht hvm hw hB hz1 hk1 hS => ?_)
      obtain ⟨hP1, hD1⟩ := hB
      rw [ht] at hP1
      rcases hw with ⟨i_15, rfl, rfl⟩ | ⟨rfl, rfl⟩
      ·
        have i_15 : u_so.toInt = 3 := i_15
        obtain ⟨hP, hD⟩ := va_join (wr := [(b_tp, (arI G 400 v_tp)), (b_op, (arI G 400 v_op)), (b_ar, (arI G 400 v_ar)), (b_pi, (arI G 400 v_pi)), (b_pa, (arI G 400 v_pa)), (b_ws, (arJ G 8 v_ws))]) hP hD [6] [0, 1, 2, 3, 4, 5] rfl rfl (by decide) (by decide) hk1 hFc hP1 hD1
        generalize H1 = H at hP hS ⊢
        refine g5_rs [(b_tp, (arI G 400 v_tp)), (b_op, (arI G 400 v_op)), (b_ar, (arI G 400 v_ar)), (b_pi, (arI G 400 v_pi)), (b_pa, (arI G 400 v_pa)), (b_ws, (arJ G 8 v_ws)), (b_o, (oc12 u_th u_sa b_rf b_ro b_im b_ke u_fd b_tp u_td u_fr u_to u_so u_wo u_fa u_bd u_nc b_nl u_co b_op b_ar u_le b_pi b_pa u_pd u_od b_ws b_hw u_la b_se b_re u_bk u_va u_su u_ce u_ho u_wy u_bt u_ps b_pt u_tg u_sn b_ip u_ic b_ah b_be b_me u_wd b_tr b_ld u_st b_wn u_id))] hP hD (fun hP hD => ?_)
        refine lv_if_eq (tgt := 40) hx hb dX12_readPlain_29 (by decide) (fun c_16 => ?_) (fun c_16 => ?_)
        ·
          exact absurd c_16 (by decide)
        ·
          have hlt9 : u_fr.toInt < u_to.toInt := tks_lt e_s (by omega)
          refine lv_aload_n hx hb dX12_readPlain_32 rfl (lv_at hl 0 rfl) ?_
          refine lv_bipush (v := 30) hx hb dX12_readPlain_33 (by decide) ?_
          obtain ⟨hPc, hDc, hFc⟩ := g5_sub3 (wc := [(b_o, (oc12 u_th u_sa b_rf b_ro b_im b_ke u_fd b_tp u_td u_fr u_to u_so u_wo u_fa u_bd u_nc b_nl u_co b_op b_ar u_le b_pi b_pa u_pd u_od b_ws b_hw u_la b_se b_re u_bk u_va u_su u_ce u_ho u_wy u_bt u_ps b_pt u_tg u_sn b_ip u_ic b_ah b_be b_me u_wd b_tr b_ld u_st b_wn u_id)), (b_tp, (arI G 400 v_tp)), (b_pi, (arI G 400 v_pi)), (b_pa, (arI G 400 v_pa))]) hP hD hS hA [6, 0, 3, 4] (by decide) rfl
          refine va_callv (va_runV (As := [.int 30]) (rest := []) ⟨hx, hb, hml, hown, hts⟩ (n_openBracket l G b_o b_tp b_pi b_pa b_rf b_ro b_im b_ke b_nl b_op b_ar b_ws b_hw b_se b_re b_pt b_ip b_ah b_be b_me b_tr b_ld b_wn H.size u_th u_sa u_fd u_td u_fr u_to u_so u_fa u_bd u_nc u_co u_le u_pd u_od u_la u_bk u_ce u_ho u_wy u_bt u_ps u_tg u_sn u_ic u_wd u_id 30 u_wo u_va u_su u_st v_tp v_pi v_pa h_u_td h_u_fr h_u_to h_u_bd h_u_nc h_u_co h_u_pd h_u_la h_u_bk h_u_ce h_u_ho h_u_wy h_u_bt h_u_ps h_u_ic h_u_id ⟨by decide, by decide⟩ (by omega) (by omega)) (cwV 1 hts gV_X12_270 rfl rfl rfl hv_X12_openBracket ⟨Nat.le_of_ble_eq_true rfl, Nat.le_of_ble_eq_true rfl⟩) (g5_preV hPc hK hDc hN hT hS hFc (ci := 12) (q0 := 0) rfl rfl) rfl rfl hl.1 rfl (lv_room (Nat.le_of_ble_eq_true rfl)) dX12_readPlain_35 ⟨Nat.le_of_ble_eq_true rfl, Nat.le_of_ble_eq_true rfl⟩) hS (fun q _ h => hFc q h) hFc (fun u t H1 locs ht hvm hw hB hz1 hk1 hS => ?_)
          obtain ⟨hP1, hD1⟩ := hB
          rw [ht] at hP1
          rcases hw with rfl | ⟨z23, z24, z25, z26, z27, z28, i_17, i_18, i_19, i_20, i_21, i_22, rfl⟩
          ·
            obtain ⟨hP, hD⟩ := va_join (wr := [(b_op, (arI G 400 v_op)), (b_ar, (arI G 400 v_ar)), (b_ws, (arJ G 8 v_ws))]) hP hD [6, 0, 3, 4] [1, 2, 5] rfl rfl (by decide) (by decide) hk1 hFc hP1 hD1
            generalize H1 = H at hP hS ⊢
            refine g5_rs [(b_op, (arI G 400 v_op)), (b_ar, (arI G 400 v_ar)), (b_ws, (arJ G 8 v_ws)), (b_o, (oc12 u_th u_sa b_rf b_ro b_im b_ke u_fd b_tp u_td u_fr u_to u_so u_wo u_fr 1 u_nc b_nl u_co b_op b_ar u_le b_pi b_pa u_pd u_od b_ws b_hw u_la b_se b_re u_bk u_va u_su u_ce u_ho u_wy u_bt u_ps b_pt u_tg u_sn b_ip u_ic b_ah b_be b_me u_wd b_tr b_ld u_st b_wn u_id)), (b_tp, (arI G 400 v_tp)), (b_pi, (arI G 400 v_pi)), (b_pa, (arI G 400 v_pa))] hP hD (fun hP hD => ?_)
            refine lv_iconst (v := 0) hx hb dX12_readPlain_38 (by decide) ?_
            exact W.iret (v := 0) hx hb hr (fun t ht hW => ⟨⟨0, [(b_o, (oc12 u_th u_sa b_rf b_ro b_im b_ke u_fd b_tp u_td u_fr u_to u_so u_wo u_fr 1 u_nc b_nl u_co b_op b_ar u_le b_pi b_pa u_pd u_od b_ws b_hw u_la b_se b_re u_bk u_va u_su u_ce u_ho u_wy u_bt u_ps b_pt u_tg u_sn b_ip u_ic b_ah b_be b_me u_wd b_tr b_ld u_st b_wn u_id)), (b_tp, (arI G 400 v_tp)), (b_op, (arI G 400 v_op)), (b_ar, (arI G 400 v_ar)), (b_pi, (arI G 400 v_pi)), (b_pa, (arI G 400 v_pa)), (b_ws, (arJ G 8 v_ws))], rfl, Or.inl (⟨0, ⟨by have zc_o_r : (0 : Int32).toInt = 0 := (by decide); omega, by have zc_o_r : (0 : Int32).toInt = 0 := (by decide); omega⟩, rfl, rfl⟩), by rw [ht]; exact hP.sub [3, 4, 0, 1, 5, 6, 2] rfl, hD.sub [3, 4, 0, 1, 5, 6, 2] (by decide) rfl⟩, hS.F ht⟩) hS.2.2 dX12_readPlain_39
          ·
            have i_17 : 0 ≤ z23.toInt ∧ z23.toInt ≤ 400 := i_17
            have i_18 : 0 ≤ z24.toInt ∧ z24.toInt ≤ 400 := i_18
            have i_19 : 0 ≤ z27.toInt ∧ z27.toInt ≤ 400 := i_19
            have i_20 : u_to.toInt ≤ z23.toInt ∧ z23.toInt ≤ z24.toInt ∧ z24.toInt ≤ u_td.toInt := i_20
            have i_21 : TKs z25.toInt z23.toInt z24.toInt := i_21
            have i_22 : z27.toInt = u_pd.toInt + 1 := i_22
            obtain ⟨hP, hD⟩ := va_join (wr := [(b_op, (arI G 400 v_op)), (b_ar, (arI G 400 v_ar)), (b_ws, (arJ G 8 v_ws))]) hP hD [6, 0, 3, 4] [1, 2, 5] rfl rfl (by decide) (by decide) hk1 hFc hP1 hD1
            generalize H1 = H at hP hS ⊢
            refine g5_rs [(b_op, (arI G 400 v_op)), (b_ar, (arI G 400 v_ar)), (b_ws, (arJ G 8 v_ws)), (b_o, (oc12 u_th u_sa b_rf b_ro b_im b_ke u_fd b_tp u_td z23 z24 z25 z26 u_fa u_bd u_nc b_nl u_co b_op b_ar u_le b_pi b_pa z27 z28 b_ws b_hw u_la b_se b_re u_bk u_va u_su u_ce u_ho u_wy u_bt u_ps b_pt u_tg u_sn b_ip u_ic b_ah b_be b_me u_wd b_tr b_ld u_st b_wn u_id)), (b_tp, (arI G 400 v_tp)), (b_pi, (arI G 400 (upd v_pi u_pd.toNatClampNeg 30))), (b_pa, (arI G 400 (upd v_pa u_pd.toNatClampNeg 0)))] hP hD (fun hP hD => ?_)
            refine lv_iconst (v := 0) hx hb dX12_readPlain_38 (by decide) ?_
            exact W.iret (v := 0) hx hb hr (fun t ht hW => ⟨⟨0, [(b_o, (oc12 u_th u_sa b_rf b_ro b_im b_ke u_fd b_tp u_td z23 z24 z25 z26 u_fa u_bd u_nc b_nl u_co b_op b_ar u_le b_pi b_pa z27 z28 b_ws b_hw u_la b_se b_re u_bk u_va u_su u_ce u_ho u_wy u_bt u_ps b_pt u_tg u_sn b_ip u_ic b_ah b_be b_me u_wd b_tr b_ld u_st b_wn u_id)), (b_tp, (arI G 400 v_tp)), (b_op, (arI G 400 v_op)), (b_ar, (arI G 400 v_ar)), (b_pi, (arI G 400 (upd v_pi u_pd.toNatClampNeg 30))), (b_pa, (arI G 400 (upd v_pa u_pd.toNatClampNeg 0))), (b_ws, (arJ G 8 v_ws))], rfl, Or.inr (⟨0, z23, z24, z25, z26, u_co, u_le, z27, z28, v_op, v_ar, (upd v_pi u_pd.toNatClampNeg 30), (upd v_pa u_pd.toNatClampNeg 0), i_17, i_18, h_u_co, i_19, ⟨by have zc_o_r : (0 : Int32).toInt = 0 := (by decide); omega, by have zc_o_r : (0 : Int32).toInt = 0 := (by decide); omega⟩, by omega, i_21, xj_push e_x (by omega) (by omega) ⟨by decide, by decide⟩ (Or.inr (by decide)), tj_0 (hj_push0 (tj_d0 e_j (Or.inl rfl)) (by omega) (by omega) (Or.inr (by decide)) (Or.inr (e_j.2.1 (Or.inl rfl)))) (by decide) (no31_push (e_j.2.1 (Or.inl rfl)) (by omega) (by omega) (by decide)), by have w9 := (twt_0 (by decide) : twt (0 : Int32).toInt = 0); omega, rfl, rfl⟩), by rw [ht]; exact hP.sub [3, 4, 0, 1, 5, 6, 2] rfl, hD.sub [3, 4, 0, 1, 5, 6, 2] (by decide) rfl⟩, hS.F ht⟩) hS.2.2 dX12_readPlain_39
      ·
        obtain ⟨hP, hD⟩ := va_join (wr := [(b_tp, (arI G 400 v_tp)), (b_op, (arI G 400 v_op)), (b_ar, (arI G 400 v_ar)), (b_pi, (arI G 400 v_pi)), (b_pa, (arI G 400 v_pa)), (b_ws, (arJ G 8 v_ws))]) hP hD [6] [0, 1, 2, 3, 4, 5] rfl rfl (by decide) (by decide) hk1 hFc hP1 hD1
        generalize H1 = H at hP hS ⊢
        refine g5_rs [(b_tp, (arI G 400 v_tp)), (b_op, (arI G 400 v_op)), (b_ar, (arI G 400 v_ar)), (b_pi, (arI G 400 v_pi)), (b_pa, (arI G 400 v_pa)), (b_ws, (arJ G 8 v_ws)), (b_o, (oc12 u_th u_sa b_rf b_ro b_im b_ke u_fd b_tp u_td u_fr u_to u_so u_wo u_fa u_bd u_nc b_nl u_co b_op b_ar u_le b_pi b_pa u_pd u_od b_ws b_hw u_la b_se b_re u_bk u_va u_su u_ce u_ho u_wy u_bt u_ps b_pt u_tg u_sn b_ip u_ic b_ah b_be b_me u_wd b_tr b_ld u_st b_wn u_id))] hP hD (fun hP hD => ?_)
        refine lv_if_eq (tgt := 40) hx hb dX12_readPlain_29 (by decide) (fun c_29 => ?_) (fun c_29 => ?_)
        ·
          refine lv_aload_n hx hb dX12_readPlain_40 rfl (lv_at hl 0 rfl) ?_
          have hE_30 : TJ v_op v_ar v_pi v_pa g_a.toInt u_co.toInt u_pd.toInt 1 := tj_1 (tj_d0 e_j (Or.inl rfl)) rfl
          obtain ⟨hPc, hDc, hFc⟩ := g5_sub3 (wc := [(b_o, (oc12 u_th u_sa b_rf b_ro b_im b_ke u_fd b_tp u_td u_fr u_to u_so u_wo u_fa u_bd u_nc b_nl u_co b_op b_ar u_le b_pi b_pa u_pd u_od b_ws b_hw u_la b_se b_re u_bk u_va u_su u_ce u_ho u_wy u_bt u_ps b_pt u_tg u_sn b_ip u_ic b_ah b_be b_me u_wd b_tr b_ld u_st b_wn u_id)), (b_tp, (arI G 400 v_tp)), (b_op, (arI G 400 v_op)), (b_ar, (arI G 400 v_ar)), (b_pi, (arI G 400 v_pi)), (b_pa, (arI G 400 v_pa)), (b_ws, (arJ G 8 v_ws))]) hP hD hS hA [6, 0, 1, 2, 3, 4, 5] (by decide) rfl
          refine va_calli (va_runV (As := []) (rest := []) ⟨hx, hb, hml, hown, hts⟩ (n_readPart l G b_o b_tp b_op b_ar b_pi b_pa b_ws b_rf b_ro b_im b_ke b_nl b_hw b_se b_re b_pt b_ip b_ah b_be b_me b_tr b_ld b_wn H.size u_th u_sa u_fd u_td u_fr u_to u_so u_fa u_bd u_nc u_co u_le u_pd u_od u_la u_bk u_ce u_ho u_wy u_bt u_ps u_tg u_sn u_ic u_wd u_id g_a u_wo u_va u_su u_st v_tp v_op v_ar v_pi v_pa v_ws g_op g_ar h_u_td h_u_fr h_u_to h_u_bd h_u_nc h_u_co h_u_pd h_u_la h_u_bk h_u_ce h_u_ho h_u_wy h_u_bt h_u_ps h_u_ic h_u_id (e_t) (e_s) (e_x) (hE_30)) (cwV 0 hts gV_X12_285 rfl rfl rfl hv_X12_readPart ⟨Nat.le_of_ble_eq_true rfl, Nat.le_of_ble_eq_true rfl⟩) (g5_preV hPc hK hDc hN hT hS hFc (ci := 12) (q0 := 0) rfl rfl) rfl rfl hl.1 rfl (lv_room (Nat.le_of_ble_eq_true rfl)) dX12_readPlain_41 ⟨Nat.le_of_ble_eq_true rfl, Nat.le_of_ble_eq_true rfl⟩) hS (fun q _ h => hFc q h) hFc (fun r u t H1 locs ht hvm hw hB hz1 hk1 hS => ?_)
          obtain ⟨hP1, hD1⟩ := hB
          rw [ht] at hP1
          rcases hw with ⟨z32, i_31, y33, rfl⟩ | ⟨z44, z45, z46, z47, z48, z49, z50, z51, z52, z53, z54, z55, z56, i_34, i_35, i_36, i_37, i_38, i_39, i_40, i_41, i_42, i_43, y57, rfl⟩
          ·
            have i_31 : 0 ≤ z32.toInt ∧ z32.toInt ≤ 4 := i_31
            obtain ⟨hP, hD⟩ := va_join (wr := []) hP hD [6, 0, 1, 2, 3, 4, 5] [] rfl rfl (by decide) (by decide) hk1 hFc hP1 hD1
            generalize H1 = H at hP hS ⊢
            refine g5_rs [(b_o, (oc12 u_th u_sa b_rf b_ro b_im b_ke u_fd b_tp u_td u_fr u_to u_so u_wo u_fr 1 u_nc b_nl u_co b_op b_ar u_le b_pi b_pa u_pd u_od b_ws b_hw u_la b_se b_re u_bk u_va u_su u_ce u_ho u_wy u_bt u_ps b_pt u_tg u_sn b_ip u_ic b_ah b_be b_me u_wd b_tr b_ld u_st b_wn u_id)), (b_tp, (arI G 400 v_tp)), (b_op, (arI G 400 v_op)), (b_ar, (arI G 400 v_ar)), (b_pi, (arI G 400 v_pi)), (b_pa, (arI G 400 v_pa)), (b_ws, (arJ G 8 v_ws))] hP hD (fun hP hD => ?_)
            refine g5_ti (v := z32) y33 ?_
            exact W.iret (v := z32) hx hb hr (fun t ht hW => ⟨⟨z32, [(b_o, (oc12 u_th u_sa b_rf b_ro b_im b_ke u_fd b_tp u_td u_fr u_to u_so u_wo u_fr 1 u_nc b_nl u_co b_op b_ar u_le b_pi b_pa u_pd u_od b_ws b_hw u_la b_se b_re u_bk u_va u_su u_ce u_ho u_wy u_bt u_ps b_pt u_tg u_sn b_ip u_ic b_ah b_be b_me u_wd b_tr b_ld u_st b_wn u_id)), (b_tp, (arI G 400 v_tp)), (b_op, (arI G 400 v_op)), (b_ar, (arI G 400 v_ar)), (b_pi, (arI G 400 v_pi)), (b_pa, (arI G 400 v_pa)), (b_ws, (arJ G 8 v_ws))], rfl, Or.inl (⟨z32, i_31, rfl, rfl⟩), by rw [ht]; exact hP.sub [0, 1, 2, 3, 4, 5, 6] rfl, hD.sub [0, 1, 2, 3, 4, 5, 6] (by decide) rfl⟩, hS.F ht⟩) hS.2.2 dX12_readPlain_44
          ·
            have i_34 : 0 ≤ z45.toInt ∧ z45.toInt ≤ 400 := i_34
            have i_35 : 0 ≤ z46.toInt ∧ z46.toInt ≤ 400 := i_35
            have i_36 : 0 ≤ z49.toInt ∧ z49.toInt ≤ 400 := i_36
            have i_37 : 0 ≤ z51.toInt ∧ z51.toInt ≤ 400 := i_37
            have i_38 : 0 ≤ z44.toInt ∧ z44.toInt ≤ 4 := i_38
            have i_39 : u_fr.toInt ≤ z45.toInt ∧ z45.toInt ≤ z46.toInt ∧ z46.toInt ≤ u_td.toInt := i_39
            have i_40 : TKs z47.toInt z45.toInt z46.toInt := i_40
            have i_41 : XJ g_op g_ar z53 z54 z55 z56 g_a.toInt z49.toInt z51.toInt z45.toInt := i_41
            have i_42 : TJ z53 z54 z55 z56 g_a.toInt z49.toInt z51.toInt z44.toInt := i_42
            have i_43 : twt z44.toInt + 1 ≤ 0 + 3 * (z45.toInt - u_fr.toInt) := i_43
            obtain ⟨hP, hD⟩ := va_join (wr := []) hP hD [6, 0, 1, 2, 3, 4, 5] [] rfl rfl (by decide) (by decide) hk1 hFc hP1 hD1
            generalize H1 = H at hP hS ⊢
            refine g5_rs [(b_o, (oc12 u_th u_sa b_rf b_ro b_im b_ke u_fd b_tp u_td z45 z46 z47 z48 u_fa u_bd u_nc b_nl z49 b_op b_ar z50 b_pi b_pa z51 z52 b_ws b_hw u_la b_se b_re u_bk u_va u_su u_ce u_ho u_wy u_bt u_ps b_pt u_tg u_sn b_ip u_ic b_ah b_be b_me u_wd b_tr b_ld u_st b_wn u_id)), (b_tp, (arI G 400 v_tp)), (b_op, (arI G 400 z53)), (b_ar, (arI G 400 z54)), (b_pi, (arI G 400 z55)), (b_pa, (arI G 400 z56)), (b_ws, (arJ G 8 v_ws))] hP hD (fun hP hD => ?_)
            refine g5_ti (v := z44) y57 ?_
            exact W.iret (v := z44) hx hb hr (fun t ht hW => ⟨⟨z44, [(b_o, (oc12 u_th u_sa b_rf b_ro b_im b_ke u_fd b_tp u_td z45 z46 z47 z48 u_fa u_bd u_nc b_nl z49 b_op b_ar z50 b_pi b_pa z51 z52 b_ws b_hw u_la b_se b_re u_bk u_va u_su u_ce u_ho u_wy u_bt u_ps b_pt u_tg u_sn b_ip u_ic b_ah b_be b_me u_wd b_tr b_ld u_st b_wn u_id)), (b_tp, (arI G 400 v_tp)), (b_op, (arI G 400 z53)), (b_ar, (arI G 400 z54)), (b_pi, (arI G 400 z55)), (b_pa, (arI G 400 z56)), (b_ws, (arJ G 8 v_ws))], rfl, Or.inr (⟨z44, z45, z46, z47, z48, z49, z50, z51, z52, z53, z54, z55, z56, i_34, i_35, i_36, i_37, i_38, by omega, i_40, i_41, i_42, by omega, rfl, rfl⟩), by rw [ht]; exact hP.sub [0, 1, 2, 3, 4, 5, 6] rfl, hD.sub [0, 1, 2, 3, 4, 5, 6] (by decide) rfl⟩, hS.F ht⟩) hS.2.2 dX12_readPlain_44
        ·
          exact absurd c_29 (by decide)
    ·
      exact absurd c_14 (by decide)
theorem dgX12_behindSum_0 : ∀ r ∈ ([(0, (.aload_n 0, 1)), (1, (.bipush 43, 2)), (3, (.invokevirtual 267, 3)), (6, (.ifCond .eq 8, 3)), (9, (.bipush 20, 2)), (11, (.goto 46, 3)), (14, (.aload_n 0, 1)), (15, (.bipush 45, 2)), (17, (.invokevirtual 267, 3)), (20, (.ifCond .eq 8, 3)), (23, (.bipush 21, 2)), (25, (.goto 32, 3)), (28, (.aload_n 0, 1)), (29, (.bipush 42, 2)), (31, (.invokevirtual 267, 3)), (34, (.ifCond .eq 8, 3)), (37, (.bipush 22, 2)), (39, (.goto 18, 3)), (42, (.aload_n 0, 1)), (43, (.bipush 47, 2)), (45, (.invokevirtual 267, 3)), (48, (.ifCond .eq 8, 3)), (51, (.bipush 23, 2)), (53, (.goto 4, 3)), (56, (.iconst (-1), 1)), (57, (.istore_n 2, 1)), (58, (.iload_n 2, 1)), (59, (.iconst (-1), 1)), (60, (.if_icmp .eq 23, 3)), (63, (.aload_n 0, 1)), (64, (.iload_n 2, 1)), (65, (.invokestatic 243, 3)), (68, (.invokevirtual 288, 3)), (71, (.aload_n 0, 1)), (72, (.iload_n 2, 1)), (73, (.iconst 0, 1)), (74, (.invokevirtual 261, 3)), (77, (.aload_n 0, 1)), (78, (.invokevirtual 208, 3)), (81, (.iconst 1, 1))] : List (Nat × (Instr × Nat))), decode cX12_behindSum r.1 = .ok r.2 := by decide +kernel
theorem dX12_behindSum_0 : decode cX12_behindSum 0 = .ok (.aload_n 0, 1) := dgX12_behindSum_0 (0, (.aload_n 0, 1)) (List.mem_of_getElem? (i := 0) rfl)
theorem dX12_behindSum_1 : decode cX12_behindSum 1 = .ok (.bipush 43, 2) := dgX12_behindSum_0 (1, (.bipush 43, 2)) (List.mem_of_getElem? (i := 1) rfl)
theorem dX12_behindSum_3 : decode cX12_behindSum 3 = .ok (.invokevirtual 267, 3) := dgX12_behindSum_0 (3, (.invokevirtual 267, 3)) (List.mem_of_getElem? (i := 2) rfl)
theorem dX12_behindSum_6 : decode cX12_behindSum 6 = .ok (.ifCond .eq 8, 3) := dgX12_behindSum_0 (6, (.ifCond .eq 8, 3)) (List.mem_of_getElem? (i := 3) rfl)
theorem dX12_behindSum_9 : decode cX12_behindSum 9 = .ok (.bipush 20, 2) := dgX12_behindSum_0 (9, (.bipush 20, 2)) (List.mem_of_getElem? (i := 4) rfl)
theorem dX12_behindSum_11 : decode cX12_behindSum 11 = .ok (.goto 46, 3) := dgX12_behindSum_0 (11, (.goto 46, 3)) (List.mem_of_getElem? (i := 5) rfl)
theorem dX12_behindSum_14 : decode cX12_behindSum 14 = .ok (.aload_n 0, 1) := dgX12_behindSum_0 (14, (.aload_n 0, 1)) (List.mem_of_getElem? (i := 6) rfl)
theorem dX12_behindSum_15 : decode cX12_behindSum 15 = .ok (.bipush 45, 2) := dgX12_behindSum_0 (15, (.bipush 45, 2)) (List.mem_of_getElem? (i := 7) rfl)
theorem dX12_behindSum_17 : decode cX12_behindSum 17 = .ok (.invokevirtual 267, 3) := dgX12_behindSum_0 (17, (.invokevirtual 267, 3)) (List.mem_of_getElem? (i := 8) rfl)
theorem dX12_behindSum_20 : decode cX12_behindSum 20 = .ok (.ifCond .eq 8, 3) := dgX12_behindSum_0 (20, (.ifCond .eq 8, 3)) (List.mem_of_getElem? (i := 9) rfl)
theorem dX12_behindSum_23 : decode cX12_behindSum 23 = .ok (.bipush 21, 2) := dgX12_behindSum_0 (23, (.bipush 21, 2)) (List.mem_of_getElem? (i := 10) rfl)
theorem dX12_behindSum_25 : decode cX12_behindSum 25 = .ok (.goto 32, 3) := dgX12_behindSum_0 (25, (.goto 32, 3)) (List.mem_of_getElem? (i := 11) rfl)
theorem dX12_behindSum_28 : decode cX12_behindSum 28 = .ok (.aload_n 0, 1) := dgX12_behindSum_0 (28, (.aload_n 0, 1)) (List.mem_of_getElem? (i := 12) rfl)
theorem dX12_behindSum_29 : decode cX12_behindSum 29 = .ok (.bipush 42, 2) := dgX12_behindSum_0 (29, (.bipush 42, 2)) (List.mem_of_getElem? (i := 13) rfl)
theorem dX12_behindSum_31 : decode cX12_behindSum 31 = .ok (.invokevirtual 267, 3) := dgX12_behindSum_0 (31, (.invokevirtual 267, 3)) (List.mem_of_getElem? (i := 14) rfl)
theorem dX12_behindSum_34 : decode cX12_behindSum 34 = .ok (.ifCond .eq 8, 3) := dgX12_behindSum_0 (34, (.ifCond .eq 8, 3)) (List.mem_of_getElem? (i := 15) rfl)
theorem dX12_behindSum_37 : decode cX12_behindSum 37 = .ok (.bipush 22, 2) := dgX12_behindSum_0 (37, (.bipush 22, 2)) (List.mem_of_getElem? (i := 16) rfl)
theorem dX12_behindSum_39 : decode cX12_behindSum 39 = .ok (.goto 18, 3) := dgX12_behindSum_0 (39, (.goto 18, 3)) (List.mem_of_getElem? (i := 17) rfl)
theorem dX12_behindSum_42 : decode cX12_behindSum 42 = .ok (.aload_n 0, 1) := dgX12_behindSum_0 (42, (.aload_n 0, 1)) (List.mem_of_getElem? (i := 18) rfl)
theorem dX12_behindSum_43 : decode cX12_behindSum 43 = .ok (.bipush 47, 2) := dgX12_behindSum_0 (43, (.bipush 47, 2)) (List.mem_of_getElem? (i := 19) rfl)
theorem dX12_behindSum_45 : decode cX12_behindSum 45 = .ok (.invokevirtual 267, 3) := dgX12_behindSum_0 (45, (.invokevirtual 267, 3)) (List.mem_of_getElem? (i := 20) rfl)
theorem dX12_behindSum_48 : decode cX12_behindSum 48 = .ok (.ifCond .eq 8, 3) := dgX12_behindSum_0 (48, (.ifCond .eq 8, 3)) (List.mem_of_getElem? (i := 21) rfl)
theorem dX12_behindSum_51 : decode cX12_behindSum 51 = .ok (.bipush 23, 2) := dgX12_behindSum_0 (51, (.bipush 23, 2)) (List.mem_of_getElem? (i := 22) rfl)
theorem dX12_behindSum_53 : decode cX12_behindSum 53 = .ok (.goto 4, 3) := dgX12_behindSum_0 (53, (.goto 4, 3)) (List.mem_of_getElem? (i := 23) rfl)
theorem dX12_behindSum_56 : decode cX12_behindSum 56 = .ok (.iconst (-1), 1) := dgX12_behindSum_0 (56, (.iconst (-1), 1)) (List.mem_of_getElem? (i := 24) rfl)
theorem dX12_behindSum_57 : decode cX12_behindSum 57 = .ok (.istore_n 2, 1) := dgX12_behindSum_0 (57, (.istore_n 2, 1)) (List.mem_of_getElem? (i := 25) rfl)
theorem dX12_behindSum_58 : decode cX12_behindSum 58 = .ok (.iload_n 2, 1) := dgX12_behindSum_0 (58, (.iload_n 2, 1)) (List.mem_of_getElem? (i := 26) rfl)
theorem dX12_behindSum_59 : decode cX12_behindSum 59 = .ok (.iconst (-1), 1) := dgX12_behindSum_0 (59, (.iconst (-1), 1)) (List.mem_of_getElem? (i := 27) rfl)
theorem dX12_behindSum_60 : decode cX12_behindSum 60 = .ok (.if_icmp .eq 23, 3) := dgX12_behindSum_0 (60, (.if_icmp .eq 23, 3)) (List.mem_of_getElem? (i := 28) rfl)
theorem dX12_behindSum_63 : decode cX12_behindSum 63 = .ok (.aload_n 0, 1) := dgX12_behindSum_0 (63, (.aload_n 0, 1)) (List.mem_of_getElem? (i := 29) rfl)
theorem dX12_behindSum_64 : decode cX12_behindSum 64 = .ok (.iload_n 2, 1) := dgX12_behindSum_0 (64, (.iload_n 2, 1)) (List.mem_of_getElem? (i := 30) rfl)
theorem dX12_behindSum_65 : decode cX12_behindSum 65 = .ok (.invokestatic 243, 3) := dgX12_behindSum_0 (65, (.invokestatic 243, 3)) (List.mem_of_getElem? (i := 31) rfl)
theorem dX12_behindSum_68 : decode cX12_behindSum 68 = .ok (.invokevirtual 288, 3) := dgX12_behindSum_0 (68, (.invokevirtual 288, 3)) (List.mem_of_getElem? (i := 32) rfl)
theorem dX12_behindSum_71 : decode cX12_behindSum 71 = .ok (.aload_n 0, 1) := dgX12_behindSum_0 (71, (.aload_n 0, 1)) (List.mem_of_getElem? (i := 33) rfl)
theorem dX12_behindSum_72 : decode cX12_behindSum 72 = .ok (.iload_n 2, 1) := dgX12_behindSum_0 (72, (.iload_n 2, 1)) (List.mem_of_getElem? (i := 34) rfl)
theorem dX12_behindSum_73 : decode cX12_behindSum 73 = .ok (.iconst 0, 1) := dgX12_behindSum_0 (73, (.iconst 0, 1)) (List.mem_of_getElem? (i := 35) rfl)
theorem dX12_behindSum_74 : decode cX12_behindSum 74 = .ok (.invokevirtual 261, 3) := dgX12_behindSum_0 (74, (.invokevirtual 261, 3)) (List.mem_of_getElem? (i := 36) rfl)
theorem dX12_behindSum_77 : decode cX12_behindSum 77 = .ok (.aload_n 0, 1) := dgX12_behindSum_0 (77, (.aload_n 0, 1)) (List.mem_of_getElem? (i := 37) rfl)
theorem dX12_behindSum_78 : decode cX12_behindSum 78 = .ok (.invokevirtual 208, 3) := dgX12_behindSum_0 (78, (.invokevirtual 208, 3)) (List.mem_of_getElem? (i := 38) rfl)
theorem dX12_behindSum_81 : decode cX12_behindSum 81 = .ok (.iconst 1, 1) := dgX12_behindSum_0 (81, (.iconst 1, 1)) (List.mem_of_getElem? (i := 39) rfl)
